section CWORLD2
variable {l : Launch} {g : zG} {d m0 m1 md : Nat} {M : zM} {T : Nat}
theorem L_X9_sights (hT : M 59 1 = nI T) (hT2 : T ≤ 12) {k a : Nat} (hk : k < 4) (ha : a + T ≤ 48) {w lane : Int32} {Q : Int32 → zS → zM → Prop} (hbad : ¬ (∀ t, t < T → 0 ≤ (M (92 + 2 * k) (a + t)).toInt ∧ (M (92 + 2 * k) (a + t)).toInt ≤ 15) → Q (-2) (ZS m0 m1 md) M) (hQ : (∀ t, t < T → 0 ≤ (M (92 + 2 * k) (a + t)).toInt ∧ (M (92 + 2 * k) (a + t)).toInt ≤ 15) → AW l g RX9 cX9_sights 7 (some .int) false (d + 1) 0 0 94 [some (.ref 0), some (.int (nI k)), some (.int lane), some (.int (nI a)), some (.ref (91 + 2 * k)), some (.int w), some (.int (nI T))] [] (ZS m0 m1 md) M (z_Qi Q)) :
    ∀ (q i : Nat), i + q = T → (∀ t, t < i → 0 ≤ (M (92 + 2 * k) (a + t)).toInt ∧ (M (92 + 2 * k) (a + t)).toInt ≤ 15) → AW l g RX9 cX9_sights 7 (some .int) false (d + 1) 0 0 55 [some (.ref 0), some (.int (nI k)), some (.int lane), some (.int (nI a)), some (.ref (91 + 2 * k)), some (.int w), some (.int (nI i))] [] (ZS m0 m1 md) M (z_Qi Q) := by
  intro q
  induction q with
  | zero =>
    intro i hi hg
    have hi : i = T := by omega
    subst hi
    refine AW.iload 57 dX9_sights_55 rfl rfl ?_
    refine AW.aload_n 58 dX9_sights_57 rfl rfl ?_
    refine AW.getR 61 dX9_sights_58 fX9_39 rfl (zI rfl rfl) rfl rfl ?_
    refine AW.getI 64 dX9_sights_61 fX9_133 rfl (zI rfl rfl) rfl ?_
    refine AW.topi (nI i) hT ?_
    refine AW.icmpN_ge 67 94 dX9_sights_64 (by decide) rfl (by omega) (by omega) (fun b64 => ?_) (fun b64 => absurd b64 (by omega))
    exact hQ hg
  | succ q ih =>
    intro i hi hg
    refine AW.iload 57 dX9_sights_55 rfl rfl ?_
    refine AW.aload_n 58 dX9_sights_57 rfl rfl ?_
    refine AW.getR 61 dX9_sights_58 fX9_39 rfl (zI rfl rfl) rfl rfl ?_
    refine AW.getI 64 dX9_sights_61 fX9_133 rfl (zI rfl rfl) rfl ?_
    refine AW.topi (nI T) hT ?_
    refine AW.icmpN_ge 67 94 dX9_sights_64 (by decide) rfl (by omega) (by omega) (fun b64 => absurd b64 (by omega)) (fun b64 => ?_)
    refine AW.aload 69 dX9_sights_67 rfl rfl ?_
    refine AW.getR 72 dX9_sights_69 fX9_151 rfl (zSh_is hk) (zSh_r0 hk) rfl ?_
    refine AW.iload_n 73 dX9_sights_72 rfl rfl ?_
    refine AW.iload 75 dX9_sights_73 rfl rfl ?_
    refine AW.iaddN 76 dX9_sights_75 rfl ?_
    refine AW.iald 77 dX9_sights_76 (zSh_a hk) rfl (by omega) (by decide) rfl ?_
    refine AW.bipush 79 (nI 15) dX9_sights_77 (by decide) rfl ?_
    refine AW.cSi2 82 dX9_sights_79 kX9_120 (Nat.le_of_ble_eq_true rfl) rfl (C_beyond rfl (by decide : (nI 15).toInt = 15) (fun b79 => ?_) (fun b79 => ?_))
    · skip
      refine AW.if_eq 85 88 dX9_sights_82 (by decide) rfl (fun h => absurd h (by decide)) (fun _ => ?_)
      refine AW.bipush 87 (-2) dX9_sights_85 (by decide) rfl ?_
      refine AW.iret dX9_sights_87 .int rfl rfl rfl ⟨_, rfl, ?_⟩
      exact hbad (fun h => by have := h i (by omega); omega)
    · skip
      refine AW.if_eq 85 88 dX9_sights_82 (by decide) rfl (fun _ => ?_) (fun h => absurd h (by decide))
      refine AW.iinc6 91 _ dX9_sights_88 (z_inc1 _) (by decide) rfl rfl ?_
      refine AW.goto 55 dX9_sights_91 (by decide) ?_
      exact ih (i + 1) (by omega) (fun t ht => by
        rcases Nat.lt_or_ge t i with h | h
        · exact hg t h
        · have : t = i := by omega
          subst this; omega)
theorem C_X9_sights (hT : M 59 1 = nI T) (hT1 : 1 ≤ T) (hT2 : T ≤ 12) (hz : ∀ k, k < 4 → 0 ≤ (M (91 + 2 * k) 2).toInt ∧ (M (91 + 2 * k) 2).toInt ≤ 48) {s lane i : Int32} {Q : Int32 → zS → zM → Prop} (hQ : Q (f_sights M s lane i).1 (ZS m0 m1 md) (f_sights M s lane i).2) : AMet l g yX9_sights cX9_sights 7 (some .int) (d + 2) 0 0 [.ref 0, .int s, .int lane, .int i] (ZS m0 m1 md) M (z_Qi Q) := by
  unfold f_sights at hQ
  rw [hT, nI_clamp (n := T) (by omega)] at hQ
  refine AMet.of (ini := false) rfl (fun h => by first | rfl | cases h) (Nat.le_of_ble_eq_true rfl) ?_
  show AW l g RX9 cX9_sights 7 (some .int) false _ _ _ 0 [some (.ref 0), some (.int s), some (.int lane), some (.int i), none, none, none] [] _ _ _
  refine AW.aload_n 1 dX9_sights_0 rfl rfl ?_
  refine AW.iload_n 2 dX9_sights_1 rfl rfl ?_
  refine AW.cVi1 5 dX9_sights_2 kX9_144 (zI rfl rfl) (Nat.le_of_ble_eq_true rfl) rfl (C_X9_noSheet (fun b2 => ?_) (fun b2 => ?_))
  · skip
    refine AW.if_ne 8 18 dX9_sights_5 (by decide) rfl (fun _ => ?_) (fun h => absurd h (by decide))
    refine AW.iconst 19 (-1) dX9_sights_18 (by decide) rfl ?_
    refine AW.iret dX9_sights_19 .int rfl rfl rfl ⟨_, rfl, ?_⟩
    (repeat' split at hQ) <;> first | exact hQ | (exfalso; omega)
  · skip
    obtain ⟨k, hk, rfl, hk2⟩ := z_nI (v := s) (n := 3) (by omega) (by omega)
    rw [nI_clamp (n := k) (by omega)] at hQ
    refine AW.if_ne 8 18 dX9_sights_5 (by decide) rfl (fun h => absurd h (by decide)) (fun _ => ?_)
    refine AW.iload_n 9 dX9_sights_8 rfl rfl ?_
    refine AW.iconst 10 (nI 1) dX9_sights_9 (by decide) rfl ?_
    refine AW.zicmp_lt 13 18 dX9_sights_10 (by decide) rfl rfl (by decide : (nI 1).toInt = 1) (fun b10 => ?_) (fun b10 => ?_)
    · skip
      refine AW.iconst 19 (-1) dX9_sights_18 (by decide) rfl ?_
      refine AW.iret dX9_sights_19 .int rfl rfl rfl ⟨_, rfl, ?_⟩
      (repeat' split at hQ) <;> first | exact hQ | (exfalso; omega)
    · skip
      refine AW.iload_n 14 dX9_sights_13 rfl rfl ?_
      refine AW.iconst 15 (nI 2) dX9_sights_14 (by decide) rfl ?_
      refine AW.zicmp_le 18 20 dX9_sights_15 (by decide) rfl rfl (by decide : (nI 2).toInt = 2) (fun b15 => ?_) (fun b15 => ?_)
      · skip
        refine AW.aload_n 21 dX9_sights_20 rfl rfl ?_
        refine AW.getR 24 dX9_sights_21 fX9_85 rfl (zI rfl rfl) rfl rfl ?_
        refine AW.iload_n 25 dX9_sights_24 rfl rfl ?_
        refine AW.aald 26 dX9_sights_25 (zA rfl rfl) (by decide) rfl (by omega) (by decide) (zSh_r (by omega)) rfl ?_
        refine AW.ast4 28 dX9_sights_26 (by decide) rfl rfl ?_
        refine AW.aload 30 dX9_sights_28 rfl rfl ?_
        refine AW.iload_n 31 dX9_sights_30 rfl rfl ?_
        refine AW.iload_n 32 dX9_sights_31 rfl rfl ?_
        refine AW.aload_n 33 dX9_sights_32 rfl rfl ?_
        refine AW.getR 36 dX9_sights_33 fX9_39 rfl (zI rfl rfl) rfl rfl ?_
        refine AW.getI 39 dX9_sights_36 fX9_133 rfl (zI rfl rfl) rfl ?_
        refine AW.topi (nI T) hT ?_
        refine AW.cVi3 42 dX9_sights_39 kX9_147 (zSh_is (by omega)) (Nat.le_of_ble_eq_true rfl) rfl (C_X5_findFault (by omega) (hz k (by omega)) ?_)
        refine AW.ist5 44 dX9_sights_42 (by decide) rfl rfl ?_
        refine AW.iload 46 dX9_sights_44 rfl rfl ?_
        refine AW.zif_ge 49 52 dX9_sights_46 (by decide) rfl rfl (fun b46 => ?_) (fun b46 => ?_)
        · skip
          have e1 := f_find_ok b46
          have e2 := hz k (by omega)
          rw [z_ti (n := T) (by omega)] at e1
          obtain ⟨a, ha, rfl, ha2⟩ := z_nI (v := i) (n := 47) (by omega) (by omega)
          rw [if_neg (by omega), if_neg (by omega), if_neg (by omega), nI_clamp (n := a) (by omega)] at hQ
          refine AW.iconst 53 (nI 0) dX9_sights_52 (by decide) rfl ?_
          refine AW.ist6 55 dX9_sights_53 (by decide) rfl rfl ?_
          refine L_X9_sights (T := T) hT hT2 (k := k) (a := a) (by omega) (by omega) (fun h => ?_) (fun h => ?_) T 0 (by omega) (fun t ht => absurd ht (by omega))
          · rw [if_neg h] at hQ; exact hQ
          · rw [if_pos h] at hQ
            refine AW.aload 96 dX9_sights_94 rfl rfl ?_
            refine AW.getR 99 dX9_sights_96 fX9_151 rfl (zSh_is (by omega)) (zSh_r0 (by omega)) rfl ?_
            refine AW.iload_n 100 dX9_sights_99 rfl rfl ?_
            refine AW.aload_n 101 dX9_sights_100 rfl rfl ?_
            refine AW.getR 104 dX9_sights_101 fX9_39 rfl (zI rfl rfl) rfl rfl ?_
            refine AW.getR 107 dX9_sights_104 fX9_140 rfl (zI rfl rfl) rfl rfl ?_
            refine AW.iconst 108 (nI 0) dX9_sights_107 (by decide) rfl ?_
            refine AW.aald 109 dX9_sights_108 (zA rfl rfl) (by decide) rfl (by omega) (by decide) rfl rfl ?_
            refine AW.iconst 110 (nI 0) dX9_sights_109 (by decide) rfl ?_
            refine AW.aload_n 111 dX9_sights_110 rfl rfl ?_
            refine AW.getR 114 dX9_sights_111 fX9_39 rfl (zI rfl rfl) rfl rfl ?_
            refine AW.getI 117 dX9_sights_114 fX9_133 rfl (zI rfl rfl) rfl ?_
            refine AW.topi (nI T) hT ?_
            refine AW.copy 120 dX9_sights_117 qX9_153 (zSh_a (by omega)) (zA rfl rfl) rfl rfl rfl (by omega) (by omega) (by decide) (by decide) (Nat.le_of_ble_eq_true rfl) rfl ?_
            refine AW.aload_n 121 dX9_sights_120 rfl rfl ?_
            refine AW.getR 124 dX9_sights_121 fX9_39 rfl (zI rfl rfl) rfl rfl ?_
            refine AW.getI 127 dX9_sights_124 fX9_133 rfl (zI rfl rfl) rfl ?_
            refine AW.topi (nI T) hT ?_
            refine AW.iret dX9_sights_127 .int rfl rfl rfl ⟨_, rfl, ?_⟩
            exact hQ
        · skip
          refine AW.iload 51 dX9_sights_49 rfl rfl ?_
          refine AW.iret dX9_sights_51 .int rfl rfl rfl ⟨_, rfl, ?_⟩
          (repeat' split at hQ) <;> first | exact hQ | (exfalso; omega)
      · skip
        refine AW.iconst 19 (-1) dX9_sights_18 (by decide) rfl ?_
        refine AW.iret dX9_sights_19 .int rfl rfl rfl ⟨_, rfl, ?_⟩
        (repeat' split at hQ) <;> first | exact hQ | (exfalso; omega)
theorem L_X9_lots (hT : M 59 1 = nI T) (hT2 : T ≤ 12) {k a : Nat} (hk : k < 4) (ha : a + T ≤ 48) {w : Int32} {Q : Int32 → zS → zM → Prop} (hQ : Q (z_sum (fun t => M (92 + 2 * k) (a + t)) T) (ZS m0 m1 md) (z_row M 62 (va_cpy (M (92 + 2 * k)) (M 62) a 0 T))) :
    ∀ (q i : Nat), i + q = T → AW l g RX9 cX9_lots 7 (some .int) false d 0 0 46 [some (.ref 0), some (.int (nI k)), some (.int (nI a)), some (.ref (91 + 2 * k)), some (.int w), some (.int (z_sum (fun t => M (92 + 2 * k) (a + t)) i)), some (.int (nI i))] [] (ZS m0 m1 md) (z_row M 62 (va_cpy (M (92 + 2 * k)) (M 62) a 0 i)) (z_Qi Q) := by
  intro q
  induction q with
  | zero =>
    intro i hi
    have hi : i = T := by omega
    subst hi
    refine AW.iload 48 dX9_lots_46 rfl rfl ?_
    refine AW.aload_n 49 dX9_lots_48 rfl rfl ?_
    refine AW.getR 52 dX9_lots_49 fX9_39 rfl (zI rfl rfl) rfl rfl ?_
    refine AW.getI 55 dX9_lots_52 fX9_133 rfl (zI rfl rfl) rfl ?_
    refine AW.topi (nI i) hT ?_
    refine AW.icmpN_ge 58 99 dX9_lots_55 (by decide) rfl (by omega) (by omega) (fun b55 => ?_) (fun b55 => absurd b55 (by omega))
    refine AW.iload 101 dX9_lots_99 rfl rfl ?_
    refine AW.iret dX9_lots_101 .int rfl rfl rfl ⟨_, rfl, ?_⟩
    exact hQ
  | succ q ih =>
    intro i hi
    refine AW.iload 48 dX9_lots_46 rfl rfl ?_
    refine AW.aload_n 49 dX9_lots_48 rfl rfl ?_
    refine AW.getR 52 dX9_lots_49 fX9_39 rfl (zI rfl rfl) rfl rfl ?_
    refine AW.getI 55 dX9_lots_52 fX9_133 rfl (zI rfl rfl) rfl ?_
    refine AW.topi (nI T) hT ?_
    refine AW.icmpN_ge 58 99 dX9_lots_55 (by decide) rfl (by omega) (by omega) (fun b55 => absurd b55 (by omega)) (fun b55 => ?_)
    refine AW.aload_n 59 dX9_lots_58 rfl rfl ?_
    refine AW.getR 62 dX9_lots_59 fX9_39 rfl (zI rfl rfl) rfl rfl ?_
    refine AW.getR 65 dX9_lots_62 fX9_140 rfl (zI rfl rfl) rfl rfl ?_
    refine AW.iconst 66 (nI 1) dX9_lots_65 (by decide) rfl ?_
    refine AW.aald 67 dX9_lots_66 (zA rfl rfl) (by decide) rfl (by omega) (by decide) rfl rfl ?_
    refine AW.iload 69 dX9_lots_67 rfl rfl ?_
    refine AW.aload_n 70 dX9_lots_69 rfl rfl ?_
    refine AW.getR 73 dX9_lots_70 fX9_151 rfl (zSh_is hk) (zSh_r0 hk) rfl ?_
    refine AW.iload_n 74 dX9_lots_73 rfl rfl ?_
    refine AW.iload 76 dX9_lots_74 rfl rfl ?_
    refine AW.iaddN 77 dX9_lots_76 rfl ?_
    refine AW.iald 78 dX9_lots_77 (zSh_a hk) rfl (by omega) (by decide) rfl ?_
    rw [z_row_ne _ (by omega : 92 + 2 * k ≠ 62)]
    refine AW.iast 79 dX9_lots_78 (zA rfl rfl) rfl (by omega) (by decide) rfl ?_
    rw [z_st_row, z_cpy_s (M (92 + 2 * k)) (M 62) a 0 i i (by omega)]
    refine AW.iload 81 dX9_lots_79 rfl rfl ?_
    refine AW.aload_n 82 dX9_lots_81 rfl rfl ?_
    refine AW.getR 85 dX9_lots_82 fX9_151 rfl (zSh_is hk) (zSh_r0 hk) rfl ?_
    refine AW.iload_n 86 dX9_lots_85 rfl rfl ?_
    refine AW.iload 88 dX9_lots_86 rfl rfl ?_
    refine AW.iaddN 89 dX9_lots_88 rfl ?_
    refine AW.iald 90 dX9_lots_89 (zSh_a hk) rfl (by omega) (by decide) rfl ?_
    refine AW.topi (M (92 + 2 * k) (a + i)) (by rw [z_row_ne _ (by omega : 92 + 2 * k ≠ 62)]) ?_
    refine AW.iadd 91 dX9_lots_90 rfl ?_
    refine AW.ist5 93 dX9_lots_91 (by decide) rfl rfl ?_
    refine AW.iinc6 96 _ dX9_lots_93 (z_inc1 _) (by decide) rfl rfl ?_
    refine AW.goto 46 dX9_lots_96 (by decide) ?_
    exact ih (i + 1) (by omega)
theorem C_X9_lots (hT : M 59 1 = nI T) (hT1 : 1 ≤ T) (hT2 : T ≤ 12) (hz : ∀ k, k < 4 → 0 ≤ (M (91 + 2 * k) 2).toInt ∧ (M (91 + 2 * k) 2).toInt ≤ 48) {s i : Int32} {Q : Int32 → zS → zM → Prop} (hQ : Q (f_lots M s i).1 (ZS m0 m1 md) (f_lots M s i).2) : AMet l g yX9_lots cX9_lots 7 (some .int) (d + 2) 0 0 [.ref 0, .int s, .int i] (ZS m0 m1 md) M (z_Qi Q) := by
  unfold f_lots at hQ
  rw [hT, nI_clamp (n := T) (by omega)] at hQ
  refine AMet.of (ini := false) rfl (fun h => by first | rfl | cases h) (Nat.le_of_ble_eq_true rfl) ?_
  show AW l g RX9 cX9_lots 7 (some .int) false _ _ _ 0 [some (.ref 0), some (.int s), some (.int i), none, none, none, none] [] _ _ _
  refine AW.aload_n 1 dX9_lots_0 rfl rfl ?_
  refine AW.iload_n 2 dX9_lots_1 rfl rfl ?_
  refine AW.cVi1 5 dX9_lots_2 kX9_144 (zI rfl rfl) (Nat.le_of_ble_eq_true rfl) rfl (C_X9_noSheet (fun b2 => ?_) (fun b2 => ?_))
  · skip
    refine AW.if_eq 8 10 dX9_lots_5 (by decide) rfl (fun h => absurd h (by decide)) (fun _ => ?_)
    refine AW.iconst 9 (-1) dX9_lots_8 (by decide) rfl ?_
    refine AW.iret dX9_lots_9 .int rfl rfl rfl ⟨_, rfl, ?_⟩
    (repeat' split at hQ) <;> first | exact hQ | (exfalso; omega)
  · skip
    obtain ⟨k, hk, rfl, hk2⟩ := z_nI (v := s) (n := 3) (by omega) (by omega)
    rw [nI_clamp (n := k) (by omega)] at hQ
    refine AW.if_eq 8 10 dX9_lots_5 (by decide) rfl (fun _ => ?_) (fun h => absurd h (by decide))
    refine AW.aload_n 11 dX9_lots_10 rfl rfl ?_
    refine AW.getR 14 dX9_lots_11 fX9_85 rfl (zI rfl rfl) rfl rfl ?_
    refine AW.iload_n 15 dX9_lots_14 rfl rfl ?_
    refine AW.aald 16 dX9_lots_15 (zA rfl rfl) (by decide) rfl (by omega) (by decide) (zSh_r (by omega)) rfl ?_
    refine AW.astn3 17 dX9_lots_16 (by decide) rfl rfl ?_
    refine AW.aload_n 18 dX9_lots_17 rfl rfl ?_
    refine AW.iconst 19 (nI 0) dX9_lots_18 (by decide) rfl ?_
    refine AW.iload_n 20 dX9_lots_19 rfl rfl ?_
    refine AW.aload_n 21 dX9_lots_20 rfl rfl ?_
    refine AW.getR 24 dX9_lots_21 fX9_39 rfl (zI rfl rfl) rfl rfl ?_
    refine AW.getI 27 dX9_lots_24 fX9_133 rfl (zI rfl rfl) rfl ?_
    refine AW.topi (nI T) hT ?_
    refine AW.cVi3 30 dX9_lots_27 kX9_147 (zSh_is (by omega)) (Nat.le_of_ble_eq_true rfl) rfl (C_X5_findFault (by omega) (hz k (by omega)) ?_)
    refine AW.ist4 32 dX9_lots_30 (by decide) rfl rfl ?_
    refine AW.iload 34 dX9_lots_32 rfl rfl ?_
    refine AW.zif_ge 37 40 dX9_lots_34 (by decide) rfl rfl (fun b34 => ?_) (fun b34 => ?_)
    · skip
      have e1 := f_find_ok b34
      have e2 := hz k (by omega)
      rw [z_ti (n := T) (by omega)] at e1
      obtain ⟨a, ha, rfl, ha2⟩ := z_nI (v := i) (n := 47) (by omega) (by omega)
      rw [if_neg (by omega), if_neg (by omega), nI_clamp (n := a) (by omega)] at hQ
      refine AW.iconst 41 (nI 0) dX9_lots_40 (by decide) rfl ?_
      refine AW.ist5 43 dX9_lots_41 (by decide) rfl rfl ?_
      refine AW.iconst 44 (nI 0) dX9_lots_43 (by decide) rfl ?_
      refine AW.ist6 46 dX9_lots_44 (by decide) rfl rfl ?_
      have L := L_X9_lots (l := l) (g := g) (d := d + 2) (m0 := m0) (m1 := m1) (md := md) (M := M) (T := T) hT hT2 (k := k) (a := a) (w := f_find M (91 + 2 * k) (nI 0) (nI a) (nI T)) (by omega) (by omega) hQ T 0 (by omega)
      rw [z_cpy_0, z_row_self] at L
      exact L
    · skip
      refine AW.iload 39 dX9_lots_37 rfl rfl ?_
      refine AW.iret dX9_lots_39 .int rfl rfl rfl ⟨_, rfl, ?_⟩
      (repeat' split at hQ) <;> first | exact hQ | (exfalso; omega)
end CWORLD2
