theorem g_finds_ok {M : zM} {s : Nat} {lane i n : Int32} (h : 0 ≤ (g_finds M s lane i n).toInt) : ¬ (M 133 s).toInt < 0 ∧ (M 133 s).toInt = lane.toInt ∧ ¬ i.toInt < 0 ∧ i.toInt + n.toInt ≤ (M 134 s).toInt := by
  unfold g_finds at h
  repeat' split at h
  · exact absurd h (by decide)
  · exact absurd h (by decide)
  · exact absurd h (by decide)
  · omega
def z_item (lane v : Int32) : Int32 := if lane.toInt = 0 then (if v.toInt = 0 then nI 0 else nI 1) else if lane.toInt = 1 then v.toInt8.toInt32 else v
def g_item (M : zM) (s lane i v : Int32) : Int32 × zM := if ¬ (0 ≤ s.toInt ∧ s.toInt ≤ 3) then (-1, M) else if ¬ (0 ≤ lane.toInt ∧ lane.toInt ≤ 2) then (-1, M) else if (g_finds M s.toNatClampNeg lane i (nI 1)).toInt < 0 then (g_finds M s.toNatClampNeg lane i (nI 1), M) else
  (nI 1, z_st M 135 (48 * s.toNatClampNeg + i.toNatClampNeg) (z_item lane v))
def g_copy (M : zM) (a i b j n : Int32) : Int32 × zM := if ¬ (0 ≤ a.toInt ∧ a.toInt ≤ 3) then (-1, M) else if ¬ (0 ≤ b.toInt ∧ b.toInt ≤ 3) then (-1, M) else
  if (M 133 a.toNatClampNeg).toInt < 0 then (-11, M) else if (M 133 b.toNatClampNeg).toInt < 0 then (-11, M) else if ¬ (M 133 a.toNatClampNeg).toInt = (M 133 b.toNatClampNeg).toInt then (-12, M) else if n.toInt < 0 then (-13, M) else
  if (g_finds M a.toNatClampNeg (M 133 a.toNatClampNeg) i n).toInt < 0 then (-13, M) else if (g_finds M b.toNatClampNeg (M 133 b.toNatClampNeg) j n).toInt < 0 then (-13, M) else
  (n, z_row (z_row M 136 (va_cpy (M 135) (M 136) (48 * a.toNatClampNeg + i.toNatClampNeg) 0 n.toNatClampNeg)) 135 (va_cpy (va_cpy (M 135) (M 136) (48 * a.toNatClampNeg + i.toNatClampNeg) 0 n.toNatClampNeg) (M 135) 0 (48 * b.toNatClampNeg + j.toNatClampNeg) n.toNatClampNeg))
theorem z_cpy_0 (f g : Nat → Int32) (sp dp : Nat) : va_cpy f g sp dp 0 = g := by funext j; unfold va_cpy; rw [if_neg (by omega)]
theorem z_cpy_s (f g : Nat → Int32) (sp dp k p : Nat) (hp : p = dp + k) : upd (va_cpy f g sp dp k) p (f (sp + k)) = va_cpy f g sp dp (k + 1) := by
  subst hp
  funext j
  unfold upd va_cpy
  by_cases h : j = dp + k
  · subst h; rw [if_pos rfl, if_pos ⟨by omega, by omega⟩]; congr 1; omega
  · rw [if_neg h]
    by_cases h2 : dp ≤ j ∧ j < dp + k
    · rw [if_pos h2, if_pos ⟨h2.1, by omega⟩]
    · rw [if_neg h2, if_neg (by omega)]
theorem z_cpy_s0 (f g : Nat → Int32) (dp k : Nat) : upd (va_cpy f g 0 dp k) (dp + k) (f k) = va_cpy f g 0 dp (k + 1) := by
  have := z_cpy_s f g 0 dp k (dp + k) rfl
  rwa [Nat.zero_add] at this
section MSHEET2
variable {l : Launch} {g : zG} {d m0 m1 md : Nat} {M : zM}
theorem L_X10_sheet {k : Nat} (hk : k < 4) {lane n : Int32} {Q : Int32 → zS → zM → Prop} (hQ : Q n (ZS m0 m1 md) (z_row M 135 (z_rng (M 135) (48 * k) (48 * k + 48) (nI 0)))) : ∀ (q i : Nat), i + q = 48 → AW l g RX10 cX10_sheet 5 (some .int) false d 0 0 46 [some (.ref 99), some (.int (nI k)), some (.int lane), some (.int n), some (.int (nI i))] [] (ZS m0 m1 md) (z_row M 135 (z_rng (M 135) (48 * k) (48 * k + i) (nI 0))) (z_Qi Q) := by
  intro q
  induction q with
  | zero =>
    intro i hi
    have hi : i = 48 := by omega
    subst hi
    refine AW.iload 48 dX10_sheet_46 rfl rfl ?_
    refine AW.bipush 50 (nI 48) dX10_sheet_48 (by decide) rfl ?_
    refine AW.icmp_ge 53 72 dX10_sheet_50 (by decide) rfl (fun _ => ?_) (fun h => absurd h (by decide))
    refine AW.iload_n 73 dX10_sheet_72 rfl rfl ?_
    refine AW.iret dX10_sheet_73 .int rfl rfl rfl ⟨_, rfl, ?_⟩
    exact hQ
  | succ q ih =>
    intro i hi
    refine AW.iload 48 dX10_sheet_46 rfl rfl ?_
    refine AW.bipush 50 (nI 48) dX10_sheet_48 (by decide) rfl ?_
    refine AW.icmpN_ge 53 72 dX10_sheet_50 (by decide) rfl (by omega) (by omega) (fun b50 => absurd b50 (by omega)) (fun b50 => ?_)
    refine AW.aload_n 54 dX10_sheet_53 rfl rfl ?_
    refine AW.getR 57 dX10_sheet_54 fX10_123 rfl (zI rfl rfl) rfl rfl ?_
    refine AW.bipush 59 (nI 48) dX10_sheet_57 (by decide) rfl ?_
    refine AW.iload_n 60 dX10_sheet_59 rfl rfl ?_
    refine AW.imulN 61 dX10_sheet_60 rfl ?_
    refine AW.iload 63 dX10_sheet_61 rfl rfl ?_
    refine AW.iaddN 64 dX10_sheet_63 rfl ?_
    refine AW.iconst 65 (nI 0) dX10_sheet_64 (by decide) rfl ?_
    refine AW.iast 66 dX10_sheet_65 (zA rfl rfl) rfl (by omega) (by decide) rfl ?_
    rw [z_st_row, z_rng_s _ _ _ _ (by omega)]
    refine AW.iinc4 69 _ dX10_sheet_66 (z_inc1 _) (by decide) rfl rfl ?_
    refine AW.goto 46 dX10_sheet_69 (by decide) ?_
    exact ih (i + 1) (by omega)
theorem C_X10_sheet {s lane n : Int32} {Q : Int32 → zS → zM → Prop} (hQ : Q (g_sheet M s lane n).1 (ZS m0 m1 md) (g_sheet M s lane n).2) : AMet l g yX10_sheet cX10_sheet 5 (some .int) (d + 2) 0 0 [.ref 99, .int s, .int lane, .int n] (ZS m0 m1 md) M (z_Qi Q) := by
  unfold g_sheet at hQ
  refine AMet.of (ini := false) rfl (fun h => by first | rfl | cases h) (Nat.le_of_ble_eq_true rfl) ?_
  show AW l g RX10 cX10_sheet 5 (some .int) false _ _ _ 0 [some (.ref 99), some (.int s), some (.int lane), some (.int n), none] [] _ _ _
  refine AW.iload_n 1 dX10_sheet_0 rfl rfl ?_
  refine AW.cSi1 4 dX10_sheet_1 kX10_189 (Nat.le_of_ble_eq_true rfl) rfl (C_X10_isSheet (fun b1 => ?_) (fun b1 => ?_))
  · skip
    obtain ⟨k, hk, rfl, hk2⟩ := z_nI b1.1 b1.2
    rw [nI_clamp (by omega)] at hQ
    refine AW.if_eq 7 20 dX10_sheet_4 (by decide) rfl (fun h => absurd h (by decide)) (fun _ => ?_)
    refine AW.iload_n 8 dX10_sheet_7 rfl rfl ?_
    refine AW.cSi1 11 dX10_sheet_8 kX10_278 (Nat.le_of_ble_eq_true rfl) rfl (C_X10_isLane (fun b8 => ?_) (fun b8 => ?_))
    · skip
      refine AW.if_eq 14 20 dX10_sheet_11 (by decide) rfl (fun h => absurd h (by decide)) (fun _ => ?_)
      refine AW.iload_n 15 dX10_sheet_14 rfl rfl ?_
      refine AW.bipush 17 (nI 48) dX10_sheet_15 (by decide) rfl ?_
      refine AW.zicmp_le 20 22 dX10_sheet_17 (by decide) rfl rfl (by decide : (nI 48).toInt = 48) (fun b17 => ?_) (fun b17 => ?_)
      · skip
        refine AW.iload_n 23 dX10_sheet_22 rfl rfl ?_
        refine AW.zif_ge 26 29 dX10_sheet_23 (by decide) rfl rfl (fun b23 => ?_) (fun b23 => ?_)
        · skip
          refine AW.aload_n 30 dX10_sheet_29 rfl rfl ?_
          refine AW.getR 33 dX10_sheet_30 fX10_117 rfl (zI rfl rfl) rfl rfl ?_
          refine AW.iload_n 34 dX10_sheet_33 rfl rfl ?_
          refine AW.iload_n 35 dX10_sheet_34 rfl rfl ?_
          refine AW.iast 36 dX10_sheet_35 (zA rfl rfl) rfl (by omega) (by decide) rfl ?_
          refine AW.aload_n 37 dX10_sheet_36 rfl rfl ?_
          refine AW.getR 40 dX10_sheet_37 fX10_120 rfl (zI rfl rfl) rfl rfl ?_
          refine AW.iload_n 41 dX10_sheet_40 rfl rfl ?_
          refine AW.iload_n 42 dX10_sheet_41 rfl rfl ?_
          refine AW.iast 43 dX10_sheet_42 (zA rfl rfl) rfl (by omega) (by decide) rfl ?_
          rw [if_neg (by omega), if_neg (by omega), if_neg (by omega), if_neg (by omega)] at hQ
          have L := L_X10_sheet (l := l) (g := g) (d := d + 2) (M := z_st (z_st M 133 k lane) 134 k n) (k := k) (lane := lane) (n := n) (by omega) hQ 48 0 (by omega)
          rw [Nat.add_zero (48 * k), z_rng_0, z_row_self] at L
          refine AW.iconst 44 (nI 0) dX10_sheet_43 (by decide) rfl ?_
          refine AW.ist4 46 dX10_sheet_44 (by decide) rfl rfl ?_
          exact L
        · skip
          refine AW.bipush 28 (-14) dX10_sheet_26 (by decide) rfl ?_
          refine AW.iret dX10_sheet_28 .int rfl rfl rfl ⟨_, rfl, ?_⟩
          repeat' split at hQ
          all_goals first | exact hQ | (exfalso; omega)
      · skip
        refine AW.iconst 21 (-1) dX10_sheet_20 (by decide) rfl ?_
        refine AW.iret dX10_sheet_21 .int rfl rfl rfl ⟨_, rfl, ?_⟩
        repeat' split at hQ
        all_goals first | exact hQ | (exfalso; omega)
    · skip
      refine AW.if_eq 14 20 dX10_sheet_11 (by decide) rfl (fun _ => ?_) (fun h => absurd h (by decide))
      refine AW.iconst 21 (-1) dX10_sheet_20 (by decide) rfl ?_
      refine AW.iret dX10_sheet_21 .int rfl rfl rfl ⟨_, rfl, ?_⟩
      repeat' split at hQ
      all_goals first | exact hQ | (exfalso; omega)
  · skip
    refine AW.if_eq 7 20 dX10_sheet_4 (by decide) rfl (fun _ => ?_) (fun h => absurd h (by decide))
    refine AW.iconst 21 (-1) dX10_sheet_20 (by decide) rfl ?_
    refine AW.iret dX10_sheet_21 .int rfl rfl rfl ⟨_, rfl, ?_⟩
    repeat' split at hQ
    all_goals first | exact hQ | (exfalso; omega)
theorem C_X10_item {s lane i v : Int32} (hz : ∀ k, k < 4 → (M 134 k).toInt ≤ 48) {Q : Int32 → zS → zM → Prop} (hQ : Q (g_item M s lane i v).1 (ZS m0 m1 md) (g_item M s lane i v).2) : AMet l g yX10_item cX10_item 6 (some .int) (d + 2) 0 0 [.ref 99, .int s, .int lane, .int i, .int v] (ZS m0 m1 md) M (z_Qi Q) := by
  unfold g_item at hQ
  refine AMet.of (ini := false) rfl (fun h => by first | rfl | cases h) (Nat.le_of_ble_eq_true rfl) ?_
  show AW l g RX10 cX10_item 6 (some .int) false _ _ _ 0 [some (.ref 99), some (.int s), some (.int lane), some (.int i), some (.int v), none] [] _ _ _
  refine AW.iload_n 1 dX10_item_0 rfl rfl ?_
  refine AW.cSi1 4 dX10_item_1 kX10_189 (Nat.le_of_ble_eq_true rfl) rfl (C_X10_isSheet (fun b1 => ?_) (fun b1 => ?_))
  · skip
    obtain ⟨k, hk, rfl, hk2⟩ := z_nI b1.1 b1.2
    rw [nI_clamp (by omega)] at hQ
    refine AW.if_eq 7 14 dX10_item_4 (by decide) rfl (fun h => absurd h (by decide)) (fun _ => ?_)
    refine AW.iload_n 8 dX10_item_7 rfl rfl ?_
    refine AW.cSi1 11 dX10_item_8 kX10_278 (Nat.le_of_ble_eq_true rfl) rfl (C_X10_isLane (fun b8 => ?_) (fun b8 => ?_))
    · skip
      refine AW.if_ne 14 16 dX10_item_11 (by decide) rfl (fun _ => ?_) (fun h => absurd h (by decide))
      refine AW.aload_n 17 dX10_item_16 rfl rfl ?_
      refine AW.iload_n 18 dX10_item_17 rfl rfl ?_
      refine AW.iload_n 19 dX10_item_18 rfl rfl ?_
      refine AW.iload_n 20 dX10_item_19 rfl rfl ?_
      refine AW.iconst 21 (nI 1) dX10_item_20 (by decide) rfl ?_
      refine AW.cVi4 24 dX10_item_21 kX10_192 (zI rfl rfl) (Nat.le_of_ble_eq_true rfl) rfl (C_X10_finds (by omega) ?_)
      refine AW.ist5 26 dX10_item_24 (by decide) rfl rfl ?_
      refine AW.iload 28 dX10_item_26 rfl rfl ?_
      refine AW.zif_ge 31 34 dX10_item_28 (by decide) rfl rfl (fun b28 => ?_) (fun b28 => ?_)
      · skip
        have e1 := g_finds_ok b28
        have e2 := hz k (by omega)
        have e0 : (nI 1).toInt = 1 := by decide
        obtain ⟨a, ha, rfl, ha2⟩ := z_nI (v := i) (n := 47) (by omega) (by omega)
        rw [if_neg (by omega), if_neg (by omega), if_neg (by omega), nI_clamp (n := a) (by omega)] at hQ
        refine AW.aload_n 35 dX10_item_34 rfl rfl ?_
        refine AW.getR 38 dX10_item_35 fX10_123 rfl (zI rfl rfl) rfl rfl ?_
        refine AW.bipush 40 (nI 48) dX10_item_38 (by decide) rfl ?_
        refine AW.iload_n 41 dX10_item_40 rfl rfl ?_
        refine AW.imulN 42 dX10_item_41 rfl ?_
        refine AW.iload_n 43 dX10_item_42 rfl rfl ?_
        refine AW.iaddN 44 dX10_item_43 rfl ?_
        refine AW.iload_n 45 dX10_item_44 rfl rfl ?_
        refine AW.zif_ne 48 61 dX10_item_45 (by decide) rfl rfl (fun b45 => ?_) (fun b45 => ?_)
        · skip
          refine AW.iload_n 62 dX10_item_61 rfl rfl ?_
          refine AW.iconst 63 (nI 1) dX10_item_62 (by decide) rfl ?_
          refine AW.zicmp_ne 66 72 dX10_item_63 (by decide) rfl rfl (by decide : (nI 1).toInt = 1) (fun b63 => ?_) (fun b63 => ?_)
          · skip
            refine AW.iload 74 dX10_item_72 rfl rfl ?_
            refine AW.iast 75 dX10_item_74 (zA rfl rfl) rfl (by omega) (by decide) rfl ?_
            refine AW.iconst 76 (nI 1) dX10_item_75 (by decide) rfl ?_
            refine AW.iret dX10_item_76 .int rfl rfl rfl ⟨_, rfl, ?_⟩
            unfold z_item at hQ
            repeat' split at hQ
            all_goals first | exact hQ | (exfalso; omega)
          · skip
            refine AW.iload 68 dX10_item_66 rfl rfl ?_
            refine AW.i2b 69 dX10_item_68 rfl ?_
            refine AW.goto 74 dX10_item_69 (by decide) ?_
            refine AW.iast 75 dX10_item_74 (zA rfl rfl) rfl (by omega) (by decide) rfl ?_
            refine AW.iconst 76 (nI 1) dX10_item_75 (by decide) rfl ?_
            refine AW.iret dX10_item_76 .int rfl rfl rfl ⟨_, rfl, ?_⟩
            unfold z_item at hQ
            repeat' split at hQ
            all_goals first | exact hQ | (exfalso; omega)
        · skip
          refine AW.iload 50 dX10_item_48 rfl rfl ?_
          refine AW.zif_eq 53 57 dX10_item_50 (by decide) rfl rfl (fun b50 => ?_) (fun b50 => ?_)
          · skip
            refine AW.iconst 58 (nI 0) dX10_item_57 (by decide) rfl ?_
            refine AW.goto 74 dX10_item_58 (by decide) ?_
            refine AW.iast 75 dX10_item_74 (zA rfl rfl) rfl (by omega) (by decide) rfl ?_
            refine AW.iconst 76 (nI 1) dX10_item_75 (by decide) rfl ?_
            refine AW.iret dX10_item_76 .int rfl rfl rfl ⟨_, rfl, ?_⟩
            unfold z_item at hQ
            repeat' split at hQ
            all_goals first | exact hQ | (exfalso; omega)
          · skip
            refine AW.iconst 54 (nI 1) dX10_item_53 (by decide) rfl ?_
            refine AW.goto 74 dX10_item_54 (by decide) ?_
            refine AW.iast 75 dX10_item_74 (zA rfl rfl) rfl (by omega) (by decide) rfl ?_
            refine AW.iconst 76 (nI 1) dX10_item_75 (by decide) rfl ?_
            refine AW.iret dX10_item_76 .int rfl rfl rfl ⟨_, rfl, ?_⟩
            unfold z_item at hQ
            repeat' split at hQ
            all_goals first | exact hQ | (exfalso; omega)
      · skip
        refine AW.iload 33 dX10_item_31 rfl rfl ?_
        refine AW.iret dX10_item_33 .int rfl rfl rfl ⟨_, rfl, ?_⟩
        repeat' split at hQ
        all_goals first | exact hQ | (exfalso; omega)
    · skip
      refine AW.if_ne 14 16 dX10_item_11 (by decide) rfl (fun h => absurd h (by decide)) (fun _ => ?_)
      refine AW.iconst 15 (-1) dX10_item_14 (by decide) rfl ?_
      refine AW.iret dX10_item_15 .int rfl rfl rfl ⟨_, rfl, ?_⟩
      repeat' split at hQ
      all_goals first | exact hQ | (exfalso; omega)
  · skip
    refine AW.if_eq 7 14 dX10_item_4 (by decide) rfl (fun _ => ?_) (fun h => absurd h (by decide))
    refine AW.iconst 15 (-1) dX10_item_14 (by decide) rfl ?_
    refine AW.iret dX10_item_15 .int rfl rfl rfl ⟨_, rfl, ?_⟩
    repeat' split at hQ
    all_goals first | exact hQ | (exfalso; omega)
theorem L1_X10_copy {ka kb a b n : Nat} (hka : ka < 4) (hkb : kb < 4) (ha : a + n ≤ 48) (hb : b + n ≤ 48) {Q : Option Value → zS → zM → Prop} (hQ : AW l g RX10 cX10_copy 7 (some .int) false d 0 0 135 [some (.ref 99), some (.int (nI ka)), some (.int (nI a)), some (.int (nI kb)), some (.int (nI b)), some (.int (nI n)), some (.int (nI n))] [] (ZS m0 m1 md) (z_row M 136 (va_cpy (M 135) (M 136) (48 * ka + a) 0 n)) Q) :
    ∀ (q i : Nat), i + q = n → AW l g RX10 cX10_copy 7 (some .int) false d 0 0 101 [some (.ref 99), some (.int (nI ka)), some (.int (nI a)), some (.int (nI kb)), some (.int (nI b)), some (.int (nI n)), some (.int (nI i))] [] (ZS m0 m1 md) (z_row M 136 (va_cpy (M 135) (M 136) (48 * ka + a) 0 i)) Q := by
  intro q
  induction q with
  | zero =>
    intro i hi
    have hi : i = n := by omega
    subst hi
    refine AW.iload 103 dX10_copy_101 rfl rfl ?_
    refine AW.iload 105 dX10_copy_103 rfl rfl ?_
    refine AW.icmpN_ge 108 135 dX10_copy_105 (by decide) rfl (by omega) (by omega) (fun b105 => ?_) (fun b105 => absurd b105 (by omega))
    exact hQ
  | succ q ih =>
    intro i hi
    refine AW.iload 103 dX10_copy_101 rfl rfl ?_
    refine AW.iload 105 dX10_copy_103 rfl rfl ?_
    refine AW.icmpN_ge 108 135 dX10_copy_105 (by decide) rfl (by omega) (by omega) (fun b105 => absurd b105 (by omega)) (fun b105 => ?_)
    refine AW.aload_n 109 dX10_copy_108 rfl rfl ?_
    refine AW.getR 112 dX10_copy_109 fX10_126 rfl (zI rfl rfl) rfl rfl ?_
    refine AW.iload 114 dX10_copy_112 rfl rfl ?_
    refine AW.aload_n 115 dX10_copy_114 rfl rfl ?_
    refine AW.getR 118 dX10_copy_115 fX10_123 rfl (zI rfl rfl) rfl rfl ?_
    refine AW.bipush 120 (nI 48) dX10_copy_118 (by decide) rfl ?_
    refine AW.iload_n 121 dX10_copy_120 rfl rfl ?_
    refine AW.imulN 122 dX10_copy_121 rfl ?_
    refine AW.iload_n 123 dX10_copy_122 rfl rfl ?_
    refine AW.iaddN 124 dX10_copy_123 rfl ?_
    refine AW.iload 126 dX10_copy_124 rfl rfl ?_
    refine AW.iaddN 127 dX10_copy_126 rfl ?_
    refine AW.iald 128 dX10_copy_127 (zA rfl rfl) rfl (by omega) (by decide) rfl ?_
    rw [z_row_ne _ (by decide : (135 : Nat) ≠ 136)]
    refine AW.iast 129 dX10_copy_128 (zA rfl rfl) rfl (by omega) (by decide) rfl ?_
    rw [z_st_row, z_cpy_s (M 135) (M 136) (48 * ka + a) 0 i i (by omega)]
    refine AW.iinc6 132 _ dX10_copy_129 (z_inc1 _) (by decide) rfl rfl ?_
    refine AW.goto 101 dX10_copy_132 (by decide) ?_
    exact ih (i + 1) (by omega)
theorem L2_X10_copy {ka kb a b n : Nat} (hka : ka < 4) (hkb : kb < 4) (ha : a + n ≤ 48) (hb : b + n ≤ 48) {Q : Int32 → zS → zM → Prop} (hQ : Q (nI n) (ZS m0 m1 md) (z_row M 135 (va_cpy (M 136) (M 135) 0 (48 * kb + b) n))) :
    ∀ (q i : Nat), i + q = n → AW l g RX10 cX10_copy 7 (some .int) false d 0 0 138 [some (.ref 99), some (.int (nI ka)), some (.int (nI a)), some (.int (nI kb)), some (.int (nI b)), some (.int (nI n)), some (.int (nI i))] [] (ZS m0 m1 md) (z_row M 135 (va_cpy (M 136) (M 135) 0 (48 * kb + b) i)) (z_Qi Q) := by
  intro q
  induction q with
  | zero =>
    intro i hi
    have hi : i = n := by omega
    subst hi
    refine AW.iload 140 dX10_copy_138 rfl rfl ?_
    refine AW.iload 142 dX10_copy_140 rfl rfl ?_
    refine AW.icmpN_ge 145 173 dX10_copy_142 (by decide) rfl (by omega) (by omega) (fun b142 => ?_) (fun b142 => absurd b142 (by omega))
    refine AW.iload 175 dX10_copy_173 rfl rfl ?_
    refine AW.iret dX10_copy_175 .int rfl rfl rfl ⟨_, rfl, ?_⟩
    exact hQ
  | succ q ih =>
    intro i hi
    refine AW.iload 140 dX10_copy_138 rfl rfl ?_
    refine AW.iload 142 dX10_copy_140 rfl rfl ?_
    refine AW.icmpN_ge 145 173 dX10_copy_142 (by decide) rfl (by omega) (by omega) (fun b142 => absurd b142 (by omega)) (fun b142 => ?_)
    refine AW.aload_n 146 dX10_copy_145 rfl rfl ?_
    refine AW.getR 149 dX10_copy_146 fX10_123 rfl (zI rfl rfl) rfl rfl ?_
    refine AW.bipush 151 (nI 48) dX10_copy_149 (by decide) rfl ?_
    refine AW.iload_n 152 dX10_copy_151 rfl rfl ?_
    refine AW.imulN 153 dX10_copy_152 rfl ?_
    refine AW.iload 155 dX10_copy_153 rfl rfl ?_
    refine AW.iaddN 156 dX10_copy_155 rfl ?_
    refine AW.iload 158 dX10_copy_156 rfl rfl ?_
    refine AW.iaddN 159 dX10_copy_158 rfl ?_
    refine AW.aload_n 160 dX10_copy_159 rfl rfl ?_
    refine AW.getR 163 dX10_copy_160 fX10_126 rfl (zI rfl rfl) rfl rfl ?_
    refine AW.iload 165 dX10_copy_163 rfl rfl ?_
    refine AW.iald 166 dX10_copy_165 (zA rfl rfl) rfl (by omega) (by decide) rfl ?_
    rw [z_row_ne _ (by decide : (136 : Nat) ≠ 135)]
    refine AW.iast 167 dX10_copy_166 (zA rfl rfl) rfl (by omega) (by decide) rfl ?_
    rw [z_st_row, z_cpy_s0 (M 136) (M 135) (48 * kb + b) i]
    refine AW.iinc6 170 _ dX10_copy_167 (z_inc1 _) (by decide) rfl rfl ?_
    refine AW.goto 138 dX10_copy_170 (by decide) ?_
    exact ih (i + 1) (by omega)
theorem C_X10_copy {s i t j n : Int32} (hz : ∀ k, k < 4 → (M 134 k).toInt ≤ 48) {Q : Int32 → zS → zM → Prop} (hQ : Q (g_copy M s i t j n).1 (ZS m0 m1 md) (g_copy M s i t j n).2) : AMet l g yX10_copy cX10_copy 7 (some .int) (d + 2) 0 0 [.ref 99, .int s, .int i, .int t, .int j, .int n] (ZS m0 m1 md) M (z_Qi Q) := by
  unfold g_copy at hQ
  refine AMet.of (ini := false) rfl (fun h => by first | rfl | cases h) (Nat.le_of_ble_eq_true rfl) ?_
  show AW l g RX10 cX10_copy 7 (some .int) false _ _ _ 0 [some (.ref 99), some (.int s), some (.int i), some (.int t), some (.int j), some (.int n), none] [] _ _ _
  refine AW.iload_n 1 dX10_copy_0 rfl rfl ?_
  refine AW.cSi1 4 dX10_copy_1 kX10_189 (Nat.le_of_ble_eq_true rfl) rfl (C_X10_isSheet (fun b1 => ?_) (fun b1 => ?_))
  · skip
    obtain ⟨ka, hka, rfl, hka2⟩ := z_nI b1.1 b1.2
    rw [nI_clamp (n := ka) (by omega)] at hQ
    refine AW.if_eq 7 14 dX10_copy_4 (by decide) rfl (fun h => absurd h (by decide)) (fun _ => ?_)
    refine AW.iload_n 8 dX10_copy_7 rfl rfl ?_
    refine AW.cSi1 11 dX10_copy_8 kX10_189 (Nat.le_of_ble_eq_true rfl) rfl (C_X10_isSheet (fun b8 => ?_) (fun b8 => ?_))
    · skip
      obtain ⟨kb, hkb, rfl, hkb2⟩ := z_nI b8.1 b8.2
      rw [nI_clamp (n := kb) (by omega)] at hQ
      refine AW.if_ne 14 16 dX10_copy_11 (by decide) rfl (fun _ => ?_) (fun h => absurd h (by decide))
      refine AW.aload_n 17 dX10_copy_16 rfl rfl ?_
      refine AW.getR 20 dX10_copy_17 fX10_117 rfl (zI rfl rfl) rfl rfl ?_
      refine AW.iload_n 21 dX10_copy_20 rfl rfl ?_
      refine AW.iald 22 dX10_copy_21 (zA rfl rfl) rfl (by omega) (by decide) rfl ?_
      refine AW.zif_lt 25 34 dX10_copy_22 (by decide) rfl rfl (fun b22 => ?_) (fun b22 => ?_)
      · skip
        refine AW.bipush 36 (-11) dX10_copy_34 (by decide) rfl ?_
        refine AW.iret dX10_copy_36 .int rfl rfl rfl ⟨_, rfl, ?_⟩
        repeat' split at hQ
        all_goals first | exact hQ | (exfalso; omega)
      · skip
        refine AW.aload_n 26 dX10_copy_25 rfl rfl ?_
        refine AW.getR 29 dX10_copy_26 fX10_117 rfl (zI rfl rfl) rfl rfl ?_
        refine AW.iload_n 30 dX10_copy_29 rfl rfl ?_
        refine AW.iald 31 dX10_copy_30 (zA rfl rfl) rfl (by omega) (by decide) rfl ?_
        refine AW.zif_ge 34 37 dX10_copy_31 (by decide) rfl rfl (fun b31 => ?_) (fun b31 => ?_)
        · skip
          refine AW.aload_n 38 dX10_copy_37 rfl rfl ?_
          refine AW.getR 41 dX10_copy_38 fX10_117 rfl (zI rfl rfl) rfl rfl ?_
          refine AW.iload_n 42 dX10_copy_41 rfl rfl ?_
          refine AW.iald 43 dX10_copy_42 (zA rfl rfl) rfl (by omega) (by decide) rfl ?_
          refine AW.aload_n 44 dX10_copy_43 rfl rfl ?_
          refine AW.getR 47 dX10_copy_44 fX10_117 rfl (zI rfl rfl) rfl rfl ?_
          refine AW.iload_n 48 dX10_copy_47 rfl rfl ?_
          refine AW.iald 49 dX10_copy_48 (zA rfl rfl) rfl (by omega) (by decide) rfl ?_
          refine AW.zicmp_eq 52 55 dX10_copy_49 (by decide) rfl rfl rfl (fun b49 => ?_) (fun b49 => ?_)
          · skip
            refine AW.iload 57 dX10_copy_55 rfl rfl ?_
            refine AW.zif_lt 60 95 dX10_copy_57 (by decide) rfl rfl (fun b57 => ?_) (fun b57 => ?_)
            · skip
              refine AW.bipush 97 (-13) dX10_copy_95 (by decide) rfl ?_
              refine AW.iret dX10_copy_97 .int rfl rfl rfl ⟨_, rfl, ?_⟩
              repeat' split at hQ
              all_goals first | exact hQ | (exfalso; omega)
            · skip
              refine AW.aload_n 61 dX10_copy_60 rfl rfl ?_
              refine AW.iload_n 62 dX10_copy_61 rfl rfl ?_
              refine AW.aload_n 63 dX10_copy_62 rfl rfl ?_
              refine AW.getR 66 dX10_copy_63 fX10_117 rfl (zI rfl rfl) rfl rfl ?_
              refine AW.iload_n 67 dX10_copy_66 rfl rfl ?_
              refine AW.iald 68 dX10_copy_67 (zA rfl rfl) rfl (by omega) (by decide) rfl ?_
              refine AW.iload_n 69 dX10_copy_68 rfl rfl ?_
              refine AW.iload 71 dX10_copy_69 rfl rfl ?_
              refine AW.cVi4 74 dX10_copy_71 kX10_192 (zI rfl rfl) (Nat.le_of_ble_eq_true rfl) rfl (C_X10_finds (by omega) ?_)
              refine AW.zif_lt 77 95 dX10_copy_74 (by decide) rfl rfl (fun b74 => ?_) (fun b74 => ?_)
              · skip
                refine AW.bipush 97 (-13) dX10_copy_95 (by decide) rfl ?_
                refine AW.iret dX10_copy_97 .int rfl rfl rfl ⟨_, rfl, ?_⟩
                repeat' split at hQ
                all_goals first | exact hQ | (exfalso; omega)
              · skip
                refine AW.aload_n 78 dX10_copy_77 rfl rfl ?_
                refine AW.iload_n 79 dX10_copy_78 rfl rfl ?_
                refine AW.aload_n 80 dX10_copy_79 rfl rfl ?_
                refine AW.getR 83 dX10_copy_80 fX10_117 rfl (zI rfl rfl) rfl rfl ?_
                refine AW.iload_n 84 dX10_copy_83 rfl rfl ?_
                refine AW.iald 85 dX10_copy_84 (zA rfl rfl) rfl (by omega) (by decide) rfl ?_
                refine AW.iload 87 dX10_copy_85 rfl rfl ?_
                refine AW.iload 89 dX10_copy_87 rfl rfl ?_
                refine AW.cVi4 92 dX10_copy_89 kX10_192 (zI rfl rfl) (Nat.le_of_ble_eq_true rfl) rfl (C_X10_finds (by omega) ?_)
                refine AW.zif_ge 95 98 dX10_copy_92 (by decide) rfl rfl (fun b92 => ?_) (fun b92 => ?_)
                · skip
                  have e1 := g_finds_ok (by omega : 0 ≤ (g_finds M ka (M 133 ka) i n).toInt)
                  have e2 := g_finds_ok (by omega : 0 ≤ (g_finds M kb (M 133 kb) j n).toInt)
                  have e3 := hz ka (by omega)
                  have e4 := hz kb (by omega)
                  obtain ⟨a, ha, rfl, ha2⟩ := z_nI (v := i) (n := 48) (by omega) (by omega)
                  obtain ⟨b, hb, rfl, hb2⟩ := z_nI (v := j) (n := 48) (by omega) (by omega)
                  obtain ⟨c, hc, rfl, hc2⟩ := z_nI (v := n) (n := 48) (by omega) (by omega)
                  rw [if_neg (by omega), if_neg (by omega), if_neg (by omega), if_neg (by omega), if_neg (by omega), if_neg (by omega), if_neg (by omega), if_neg (by omega), nI_clamp (n := a) (by omega), nI_clamp (n := b) (by omega), nI_clamp (n := c) (by omega)] at hQ
                  have L2 := L2_X10_copy (l := l) (g := g) (d := d + 2) (m0 := m0) (m1 := m1) (md := md) (M := z_row M 136 (va_cpy (M 135) (M 136) (48 * ka + a) 0 c)) (ka := ka) (kb := kb) (a := a) (b := b) (n := c) (Q := Q) (by omega) (by omega) (by omega) (by omega) (by rw [z_row_at, z_row_ne _ (by decide : (135 : Nat) ≠ 136)]; exact hQ) c 0 (by omega)
                  rw [z_cpy_0, z_row_self] at L2
                  refine AW.iconst 99 (nI 0) dX10_copy_98 (by decide) rfl ?_
                  refine AW.ist6 101 dX10_copy_99 (by decide) rfl rfl ?_
                  have L1 := L1_X10_copy (l := l) (g := g) (d := d + 2) (m0 := m0) (m1 := m1) (md := md) (M := M) (ka := ka) (kb := kb) (a := a) (b := b) (n := c) (Q := z_Qi Q) (by omega) (by omega) (by omega) (by omega) (by
                    refine AW.iconst 136 (nI 0) dX10_copy_135 (by decide) rfl ?_
                    refine AW.ist6 138 dX10_copy_136 (by decide) rfl rfl ?_
                    exact L2) c 0 (by omega)
                  rw [z_cpy_0, z_row_self] at L1
                  exact L1
                · skip
                  refine AW.bipush 97 (-13) dX10_copy_95 (by decide) rfl ?_
                  refine AW.iret dX10_copy_97 .int rfl rfl rfl ⟨_, rfl, ?_⟩
                  repeat' split at hQ
                  all_goals first | exact hQ | (exfalso; omega)
          · skip
            refine AW.bipush 54 (-12) dX10_copy_52 (by decide) rfl ?_
            refine AW.iret dX10_copy_54 .int rfl rfl rfl ⟨_, rfl, ?_⟩
            repeat' split at hQ
            all_goals first | exact hQ | (exfalso; omega)
        · skip
          refine AW.bipush 36 (-11) dX10_copy_34 (by decide) rfl ?_
          refine AW.iret dX10_copy_36 .int rfl rfl rfl ⟨_, rfl, ?_⟩
          repeat' split at hQ
          all_goals first | exact hQ | (exfalso; omega)
    · skip
      refine AW.if_ne 14 16 dX10_copy_11 (by decide) rfl (fun h => absurd h (by decide)) (fun _ => ?_)
      refine AW.iconst 15 (-1) dX10_copy_14 (by decide) rfl ?_
      refine AW.iret dX10_copy_15 .int rfl rfl rfl ⟨_, rfl, ?_⟩
      repeat' split at hQ
      all_goals first | exact hQ | (exfalso; omega)
  · skip
    refine AW.if_eq 7 14 dX10_copy_4 (by decide) rfl (fun _ => ?_) (fun h => absurd h (by decide))
    refine AW.iconst 15 (-1) dX10_copy_14 (by decide) rfl ?_
    refine AW.iret dX10_copy_15 .int rfl rfl rfl ⟨_, rfl, ?_⟩
    repeat' split at hQ
    all_goals first | exact hQ | (exfalso; omega)
end MSHEET2
