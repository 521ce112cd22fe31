def z_pw (kc : Nat → Nat) (k : Nat) : Bool := decide (0 < kc k)
def g_ps (M : zM) (kc : Nat → Nat) (s : Nat → Int32) (a k : Nat) : Bool := decide (a < kc k ∧ (M 126 (48 * k + a)).toInt = (s a).toInt)
def g_held (M : zM) (kc : Nat → Nat) (s : Nat → Int32) (a : Nat) : Bool := z_held (z_cnt (z_pw kc) 3) (z_cnt (g_ps M kc s a) 3)
def f_ps (M : zM) (kc : Nat → Nat) (a k : Nat) : Bool := decide (a < kc k ∧ (M (78 + 2 * k) a).toInt = (M 75 a).toInt)
def f_held (M : zM) (kc : Nat → Nat) (a : Nat) : Bool := decide ((if z_cnt (z_pw kc) 3 = 1 then 1 else 2) ≤ z_cnt (f_ps M kc a) 3)
section BOOK4
variable {l : Launch} {g : zG} {d m0 m1 md : Nat} {M : zM} {L : Nat} {kc : Nat → Nat}
theorem C_X10_line (hL : M 99 25 = nI L) (hL2 : L ≤ 48) (hk : ∀ k, k < 3 → M 125 k = nI (kc k) ∧ kc k ≤ 48) {i w : Int32} {Q : Int32 → zS → zM → Prop} (hbad : ¬ (0 ≤ i.toInt ∧ i.toInt < L ∧ 0 ≤ w.toInt ∧ w.toInt ≤ 4) → Q (-1) (ZS m0 m1 md) M) (hok : ∀ a c, a < L → c ≤ 4 → i = nI a → w = nI c → ∀ M', (∀ c, c ≠ 124 → M' c = M c) → Q (z_lineV (M 121 a) (M 122 a) (M 123 a) (z_sealF (M 121) (M 122) (M 123) (a + 1)) (g_held M kc (fun i => z_sealF (M 121) (M 122) (M 123) (i + 1)) a) c) (ZS m0 m1 md) M') : AMet l g yX10_line cX10_line 3 (some .int) (d + 2) 0 0 [.ref 99, .int i, .int w] (ZS m0 m1 md) M (z_Qi Q) := by
  refine AMet.of (ini := false) rfl (fun h => by first | rfl | cases h) (Nat.le_of_ble_eq_true rfl) ?_
  show AW l g RX10 cX10_line 3 (some .int) false _ _ _ 0 [some (.ref 99), some (.int i), some (.int w)] [] _ _ _
  refine AW.aload_n 1 dX10_line_0 rfl rfl ?_
  refine AW.iload_n 2 dX10_line_1 rfl rfl ?_
  refine AW.cVi1 5 dX10_line_2 kX10_224 (zI rfl rfl) (Nat.le_of_ble_eq_true rfl) rfl (C_X10_isLine hL hL2 (fun b2 => ?_) (fun b2 => ?_))
  · skip
    obtain ⟨a, ha, rfl, ha2⟩ := z_nI (v := i) (n := 47) (by omega) (by omega)
    refine AW.if_eq 8 20 dX10_line_5 (by decide) rfl (fun h => absurd h (by decide)) (fun _ => ?_)
    refine AW.iload_n 9 dX10_line_8 rfl rfl ?_
    refine AW.i2l 10 dX10_line_9 rfl ?_
    refine AW.lconst 11 (lN 0) dX10_line_10 rfl rfl ?_
    refine AW.ldc2 14 (lN 4) dX10_line_11 qX10_227 rfl ?_
    refine AW.cSi3 17 dX10_line_14 kX10_131 (Nat.le_of_ble_eq_true rfl) rfl (C_in (Int32.toInt_toInt64 _) (z_lN (by decide)) (z_lN (by decide)) (fun b14 => ?_) (fun b14 => ?_))
    · skip
      obtain ⟨c, hc, rfl, hc2⟩ := z_nI (v := w) (n := 4) (by omega) (by omega)
      refine AW.if_ne 20 22 dX10_line_17 (by decide) rfl (fun _ => ?_) (fun h => absurd h (by decide))
      refine AW.aload_n 23 dX10_line_22 rfl rfl ?_
      refine AW.cVv0 26 dX10_line_23 kX10_229 (zI rfl rfl) (Nat.le_of_ble_eq_true rfl) rfl (C_X10_seal hL hL2 (fun M1 h1 h2 => ?_))
      have e := hok a c (by omega) (by omega) rfl rfl M1 h1
      unfold z_lineV at e
      have hk1 : ∀ k, k < 3 → M1 125 k = nI (kc k) ∧ kc k ≤ 48 := fun k q => by rw [h1 125 (by decide)]; exact hk k q
      have s1 := h2 a (by omega)
      have t1 := h1 121 (by decide)
      have t2 := h1 122 (by decide)
      have t3 := h1 123 (by decide)
      refine AW.iload_n 27 dX10_line_26 rfl rfl ?_
      rcases (show c = 0 ∨ c = 1 ∨ c = 2 ∨ c = 3 ∨ c = 4 by omega) with rfl | rfl | rfl | rfl | rfl
      · refine AW.tabIn 56 dX10_line_27 (by decide) (by decide) rfl (by decide) ?_
        refine AW.aload_n 57 dX10_line_56 rfl rfl ?_
        refine AW.getR 60 dX10_line_57 fX10_78 rfl (zI rfl rfl) rfl rfl ?_
        refine AW.iload_n 61 dX10_line_60 rfl rfl ?_
        refine AW.iald 62 dX10_line_61 (zA rfl rfl) rfl (by omega) (by decide) rfl ?_
        refine AW.topi (M 121 a) (by rw [t1]) ?_
        refine AW.iret dX10_line_62 .int rfl rfl rfl ⟨_, rfl, ?_⟩
        first | exact e | (rw [if_neg (by decide), if_neg (by decide), if_pos rfl] at e; split at e <;> first | exact e | (exfalso; omega)) | (rw [if_neg (by decide), if_neg (by decide), if_neg (by decide), if_neg (by decide)] at e; split at e <;> first | exact e | (rename_i z; exact absurd z b101) | (rename_i z; exact absurd b101 z))
      · refine AW.tabIn 63 dX10_line_27 (by decide) (by decide) rfl (by decide) ?_
        refine AW.aload_n 64 dX10_line_63 rfl rfl ?_
        refine AW.getR 67 dX10_line_64 fX10_81 rfl (zI rfl rfl) rfl rfl ?_
        refine AW.iload_n 68 dX10_line_67 rfl rfl ?_
        refine AW.iald 69 dX10_line_68 (zA rfl rfl) rfl (by omega) (by decide) rfl ?_
        refine AW.topi (M 122 a) (by rw [t2]) ?_
        refine AW.iret dX10_line_69 .int rfl rfl rfl ⟨_, rfl, ?_⟩
        first | exact e | (rw [if_neg (by decide), if_neg (by decide), if_pos rfl] at e; split at e <;> first | exact e | (exfalso; omega)) | (rw [if_neg (by decide), if_neg (by decide), if_neg (by decide), if_neg (by decide)] at e; split at e <;> first | exact e | (rename_i z; exact absurd z b101) | (rename_i z; exact absurd b101 z))
      · refine AW.tabIn 70 dX10_line_27 (by decide) (by decide) rfl (by decide) ?_
        refine AW.aload_n 71 dX10_line_70 rfl rfl ?_
        refine AW.getR 74 dX10_line_71 fX10_78 rfl (zI rfl rfl) rfl rfl ?_
        refine AW.iload_n 75 dX10_line_74 rfl rfl ?_
        refine AW.iald 76 dX10_line_75 (zA rfl rfl) rfl (by omega) (by decide) rfl ?_
        refine AW.topi (M 121 a) (by rw [t1]) ?_
        refine AW.iconst 77 (nI 5) dX10_line_76 (by decide) rfl ?_
        refine AW.zicmp_ne 80 85 dX10_line_77 (by decide) rfl rfl (by decide : (nI 5).toInt = 5) (fun b77 => ?_) (fun b77 => ?_)
        · skip
          refine AW.aload_n 86 dX10_line_85 rfl rfl ?_
          refine AW.getR 89 dX10_line_86 fX10_84 rfl (zI rfl rfl) rfl rfl ?_
          refine AW.iload_n 90 dX10_line_89 rfl rfl ?_
          refine AW.iald 91 dX10_line_90 (zA rfl rfl) rfl (by omega) (by decide) rfl ?_
          refine AW.topi (M 123 a) (by rw [t3]) ?_
          refine AW.iret dX10_line_91 .int rfl rfl rfl ⟨_, rfl, ?_⟩
          first | exact e | (rw [if_neg (by decide), if_neg (by decide), if_pos rfl] at e; split at e <;> first | exact e | (exfalso; omega)) | (rw [if_neg (by decide), if_neg (by decide), if_neg (by decide), if_neg (by decide)] at e; split at e <;> first | exact e | (rename_i z; exact absurd z b101) | (rename_i z; exact absurd b101 z))
        · skip
          refine AW.bipush 82 (-12) dX10_line_80 (by decide) rfl ?_
          refine AW.goto 91 dX10_line_82 (by decide) ?_
          refine AW.iret dX10_line_91 .int rfl rfl rfl ⟨_, rfl, ?_⟩
          first | exact e | (rw [if_neg (by decide), if_neg (by decide), if_pos rfl] at e; split at e <;> first | exact e | (exfalso; omega)) | (rw [if_neg (by decide), if_neg (by decide), if_neg (by decide), if_neg (by decide)] at e; split at e <;> first | exact e | (rename_i z; exact absurd z b101) | (rename_i z; exact absurd b101 z))
      · refine AW.tabIn 92 dX10_line_27 (by decide) (by decide) rfl (by decide) ?_
        refine AW.aload_n 93 dX10_line_92 rfl rfl ?_
        refine AW.getR 96 dX10_line_93 fX10_87 rfl (zI rfl rfl) rfl rfl ?_
        refine AW.iload_n 97 dX10_line_96 rfl rfl ?_
        refine AW.iald 98 dX10_line_97 (zA rfl rfl) rfl (by omega) (by decide) rfl ?_
        refine AW.topi (z_sealF (M 121) (M 122) (M 123) (a + 1)) s1 ?_
        refine AW.iret dX10_line_98 .int rfl rfl rfl ⟨_, rfl, ?_⟩
        first | exact e | (rw [if_neg (by decide), if_neg (by decide), if_pos rfl] at e; split at e <;> first | exact e | (exfalso; omega)) | (rw [if_neg (by decide), if_neg (by decide), if_neg (by decide), if_neg (by decide)] at e; split at e <;> first | exact e | (rename_i z; exact absurd z b101) | (rename_i z; exact absurd b101 z))
      · refine AW.tabOut 99 dX10_line_27 (by decide) (by decide) ?_
        refine AW.aload_n 100 dX10_line_99 rfl rfl ?_
        refine AW.iload_n 101 dX10_line_100 rfl rfl ?_
        refine AW.cVi1 104 dX10_line_101 kX10_232 (zI rfl rfl) (Nat.le_of_ble_eq_true rfl) rfl (C_X10_isHeld hk1 (by omega) (PW := z_pw kc) (PS := g_ps M kc (fun i => z_sealF (M 121) (M 122) (M 123) (i + 1)) a) (fun k _ => decide_eq_true_iff) (fun k _ => by unfold g_ps; rw [decide_eq_true_iff, h1 126 (by decide), s1]) (fun b101 => ?_) (fun b101 => ?_))
        · skip
          refine AW.if_eq 107 111 dX10_line_104 (by decide) rfl (fun h => absurd h (by decide)) (fun _ => ?_)
          refine AW.iconst 108 (nI 1) dX10_line_107 (by decide) rfl ?_
          refine AW.goto 112 dX10_line_108 (by decide) ?_
          refine AW.iret dX10_line_112 .int rfl rfl rfl ⟨_, rfl, ?_⟩
          first | exact e | (rw [if_neg (by decide), if_neg (by decide), if_pos rfl] at e; split at e <;> first | exact e | (exfalso; omega)) | (rw [if_neg (by decide), if_neg (by decide), if_neg (by decide), if_neg (by decide)] at e; split at e <;> first | exact e | (rename_i z; exact absurd z b101) | (rename_i z; exact absurd b101 z))
        · skip
          refine AW.if_eq 107 111 dX10_line_104 (by decide) rfl (fun _ => ?_) (fun h => absurd h (by decide))
          refine AW.iconst 112 (nI 0) dX10_line_111 (by decide) rfl ?_
          refine AW.iret dX10_line_112 .int rfl rfl rfl ⟨_, rfl, ?_⟩
          first | exact e | (rw [if_neg (by decide), if_neg (by decide), if_pos rfl] at e; split at e <;> first | exact e | (exfalso; omega)) | (rw [if_neg (by decide), if_neg (by decide), if_neg (by decide), if_neg (by decide)] at e; split at e <;> first | exact e | (rename_i z; exact absurd z b101) | (rename_i z; exact absurd b101 z))
    · skip
      refine AW.if_ne 20 22 dX10_line_17 (by decide) rfl (fun h => absurd h (by decide)) (fun _ => ?_)
      refine AW.iconst 21 (-1) dX10_line_20 (by decide) rfl ?_
      refine AW.iret dX10_line_21 .int rfl rfl rfl ⟨_, rfl, ?_⟩
      exact hbad (by omega)
  · skip
    refine AW.if_eq 8 20 dX10_line_5 (by decide) rfl (fun _ => ?_) (fun h => absurd h (by decide))
    refine AW.iconst 21 (-1) dX10_line_20 (by decide) rfl ?_
    refine AW.iret dX10_line_21 .int rfl rfl rfl ⟨_, rfl, ?_⟩
    exact hbad (by omega)
theorem C_X9_line (hL : M 70 1 = nI L) (hL2 : L ≤ 48) (hk : ∀ k, k < 3 → M (77 + 2 * k) 1 = nI (kc k) ∧ kc k ≤ 48) {i w : Int32} {Q : Int32 → zS → zM → Prop} (hbad : ¬ (0 ≤ i.toInt ∧ i.toInt < L ∧ 0 ≤ w.toInt ∧ w.toInt ≤ 4) → Q (-1) (ZS m0 m1 md) M) (hok : ∀ a c, a < L → c ≤ 4 → i = nI a → w = nI c → Q (z_lineV (M 72 a) (M 73 a) (M 74 a) (M 75 a) (f_held M kc a) c) (ZS m0 m1 md) M) : AMet l g yX9_line cX9_line 3 (some .int) (d + 2) 0 0 [.ref 0, .int i, .int w] (ZS m0 m1 md) M (z_Qi Q) := by
  refine AMet.of (ini := false) rfl (fun h => by first | rfl | cases h) (Nat.le_of_ble_eq_true rfl) ?_
  show AW l g RX9 cX9_line 3 (some .int) false _ _ _ 0 [some (.ref 0), some (.int i), some (.int w)] [] _ _ _
  refine AW.aload_n 1 dX9_line_0 rfl rfl ?_
  refine AW.iload_n 2 dX9_line_1 rfl rfl ?_
  refine AW.cVi1 5 dX9_line_2 kX9_195 (zI rfl rfl) (Nat.le_of_ble_eq_true rfl) rfl (C_X9_noLine hL hL2 (fun b2 => ?_) (fun b2 => ?_))
  · skip
    refine AW.if_ne 8 16 dX9_line_5 (by decide) rfl (fun _ => ?_) (fun h => absurd h (by decide))
    refine AW.iconst 17 (-1) dX9_line_16 (by decide) rfl ?_
    refine AW.iret dX9_line_17 .int rfl rfl rfl ⟨_, rfl, ?_⟩
    exact hbad (by omega)
  · skip
    obtain ⟨a, ha, rfl, ha2⟩ := z_nI (v := i) (n := 47) (by omega) (by omega)
    refine AW.if_ne 8 16 dX9_line_5 (by decide) rfl (fun h => absurd h (by decide)) (fun _ => ?_)
    refine AW.iload_n 9 dX9_line_8 rfl rfl ?_
    refine AW.iconst 10 (nI 4) dX9_line_9 (by decide) rfl ?_
    refine AW.cSi2 13 dX9_line_10 kX9_120 (Nat.le_of_ble_eq_true rfl) rfl (C_beyond rfl (by decide : (nI 4).toInt = 4) (fun b10 => ?_) (fun b10 => ?_))
    · skip
      refine AW.if_eq 16 18 dX9_line_13 (by decide) rfl (fun h => absurd h (by decide)) (fun _ => ?_)
      refine AW.iconst 17 (-1) dX9_line_16 (by decide) rfl ?_
      refine AW.iret dX9_line_17 .int rfl rfl rfl ⟨_, rfl, ?_⟩
      exact hbad (by omega)
    · skip
      obtain ⟨c, hc, rfl, hc2⟩ := z_nI (v := w) (n := 4) (by omega) (by omega)
      have e := hok a c (by omega) (by omega) rfl rfl
      unfold z_lineV at e
      refine AW.if_eq 16 18 dX9_line_13 (by decide) rfl (fun _ => ?_) (fun h => absurd h (by decide))
      refine AW.iload_n 19 dX9_line_18 rfl rfl ?_
      refine AW.iconst 20 (nI 2) dX9_line_19 (by decide) rfl ?_
      refine AW.icmpN_ne 23 41 dX9_line_20 (by decide) rfl (by omega) (by omega) (fun b20 => ?_) (fun b20 => ?_)
      · skip
        refine AW.iload_n 42 dX9_line_41 rfl rfl ?_
        refine AW.iconst 43 (nI 4) dX9_line_42 (by decide) rfl ?_
        refine AW.icmpN_ne 46 64 dX9_line_43 (by decide) rfl (by omega) (by omega) (fun b43 => ?_) (fun b43 => ?_)
        · skip
          refine AW.aload_n 65 dX9_line_64 rfl rfl ?_
          refine AW.getR 68 dX9_line_65 fX9_53 rfl (zI rfl rfl) rfl rfl ?_
          refine AW.getR 71 dX9_line_68 fX9_198 rfl (zI rfl rfl) rfl rfl ?_
          refine AW.iload_n 72 dX9_line_71 rfl rfl ?_
          refine AW.aald 73 dX9_line_72 (zA rfl rfl) (by decide) rfl (by omega) (by decide) (zBk_r (by omega)) rfl ?_
          refine AW.iload_n 74 dX9_line_73 rfl rfl ?_
          refine AW.iald 75 dX9_line_74 (zBk_a (by omega)) rfl (by omega) (by decide) rfl ?_
          refine AW.iret dX9_line_75 .int rfl rfl rfl ⟨_, rfl, ?_⟩
          rcases (show c = 0 ∨ c = 1 ∨ c = 2 ∨ c = 3 by omega) with rfl | rfl | rfl | rfl
          · exact e
          · exact e
          · rw [if_neg (by decide), if_neg (by decide), if_pos rfl] at e
            split at e <;> first | exact e | (exfalso; omega)
          · exact e
        · skip
          refine AW.aload_n 47 dX9_line_46 rfl rfl ?_
          refine AW.iload_n 48 dX9_line_47 rfl rfl ?_
          refine AW.aload_n 49 dX9_line_48 rfl rfl ?_
          refine AW.cVi0 52 dX9_line_49 kX9_201 (zI rfl rfl) (Nat.le_of_ble_eq_true rfl) rfl (C_X9_countHolders hk (PW := z_pw kc) (fun k _ => decide_eq_true_iff) ?_)
          refine AW.cVi2 55 dX9_line_52 kX9_205 (zI rfl rfl) (Nat.le_of_ble_eq_true rfl) rfl (C_X9_isHeld hk (by omega) (z_cnt_le _ _) (PS := f_ps M kc a) (fun k _ => by unfold f_ps; rw [decide_eq_true_iff]) (fun b52 => ?_) (fun b52 => ?_))
          · skip
            refine AW.if_eq 58 62 dX9_line_55 (by decide) rfl (fun h => absurd h (by decide)) (fun _ => ?_)
            refine AW.iconst 59 (nI 1) dX9_line_58 (by decide) rfl ?_
            refine AW.goto 63 dX9_line_59 (by decide) ?_
            refine AW.iret dX9_line_63 .int rfl rfl rfl ⟨_, rfl, ?_⟩
            rw [if_neg (by omega), if_neg (by omega), if_neg (by omega), if_neg (by omega)] at e
            unfold f_held at e
            first | (rw [if_pos (decide_eq_true b52)] at e; exact e) | (rw [if_neg (by rw [decide_eq_true_iff]; exact b52)] at e; exact e)
          · skip
            refine AW.if_eq 58 62 dX9_line_55 (by decide) rfl (fun _ => ?_) (fun h => absurd h (by decide))
            refine AW.iconst 63 (nI 0) dX9_line_62 (by decide) rfl ?_
            refine AW.iret dX9_line_63 .int rfl rfl rfl ⟨_, rfl, ?_⟩
            rw [if_neg (by omega), if_neg (by omega), if_neg (by omega), if_neg (by omega)] at e
            unfold f_held at e
            first | (rw [if_pos (decide_eq_true b52)] at e; exact e) | (rw [if_neg (by rw [decide_eq_true_iff]; exact b52)] at e; exact e)
      · skip
        refine AW.aload_n 24 dX9_line_23 rfl rfl ?_
        refine AW.getR 27 dX9_line_24 fX9_53 rfl (zI rfl rfl) rfl rfl ?_
        refine AW.getR 30 dX9_line_27 fX9_198 rfl (zI rfl rfl) rfl rfl ?_
        refine AW.iconst 31 (nI 0) dX9_line_30 (by decide) rfl ?_
        refine AW.aald 32 dX9_line_31 (zA rfl rfl) (by decide) rfl (by omega) (by decide) rfl rfl ?_
        refine AW.iload_n 33 dX9_line_32 rfl rfl ?_
        refine AW.iald 34 dX9_line_33 (zA rfl rfl) rfl (by omega) (by decide) rfl ?_
        refine AW.iconst 35 (nI 5) dX9_line_34 (by decide) rfl ?_
        refine AW.zicmp_ne 38 41 dX9_line_35 (by decide) rfl rfl (by decide : (nI 5).toInt = 5) (fun b35 => ?_) (fun b35 => ?_)
        · skip
          refine AW.iload_n 42 dX9_line_41 rfl rfl ?_
          refine AW.iconst 43 (nI 4) dX9_line_42 (by decide) rfl ?_
          refine AW.icmpN_ne 46 64 dX9_line_43 (by decide) rfl (by omega) (by omega) (fun b43 => ?_) (fun b43 => ?_)
          · skip
            refine AW.aload_n 65 dX9_line_64 rfl rfl ?_
            refine AW.getR 68 dX9_line_65 fX9_53 rfl (zI rfl rfl) rfl rfl ?_
            refine AW.getR 71 dX9_line_68 fX9_198 rfl (zI rfl rfl) rfl rfl ?_
            refine AW.iload_n 72 dX9_line_71 rfl rfl ?_
            refine AW.aald 73 dX9_line_72 (zA rfl rfl) (by decide) rfl (by omega) (by decide) (zBk_r (by omega)) rfl ?_
            refine AW.iload_n 74 dX9_line_73 rfl rfl ?_
            refine AW.iald 75 dX9_line_74 (zBk_a (by omega)) rfl (by omega) (by decide) rfl ?_
            refine AW.iret dX9_line_75 .int rfl rfl rfl ⟨_, rfl, ?_⟩
            rcases (show c = 0 ∨ c = 1 ∨ c = 2 ∨ c = 3 by omega) with rfl | rfl | rfl | rfl
            · exact e
            · exact e
            · rw [if_neg (by decide), if_neg (by decide), if_pos rfl] at e
              split at e <;> first | exact e | (exfalso; omega)
            · exact e
          · skip
            refine AW.aload_n 47 dX9_line_46 rfl rfl ?_
            refine AW.iload_n 48 dX9_line_47 rfl rfl ?_
            refine AW.aload_n 49 dX9_line_48 rfl rfl ?_
            refine AW.cVi0 52 dX9_line_49 kX9_201 (zI rfl rfl) (Nat.le_of_ble_eq_true rfl) rfl (C_X9_countHolders hk (PW := z_pw kc) (fun k _ => decide_eq_true_iff) ?_)
            refine AW.cVi2 55 dX9_line_52 kX9_205 (zI rfl rfl) (Nat.le_of_ble_eq_true rfl) rfl (C_X9_isHeld hk (by omega) (z_cnt_le _ _) (PS := f_ps M kc a) (fun k _ => by unfold f_ps; rw [decide_eq_true_iff]) (fun b52 => ?_) (fun b52 => ?_))
            · skip
              refine AW.if_eq 58 62 dX9_line_55 (by decide) rfl (fun h => absurd h (by decide)) (fun _ => ?_)
              refine AW.iconst 59 (nI 1) dX9_line_58 (by decide) rfl ?_
              refine AW.goto 63 dX9_line_59 (by decide) ?_
              refine AW.iret dX9_line_63 .int rfl rfl rfl ⟨_, rfl, ?_⟩
              rw [if_neg (by omega), if_neg (by omega), if_neg (by omega), if_neg (by omega)] at e
              unfold f_held at e
              first | (rw [if_pos (decide_eq_true b52)] at e; exact e) | (rw [if_neg (by rw [decide_eq_true_iff]; exact b52)] at e; exact e)
            · skip
              refine AW.if_eq 58 62 dX9_line_55 (by decide) rfl (fun _ => ?_) (fun h => absurd h (by decide))
              refine AW.iconst 63 (nI 0) dX9_line_62 (by decide) rfl ?_
              refine AW.iret dX9_line_63 .int rfl rfl rfl ⟨_, rfl, ?_⟩
              rw [if_neg (by omega), if_neg (by omega), if_neg (by omega), if_neg (by omega)] at e
              unfold f_held at e
              first | (rw [if_pos (decide_eq_true b52)] at e; exact e) | (rw [if_neg (by rw [decide_eq_true_iff]; exact b52)] at e; exact e)
        · skip
          refine AW.bipush 40 (-12) dX9_line_38 (by decide) rfl ?_
          refine AW.iret dX9_line_40 .int rfl rfl rfl ⟨_, rfl, ?_⟩
          rw [if_neg (by omega), if_neg (by omega), if_pos (by omega), if_pos (by omega)] at e
          exact e
theorem L_X10_torn (hL : M 99 25 = nI L) (hL2 : L ≤ 48) (hk : ∀ k, k < 3 → M 125 k = nI (kc k) ∧ kc k ≤ 48) {s : Nat → Int32} (hs : ∀ i, i < L → M 124 i = s i) {Q : Int32 → zS → zM → Prop} :
    ∀ (q i : Nat), i + q = L → Q (z_fnd (fun i => !g_held M kc s i) i q) (ZS m0 m1 md) M → AW l g RX10 cX10_torn 2 (some .int) false (d + 1) 0 0 32 [some (.ref 99), some (.int (nI i))] [] (ZS m0 m1 md) M (z_Qi Q) := by
  intro q
  induction q with
  | zero =>
    intro i hi hQ
    refine AW.iload_n 33 dX10_torn_32 rfl rfl ?_
    refine AW.aload_n 34 dX10_torn_33 rfl rfl ?_
    refine AW.getI 37 dX10_torn_34 fX10_209 rfl (zI rfl rfl) rfl ?_
    refine AW.topi (nI L) hL ?_
    refine AW.icmpN_ge 40 56 dX10_torn_37 (by decide) rfl (by omega) (by omega) (fun b37 => ?_) (fun b37 => absurd b37 (by omega))
    refine AW.bipush 58 (-4) dX10_torn_56 (by decide) rfl ?_
    refine AW.iret dX10_torn_58 .int rfl rfl rfl ⟨_, rfl, ?_⟩
    exact hQ
  | succ q ih =>
    intro i hi hQ
    unfold z_fnd at hQ
    have s1 := hs i (by omega)
    refine AW.iload_n 33 dX10_torn_32 rfl rfl ?_
    refine AW.aload_n 34 dX10_torn_33 rfl rfl ?_
    refine AW.getI 37 dX10_torn_34 fX10_209 rfl (zI rfl rfl) rfl ?_
    refine AW.topi (nI L) hL ?_
    refine AW.icmpN_ge 40 56 dX10_torn_37 (by decide) rfl (by omega) (by omega) (fun b37 => absurd b37 (by omega)) (fun b37 => ?_)
    refine AW.aload_n 41 dX10_torn_40 rfl rfl ?_
    refine AW.iload_n 42 dX10_torn_41 rfl rfl ?_
    refine AW.cVi1 45 dX10_torn_42 kX10_232 (zI rfl rfl) (Nat.le_of_ble_eq_true rfl) rfl (C_X10_isHeld hk (by omega) (PW := z_pw kc) (PS := g_ps M kc s i) (fun k _ => decide_eq_true_iff) (fun k _ => by unfold g_ps; rw [decide_eq_true_iff, s1]) (fun b42 => ?_) (fun b42 => ?_))
    · skip
      refine AW.if_ne 48 50 dX10_torn_45 (by decide) rfl (fun _ => ?_) (fun h => absurd h (by decide))
      refine AW.iinc1 53 _ dX10_torn_50 (z_inc1 _) (by decide) rfl rfl ?_
      refine AW.goto 32 dX10_torn_53 (by decide) ?_
      refine ih (i + 1) (by omega) ?_
      rw [if_neg (by rw [Bool.not_eq_true']; intro z; rw [show g_held M kc s i = true from b42] at z; cases z)] at hQ
      exact hQ
    · skip
      refine AW.if_ne 48 50 dX10_torn_45 (by decide) rfl (fun h => absurd h (by decide)) (fun _ => ?_)
      refine AW.iload_n 49 dX10_torn_48 rfl rfl ?_
      refine AW.iret dX10_torn_49 .int rfl rfl rfl ⟨_, rfl, ?_⟩
      rw [if_pos (by rw [Bool.not_eq_true']; exact eq_false_of_ne_true b42)] at hQ
      exact hQ
theorem C_X10_torn (hL : M 99 25 = nI L) (hL2 : L ≤ 48) (hk : ∀ k, k < 3 → M 125 k = nI (kc k) ∧ kc k ≤ 48) {Q : Int32 → zS → zM → Prop} (hno : kc 0 + kc 1 + kc 2 = 0 → Q (-2) (ZS m0 m1 md) M) (hok : ¬ kc 0 + kc 1 + kc 2 = 0 → ∀ M', (∀ c, c ≠ 124 → M' c = M c) → Q (z_fnd (fun i => !g_held M kc (fun i => z_sealF (M 121) (M 122) (M 123) (i + 1)) i) 0 L) (ZS m0 m1 md) M') : AMet l g yX10_torn cX10_torn 2 (some .int) (d + 1) 0 0 [.ref 99] (ZS m0 m1 md) M (z_Qi Q) := by
  have k0 := hk 0 (by omega)
  have k1 := hk 1 (by omega)
  have k2 := hk 2 (by omega)
  refine AMet.of (ini := false) rfl (fun h => by first | rfl | cases h) (Nat.le_of_ble_eq_true rfl) ?_
  show AW l g RX10 cX10_torn 2 (some .int) false _ _ _ 0 [some (.ref 99), none] [] _ _ _
  refine AW.aload_n 1 dX10_torn_0 rfl rfl ?_
  refine AW.getR 4 dX10_torn_1 fX10_90 rfl (zI rfl rfl) rfl rfl ?_
  refine AW.iconst 5 (nI 0) dX10_torn_4 (by decide) rfl ?_
  refine AW.iald 6 dX10_torn_5 (zA rfl rfl) rfl (by omega) (by decide) rfl ?_
  refine AW.topi (nI (kc 0)) k0.1 ?_
  refine AW.aload_n 7 dX10_torn_6 rfl rfl ?_
  refine AW.getR 10 dX10_torn_7 fX10_90 rfl (zI rfl rfl) rfl rfl ?_
  refine AW.iconst 11 (nI 1) dX10_torn_10 (by decide) rfl ?_
  refine AW.iald 12 dX10_torn_11 (zA rfl rfl) rfl (by omega) (by decide) rfl ?_
  refine AW.topi (nI (kc 1)) k1.1 ?_
  refine AW.iaddN 13 dX10_torn_12 rfl ?_
  refine AW.aload_n 14 dX10_torn_13 rfl rfl ?_
  refine AW.getR 17 dX10_torn_14 fX10_90 rfl (zI rfl rfl) rfl rfl ?_
  refine AW.iconst 18 (nI 2) dX10_torn_17 (by decide) rfl ?_
  refine AW.iald 19 dX10_torn_18 (zA rfl rfl) rfl (by omega) (by decide) rfl ?_
  refine AW.topi (nI (kc 2)) k2.1 ?_
  refine AW.iaddN 20 dX10_torn_19 rfl ?_
  refine AW.ifN_ne 23 26 dX10_torn_20 (by decide) rfl (by omega) (fun b20 => ?_) (fun b20 => ?_)
  · skip
    refine AW.aload_n 27 dX10_torn_26 rfl rfl ?_
    refine AW.cVv0 30 dX10_torn_27 kX10_229 (zI rfl rfl) (Nat.le_of_ble_eq_true rfl) rfl (C_X10_seal hL hL2 (fun M1 h1 h2 => ?_))
    refine AW.iconst 31 (nI 0) dX10_torn_30 (by decide) rfl ?_
    refine AW.istn1 32 dX10_torn_31 (by decide) rfl rfl ?_
    refine L_X10_torn (by rw [h1 99 (by decide)]; exact hL) hL2 (fun k q => by rw [h1 125 (by decide)]; exact hk k q) h2 L 0 (by omega) ?_
    have e := hok b20 M1 h1
    unfold g_held g_ps at e ⊢
    rw [h1 126 (by decide)]; exact e
  · skip
    refine AW.bipush 25 (-2) dX10_torn_23 (by decide) rfl ?_
    refine AW.iret dX10_torn_25 .int rfl rfl rfl ⟨_, rfl, ?_⟩
    exact hno b20
theorem L_X9_torn (hL : M 70 1 = nI L) (hL2 : L ≤ 48) (hk : ∀ k, k < 3 → M (77 + 2 * k) 1 = nI (kc k) ∧ kc k ≤ 48) {Q : Int32 → zS → zM → Prop} :
    ∀ (q i : Nat), i + q = L → Q (z_fnd (fun i => !f_held M kc i) i q) (ZS m0 m1 md) M → AW l g RX9 cX9_torn 3 (some .int) false (d + 1) 0 0 14 [some (.ref 0), some (.int (nI (z_cnt (z_pw kc) 3))), some (.int (nI i))] [] (ZS m0 m1 md) M (z_Qi Q) := by
  intro q
  induction q with
  | zero =>
    intro i hi hQ
    refine AW.iload_n 15 dX9_torn_14 rfl rfl ?_
    refine AW.aload_n 16 dX9_torn_15 rfl rfl ?_
    refine AW.getR 19 dX9_torn_16 fX9_53 rfl (zI rfl rfl) rfl rfl ?_
    refine AW.getI 22 dX9_torn_19 fX9_173 rfl (zI rfl rfl) rfl ?_
    refine AW.topi (nI L) hL ?_
    refine AW.icmpN_ge 25 42 dX9_torn_22 (by decide) rfl (by omega) (by omega) (fun b22 => ?_) (fun b22 => absurd b22 (by omega))
    refine AW.bipush 44 (-4) dX9_torn_42 (by decide) rfl ?_
    refine AW.iret dX9_torn_44 .int rfl rfl rfl ⟨_, rfl, ?_⟩
    exact hQ
  | succ q ih =>
    intro i hi hQ
    unfold z_fnd at hQ
    refine AW.iload_n 15 dX9_torn_14 rfl rfl ?_
    refine AW.aload_n 16 dX9_torn_15 rfl rfl ?_
    refine AW.getR 19 dX9_torn_16 fX9_53 rfl (zI rfl rfl) rfl rfl ?_
    refine AW.getI 22 dX9_torn_19 fX9_173 rfl (zI rfl rfl) rfl ?_
    refine AW.topi (nI L) hL ?_
    refine AW.icmpN_ge 25 42 dX9_torn_22 (by decide) rfl (by omega) (by omega) (fun b22 => absurd b22 (by omega)) (fun b22 => ?_)
    refine AW.aload_n 26 dX9_torn_25 rfl rfl ?_
    refine AW.iload_n 27 dX9_torn_26 rfl rfl ?_
    refine AW.iload_n 28 dX9_torn_27 rfl rfl ?_
    refine AW.cVi2 31 dX9_torn_28 kX9_205 (zI rfl rfl) (Nat.le_of_ble_eq_true rfl) rfl (C_X9_isHeld hk (by omega) (z_cnt_le _ _) (PS := f_ps M kc i) (fun k _ => by unfold f_ps; rw [decide_eq_true_iff]) (fun b28 => ?_) (fun b28 => ?_))
    · skip
      refine AW.if_ne 34 36 dX9_torn_31 (by decide) rfl (fun _ => ?_) (fun h => absurd h (by decide))
      refine AW.iinc2 39 _ dX9_torn_36 (z_inc1 _) (by decide) rfl rfl ?_
      refine AW.goto 14 dX9_torn_39 (by decide) ?_
      refine ih (i + 1) (by omega) ?_
      rw [if_neg (by unfold f_held; rw [Bool.not_eq_true', decide_eq_true b28]; intro z; cases z)] at hQ
      exact hQ
    · skip
      refine AW.if_ne 34 36 dX9_torn_31 (by decide) rfl (fun h => absurd h (by decide)) (fun _ => ?_)
      refine AW.iload_n 35 dX9_torn_34 rfl rfl ?_
      refine AW.iret dX9_torn_35 .int rfl rfl rfl ⟨_, rfl, ?_⟩
      rw [if_pos (by unfold f_held; rw [Bool.not_eq_true']; exact decide_eq_false b28)] at hQ
      exact hQ
theorem C_X9_torn (hL : M 70 1 = nI L) (hL2 : L ≤ 48) (hk : ∀ k, k < 3 → M (77 + 2 * k) 1 = nI (kc k) ∧ kc k ≤ 48) {Q : Int32 → zS → zM → Prop} (hno : z_cnt (z_pw kc) 3 = 0 → Q (-2) (ZS m0 m1 md) M) (hok : ¬ z_cnt (z_pw kc) 3 = 0 → Q (z_fnd (fun i => !f_held M kc i) 0 L) (ZS m0 m1 md) M) : AMet l g yX9_torn cX9_torn 3 (some .int) (d + 1) 0 0 [.ref 0] (ZS m0 m1 md) M (z_Qi Q) := by
  have c1 := z_cnt_le (z_pw kc) 3
  refine AMet.of (ini := false) rfl (fun h => by first | rfl | cases h) (Nat.le_of_ble_eq_true rfl) ?_
  show AW l g RX9 cX9_torn 3 (some .int) false _ _ _ 0 [some (.ref 0), none, none] [] _ _ _
  refine AW.aload_n 1 dX9_torn_0 rfl rfl ?_
  refine AW.cVi0 4 dX9_torn_1 kX9_201 (zI rfl rfl) (Nat.le_of_ble_eq_true rfl) rfl (C_X9_countHolders hk (PW := z_pw kc) (fun k _ => decide_eq_true_iff) ?_)
  refine AW.istn1 5 dX9_torn_4 (by decide) rfl rfl ?_
  refine AW.iload_n 6 dX9_torn_5 rfl rfl ?_
  refine AW.ifN_ne 9 12 dX9_torn_6 (by decide) rfl (by omega) (fun b6 => ?_) (fun b6 => ?_)
  · skip
    refine AW.iconst 13 (nI 0) dX9_torn_12 (by decide) rfl ?_
    refine AW.istn2 14 dX9_torn_13 (by decide) rfl rfl ?_
    exact L_X9_torn hL hL2 hk L 0 (by omega) (hok b6)
  · skip
    refine AW.bipush 11 (-2) dX9_torn_9 (by decide) rfl ?_
    refine AW.iret dX9_torn_11 .int rfl rfl rfl ⟨_, rfl, ?_⟩
    exact hno b6
end BOOK4
