def z_cnt (P : Nat → Bool) : Nat → Nat
  | 0 => 0
  | n + 1 => z_cnt P n + (if P n then 1 else 0)
theorem z_cnt_t {P : Nat → Bool} {n : Nat} (h : P n = true) : z_cnt P n + 1 = z_cnt P (n + 1) := by show _ = z_cnt P n + _; rw [if_pos h]
theorem z_cnt_f {P : Nat → Bool} {n : Nat} (h : ¬ P n = true) : z_cnt P n = z_cnt P (n + 1) := by show _ = z_cnt P n + _; rw [if_neg h]; rfl
theorem z_cnt_le (P : Nat → Bool) : ∀ n, z_cnt P n ≤ n
  | 0 => Nat.le_refl _
  | n + 1 => by have := z_cnt_le P n; unfold z_cnt; split <;> omega
theorem z_cnt_mono {P P' : Nat → Bool} : ∀ n, (∀ i, i < n → P i = true → P' i = true) → z_cnt P n ≤ z_cnt P' n
  | 0, _ => Nat.le_refl _
  | n + 1, h => by
    have h1 := z_cnt_mono n (fun i hi => h i (by omega))
    have h2 := h n (by omega)
    unfold z_cnt
    by_cases hp : P n = true
    · rw [if_pos hp, if_pos (h2 hp)]; omega
    · rw [if_neg hp]; omega
/-- a line's seal out of that ahead -/
def z_sl0 (s k t m : Int32) : Int32 := (nI 31 * s + nI 131 * k + nI 17 * t + nI 7 * m + nI 1) - (nI 31 * s + nI 131 * k + nI 17 * t + nI 7 * m + nI 1) / nI 9973 * nI 9973
def z_sealF (k t m : Nat → Int32) : Nat → Int32
  | 0 => nI 1
  | i + 1 => z_sl0 (z_sealF k t m i) (k i) (t i) (m i)
theorem z_sl0_c (s k t m : Int32) : (nI 31 * s + (nI 131 * k + nI 17 * t + nI 7 * m + nI 1)) - (nI 31 * s + (nI 131 * k + nI 17 * t + nI 7 * m + nI 1)) / nI 9973 * nI 9973 = z_sl0 s k t m := by
  unfold z_sl0
  simp only [Int32.add_assoc]
theorem z_sealF_congr {k t m k' t' m' : Nat → Int32} : ∀ n, (∀ i, i < n → k i = k' i ∧ t i = t' i ∧ m i = m' i) → z_sealF k t m n = z_sealF k' t' m' n
  | 0, _ => rfl
  | n + 1, h => by
    have h1 := z_sealF_congr n (fun i hi => h i (by omega))
    obtain ⟨a, b, c⟩ := h n (by omega)
    unfold z_sealF; rw [h1, a, b, c]
/-- held: of w keepers that hold some, s have it -/
def z_held (w s : Nat) : Bool := if w = 1 then decide (s = 1) else decide (2 ≤ s)
section BOOK
variable {l : Launch} {g : zG} {d m0 m1 md : Nat} {M : zM} {L : Nat} {kc : Nat → Nat}
theorem C_X10_isLine (hL : M 99 25 = nI L) (hL2 : L ≤ 48) {s : Int32} {Q : Int32 → zS → zM → Prop} (h1 : 0 ≤ s.toInt ∧ s.toInt < L → Q (nI 1) (ZS m0 m1 md) M) (h0 : ¬ (0 ≤ s.toInt ∧ s.toInt < L) → Q (nI 0) (ZS m0 m1 md) M) : AMet l g yX10_isLine cX10_isLine 2 (some .boolean) (d + 1) 0 0 [.ref 99, .int s] (ZS m0 m1 md) M (z_Qi Q) := by
  refine AMet.of (ini := false) rfl (fun h => by first | rfl | cases h) (Nat.le_of_ble_eq_true rfl) ?_
  show AW l g RX10 cX10_isLine 2 (some .boolean) false _ _ _ 0 [some (.ref 99), some (.int s)] [] _ _ _
  refine AW.iload_n 1 dX10_isLine_0 rfl rfl ?_
  refine AW.i2l 2 dX10_isLine_1 rfl ?_
  refine AW.lconst 3 (lN 0) dX10_isLine_2 rfl rfl ?_
  refine AW.aload_n 4 dX10_isLine_3 rfl rfl ?_
  refine AW.getI 7 dX10_isLine_4 fX10_209 rfl (zI rfl rfl) rfl ?_
  refine AW.topi (nI L) hL ?_
  refine AW.iconst 8 (nI 1) dX10_isLine_7 (by decide) rfl ?_
  refine AW.isub 9 dX10_isLine_8 rfl ?_
  refine AW.i2l 10 dX10_isLine_9 rfl ?_
  refine AW.cSi3 13 dX10_isLine_10 kX10_131 (Nat.le_of_ble_eq_true rfl) rfl (C_in (Int32.toInt_toInt64 _) (z_lN (by decide)) (z_pred_l (by omega)) (fun b10 => ?_) (fun b10 => ?_))
  · skip
    refine AW.iret dX10_isLine_13 .boolean rfl rfl rfl ⟨_, rfl, ?_⟩
    first | exact h1 (by omega) | exact h0 (by omega)
  · skip
    refine AW.iret dX10_isLine_13 .boolean rfl rfl rfl ⟨_, rfl, ?_⟩
    first | exact h1 (by omega) | exact h0 (by omega)
theorem C_X9_noLine (hL : M 70 1 = nI L) (hL2 : L ≤ 48) {s : Int32} {Q : Int32 → zS → zM → Prop} (h1 : ¬ (0 ≤ s.toInt ∧ s.toInt < L) → Q (nI 1) (ZS m0 m1 md) M) (h0 : 0 ≤ s.toInt ∧ s.toInt < L → Q (nI 0) (ZS m0 m1 md) M) : AMet l g yX9_noLine cX9_noLine 2 (some .boolean) (d + 1) 0 0 [.ref 0, .int s] (ZS m0 m1 md) M (z_Qi Q) := by
  refine AMet.of (ini := false) rfl (fun h => by first | rfl | cases h) (Nat.le_of_ble_eq_true rfl) ?_
  show AW l g RX9 cX9_noLine 2 (some .boolean) false _ _ _ 0 [some (.ref 0), some (.int s)] [] _ _ _
  refine AW.iload_n 1 dX9_noLine_0 rfl rfl ?_
  refine AW.aload_n 2 dX9_noLine_1 rfl rfl ?_
  refine AW.getR 5 dX9_noLine_2 fX9_53 rfl (zI rfl rfl) rfl rfl ?_
  refine AW.getI 8 dX9_noLine_5 fX9_173 rfl (zI rfl rfl) rfl ?_
  refine AW.topi (nI L) hL ?_
  refine AW.iconst 9 (nI 1) dX9_noLine_8 (by decide) rfl ?_
  refine AW.isub 10 dX9_noLine_9 rfl ?_
  refine AW.cSi2 13 dX9_noLine_10 kX9_120 (Nat.le_of_ble_eq_true rfl) rfl (C_beyond rfl (z_pred_i (by omega)) (fun b10 => ?_) (fun b10 => ?_))
  · skip
    refine AW.iret dX9_noLine_13 .boolean rfl rfl rfl ⟨_, rfl, ?_⟩
    first | exact h1 (by omega) | exact h0 (by omega)
  · skip
    refine AW.iret dX9_noLine_13 .boolean rfl rfl rfl ⟨_, rfl, ?_⟩
    first | exact h1 (by omega) | exact h0 (by omega)
theorem C_X9_noKeeper {s : Int32} {Q : Int32 → zS → zM → Prop} (h1 : ¬ (0 ≤ s.toInt ∧ s.toInt ≤ 2) → Q (nI 1) (ZS m0 m1 md) M) (h0 : 0 ≤ s.toInt ∧ s.toInt ≤ 2 → Q (nI 0) (ZS m0 m1 md) M) : AMet l g yX9_noKeeper cX9_noKeeper 2 (some .boolean) (d + 1) 0 0 [.ref 0, .int s] (ZS m0 m1 md) M (z_Qi Q) := by
  refine AMet.of (ini := false) rfl (fun h => by first | rfl | cases h) (Nat.le_of_ble_eq_true rfl) ?_
  show AW l g RX9 cX9_noKeeper 2 (some .boolean) false _ _ _ 0 [some (.ref 0), some (.int s)] [] _ _ _
  refine AW.iload_n 1 dX9_noKeeper_0 rfl rfl ?_
  refine AW.aload_n 2 dX9_noKeeper_1 rfl rfl ?_
  refine AW.getR 5 dX9_noKeeper_2 fX9_60 rfl (zI rfl rfl) rfl rfl ?_
  refine AW.alen 6 dX9_noKeeper_5 (zA rfl rfl) (by decide) (by decide) rfl ?_
  refine AW.iconst 7 (nI 1) dX9_noKeeper_6 (by decide) rfl ?_
  refine AW.isubN 8 dX9_noKeeper_7 (by decide) rfl ?_
  refine AW.cSi2 11 dX9_noKeeper_8 kX9_120 (Nat.le_of_ble_eq_true rfl) rfl (C_beyond rfl (by decide : (nI (3 - 1)).toInt = 2) (fun b8 => ?_) (fun b8 => ?_))
  · skip
    refine AW.iret dX9_noKeeper_11 .boolean rfl rfl rfl ⟨_, rfl, ?_⟩
    first | exact h1 (by omega) | exact h0 (by omega)
  · skip
    refine AW.iret dX9_noKeeper_11 .boolean rfl rfl rfl ⟨_, rfl, ?_⟩
    first | exact h1 (by omega) | exact h0 (by omega)
theorem L_X10_seal (hL : M 99 25 = nI L) (hL2 : L ≤ 48) {Q : zS → zM → Prop} (hQ : ∀ M' : zM, (∀ c, c ≠ 124 → M' c = M c) → (∀ i, i < L → M' 124 i = z_sealF (M 121) (M 122) (M 123) (i + 1)) → Q (ZS m0 m1 md) M') :
    ∀ (q i : Nat), i + q = L → ∀ M' : zM, (∀ c, c ≠ 124 → M' c = M c) → (∀ j, j < i → M' 124 j = z_sealF (M 121) (M 122) (M 123) (j + 1)) → AW l g RX10 cX10_seal 3 none false d 0 0 4 [some (.ref 99), some (.int (z_sealF (M 121) (M 122) (M 123) i)), some (.int (nI i))] [] (ZS m0 m1 md) M' (z_Qv Q) := by
  intro q
  induction q with
  | zero =>
    intro i hi M' h1 h2
    have hi : i = L := by omega
    subst hi
    have q0 : M' 99 25 = nI i := by rw [h1 99 (by decide)]; exact hL
    refine AW.iload_n 5 dX10_seal_4 rfl rfl ?_
    refine AW.aload_n 6 dX10_seal_5 rfl rfl ?_
    refine AW.getI 9 dX10_seal_6 fX10_209 rfl (zI rfl rfl) rfl ?_
    refine AW.topi (nI i) q0 ?_
    refine AW.icmpN_ge 12 67 dX10_seal_9 (by decide) rfl (by omega) (by omega) (fun b9 => ?_) (fun b9 => absurd b9 (by omega))
    refine AW.vret dX10_seal_67 rfl rfl ⟨rfl, ?_⟩
    exact hQ M' h1 h2
  | succ q ih =>
    intro i hi M' h1 h2
    have q0 : M' 99 25 = nI L := by rw [h1 99 (by decide)]; exact hL
    have e := ih (i + 1) (by omega)
    refine AW.iload_n 5 dX10_seal_4 rfl rfl ?_
    refine AW.aload_n 6 dX10_seal_5 rfl rfl ?_
    refine AW.getI 9 dX10_seal_6 fX10_209 rfl (zI rfl rfl) rfl ?_
    refine AW.topi (nI L) q0 ?_
    refine AW.icmpN_ge 12 67 dX10_seal_9 (by decide) rfl (by omega) (by omega) (fun b9 => absurd b9 (by omega)) (fun b9 => ?_)
    refine AW.bipush 14 (nI 31) dX10_seal_12 (by decide) rfl ?_
    refine AW.iload_n 15 dX10_seal_14 rfl rfl ?_
    refine AW.imul 16 dX10_seal_15 rfl ?_
    refine AW.sipush 19 (nI 131) dX10_seal_16 (by decide) rfl ?_
    refine AW.aload_n 20 dX10_seal_19 rfl rfl ?_
    refine AW.getR 23 dX10_seal_20 fX10_78 rfl (zI rfl rfl) rfl rfl ?_
    refine AW.iload_n 24 dX10_seal_23 rfl rfl ?_
    refine AW.iald 25 dX10_seal_24 (zA rfl rfl) rfl (by omega) (by decide) rfl ?_
    refine AW.topi (M 121 i) (by rw [h1 121 (by decide)]) ?_
    refine AW.imul 26 dX10_seal_25 rfl ?_
    refine AW.iadd 27 dX10_seal_26 rfl ?_
    refine AW.bipush 29 (nI 17) dX10_seal_27 (by decide) rfl ?_
    refine AW.aload_n 30 dX10_seal_29 rfl rfl ?_
    refine AW.getR 33 dX10_seal_30 fX10_81 rfl (zI rfl rfl) rfl rfl ?_
    refine AW.iload_n 34 dX10_seal_33 rfl rfl ?_
    refine AW.iald 35 dX10_seal_34 (zA rfl rfl) rfl (by omega) (by decide) rfl ?_
    refine AW.topi (M 122 i) (by rw [h1 122 (by decide)]) ?_
    refine AW.imul 36 dX10_seal_35 rfl ?_
    refine AW.iadd 37 dX10_seal_36 rfl ?_
    refine AW.bipush 39 (nI 7) dX10_seal_37 (by decide) rfl ?_
    refine AW.aload_n 40 dX10_seal_39 rfl rfl ?_
    refine AW.getR 43 dX10_seal_40 fX10_84 rfl (zI rfl rfl) rfl rfl ?_
    refine AW.iload_n 44 dX10_seal_43 rfl rfl ?_
    refine AW.iald 45 dX10_seal_44 (zA rfl rfl) rfl (by omega) (by decide) rfl ?_
    refine AW.topi (M 123 i) (by rw [h1 123 (by decide)]) ?_
    refine AW.imul 46 dX10_seal_45 rfl ?_
    refine AW.iadd 47 dX10_seal_46 rfl ?_
    refine AW.iconst 48 (nI 1) dX10_seal_47 (by decide) rfl ?_
    refine AW.iadd 49 dX10_seal_48 rfl ?_
    refine AW.sipush 52 (nI 9973) dX10_seal_49 (by decide) rfl ?_
    refine AW.irem 53 dX10_seal_52 (by decide) rfl ?_
    refine AW.topi (z_sealF (M 121) (M 122) (M 123) (i + 1)) rfl ?_
    refine AW.istn1 54 dX10_seal_53 (by decide) rfl rfl ?_
    refine AW.aload_n 55 dX10_seal_54 rfl rfl ?_
    refine AW.getR 58 dX10_seal_55 fX10_87 rfl (zI rfl rfl) rfl rfl ?_
    refine AW.iload_n 59 dX10_seal_58 rfl rfl ?_
    refine AW.iload_n 60 dX10_seal_59 rfl rfl ?_
    refine AW.iast 61 dX10_seal_60 (zA rfl rfl) rfl (by omega) (by decide) rfl ?_
    refine AW.iinc2 64 _ dX10_seal_61 (z_inc1 _) (by decide) rfl rfl ?_
    refine AW.goto 4 dX10_seal_64 (by decide) ?_
    refine e _ (fun c c1 => by rw [z_st_ne c1]; exact h1 c c1) (fun j hj => ?_)
    rw [z_st_at]
    unfold upd
    by_cases h : j = i
    · rw [if_pos h, h]
    · rw [if_neg h]; exact h2 j (by omega)
theorem C_X10_seal (hL : M 99 25 = nI L) (hL2 : L ≤ 48) {Q : zS → zM → Prop} (hQ : ∀ M' : zM, (∀ c, c ≠ 124 → M' c = M c) → (∀ i, i < L → M' 124 i = z_sealF (M 121) (M 122) (M 123) (i + 1)) → Q (ZS m0 m1 md) M') : AMet l g yX10_seal cX10_seal 3 none d 0 0 [.ref 99] (ZS m0 m1 md) M (z_Qv Q) := by
  refine AMet.of (ini := false) rfl (fun h => by first | rfl | cases h) (Nat.le_of_ble_eq_true rfl) ?_
  show AW l g RX10 cX10_seal 3 none false _ _ _ 0 [some (.ref 99), none, none] [] _ _ _
  refine AW.iconst 1 (nI 1) dX10_seal_0 (by decide) rfl ?_
  refine AW.istn1 2 dX10_seal_1 (by decide) rfl rfl ?_
  refine AW.iconst 3 (nI 0) dX10_seal_2 (by decide) rfl ?_
  refine AW.istn2 4 dX10_seal_3 (by decide) rfl rfl ?_
  exact L_X10_seal hL hL2 hQ L 0 (by omega) M (fun _ _ => rfl) (fun j hj => absurd hj (by omega))
theorem L_X0_sealAll (hL : M 70 1 = nI L) (hL2 : L ≤ 48) {Q : zS → zM → Prop} (hQ : ∀ M' : zM, (∀ c, c ≠ 75 → M' c = M c) → (∀ i, i < L → M' 75 i = z_sealF (M 72) (M 73) (M 74) (i + 1)) → Q (ZS m0 m1 md) M') :
    ∀ (q i : Nat) (v3 : Option Value), i + q = L → ∀ M' : zM, (∀ c, c ≠ 75 → M' c = M c) → (∀ j, j < i → M' 75 j = z_sealF (M 72) (M 73) (M 74) (j + 1)) → AW l g RX0 cX0_sealAll 4 none false d 0 0 4 [some (.ref 70), some (.int (z_sealF (M 72) (M 73) (M 74) i)), some (.int (nI i)), v3] [] (ZS m0 m1 md) M' (z_Qv Q) := by
  intro q
  induction q with
  | zero =>
    intro i v3 hi M' h1 h2
    have hi : i = L := by omega
    subst hi
    have q0 : M' 70 1 = nI i := by rw [h1 70 (by decide)]; exact hL
    refine AW.iload_n 5 dX0_sealAll_4 rfl rfl ?_
    refine AW.aload_n 6 dX0_sealAll_5 rfl rfl ?_
    refine AW.getI 9 dX0_sealAll_6 fX0_16 rfl (zI rfl rfl) rfl ?_
    refine AW.topi (nI i) q0 ?_
    refine AW.icmpN_ge 12 77 dX0_sealAll_9 (by decide) rfl (by omega) (by omega) (fun b9 => ?_) (fun b9 => absurd b9 (by omega))
    refine AW.vret dX0_sealAll_77 rfl rfl ⟨rfl, ?_⟩
    exact hQ M' h1 h2
  | succ q ih =>
    intro i v3 hi M' h1 h2
    have q0 : M' 70 1 = nI L := by rw [h1 70 (by decide)]; exact hL
    have e := fun v => ih (i + 1) v (by omega)
    refine AW.iload_n 5 dX0_sealAll_4 rfl rfl ?_
    refine AW.aload_n 6 dX0_sealAll_5 rfl rfl ?_
    refine AW.getI 9 dX0_sealAll_6 fX0_16 rfl (zI rfl rfl) rfl ?_
    refine AW.topi (nI L) q0 ?_
    refine AW.icmpN_ge 12 77 dX0_sealAll_9 (by decide) rfl (by omega) (by omega) (fun b9 => absurd b9 (by omega)) (fun b9 => ?_)
    refine AW.sipush 15 (nI 131) dX0_sealAll_12 (by decide) rfl ?_
    refine AW.aload_n 16 dX0_sealAll_15 rfl rfl ?_
    refine AW.getR 19 dX0_sealAll_16 fX0_11 rfl (zI rfl rfl) rfl rfl ?_
    refine AW.iconst 20 (nI 0) dX0_sealAll_19 (by decide) rfl ?_
    refine AW.aald 21 dX0_sealAll_20 (zA rfl rfl) (by decide) rfl (by omega) (by decide) rfl rfl ?_
    refine AW.iload_n 22 dX0_sealAll_21 rfl rfl ?_
    refine AW.iald 23 dX0_sealAll_22 (zA rfl rfl) rfl (by omega) (by decide) rfl ?_
    refine AW.topi (M 72 i) (by rw [h1 72 (by decide)]) ?_
    refine AW.imul 24 dX0_sealAll_23 rfl ?_
    refine AW.bipush 26 (nI 17) dX0_sealAll_24 (by decide) rfl ?_
    refine AW.aload_n 27 dX0_sealAll_26 rfl rfl ?_
    refine AW.getR 30 dX0_sealAll_27 fX0_11 rfl (zI rfl rfl) rfl rfl ?_
    refine AW.iconst 31 (nI 1) dX0_sealAll_30 (by decide) rfl ?_
    refine AW.aald 32 dX0_sealAll_31 (zA rfl rfl) (by decide) rfl (by omega) (by decide) rfl rfl ?_
    refine AW.iload_n 33 dX0_sealAll_32 rfl rfl ?_
    refine AW.iald 34 dX0_sealAll_33 (zA rfl rfl) rfl (by omega) (by decide) rfl ?_
    refine AW.topi (M 73 i) (by rw [h1 73 (by decide)]) ?_
    refine AW.imul 35 dX0_sealAll_34 rfl ?_
    refine AW.iadd 36 dX0_sealAll_35 rfl ?_
    refine AW.bipush 38 (nI 7) dX0_sealAll_36 (by decide) rfl ?_
    refine AW.aload_n 39 dX0_sealAll_38 rfl rfl ?_
    refine AW.getR 42 dX0_sealAll_39 fX0_11 rfl (zI rfl rfl) rfl rfl ?_
    refine AW.iconst 43 (nI 2) dX0_sealAll_42 (by decide) rfl ?_
    refine AW.aald 44 dX0_sealAll_43 (zA rfl rfl) (by decide) rfl (by omega) (by decide) rfl rfl ?_
    refine AW.iload_n 45 dX0_sealAll_44 rfl rfl ?_
    refine AW.iald 46 dX0_sealAll_45 (zA rfl rfl) rfl (by omega) (by decide) rfl ?_
    refine AW.topi (M 74 i) (by rw [h1 74 (by decide)]) ?_
    refine AW.imul 47 dX0_sealAll_46 rfl ?_
    refine AW.iadd 48 dX0_sealAll_47 rfl ?_
    refine AW.iconst 49 (nI 1) dX0_sealAll_48 (by decide) rfl ?_
    refine AW.iadd 50 dX0_sealAll_49 rfl ?_
    refine AW.istn3 51 dX0_sealAll_50 (by decide) rfl rfl ?_
    refine AW.bipush 53 (nI 31) dX0_sealAll_51 (by decide) rfl ?_
    refine AW.iload_n 54 dX0_sealAll_53 rfl rfl ?_
    refine AW.imul 55 dX0_sealAll_54 rfl ?_
    refine AW.iload_n 56 dX0_sealAll_55 rfl rfl ?_
    refine AW.iadd 57 dX0_sealAll_56 rfl ?_
    refine AW.sipush 60 (nI 9973) dX0_sealAll_57 (by decide) rfl ?_
    refine AW.irem 61 dX0_sealAll_60 (by decide) rfl ?_
    refine AW.topi (z_sealF (M 72) (M 73) (M 74) (i + 1)) (z_sl0_c _ _ _ _) ?_
    refine AW.istn1 62 dX0_sealAll_61 (by decide) rfl rfl ?_
    refine AW.aload_n 63 dX0_sealAll_62 rfl rfl ?_
    refine AW.getR 66 dX0_sealAll_63 fX0_11 rfl (zI rfl rfl) rfl rfl ?_
    refine AW.iconst 67 (nI 3) dX0_sealAll_66 (by decide) rfl ?_
    refine AW.aald 68 dX0_sealAll_67 (zA rfl rfl) (by decide) rfl (by omega) (by decide) rfl rfl ?_
    refine AW.iload_n 69 dX0_sealAll_68 rfl rfl ?_
    refine AW.iload_n 70 dX0_sealAll_69 rfl rfl ?_
    refine AW.iast 71 dX0_sealAll_70 (zA rfl rfl) rfl (by omega) (by decide) rfl ?_
    refine AW.iinc2 74 _ dX0_sealAll_71 (z_inc1 _) (by decide) rfl rfl ?_
    refine AW.goto 4 dX0_sealAll_74 (by decide) ?_
    refine e _ _ (fun c c1 => by rw [z_st_ne c1]; exact h1 c c1) (fun j hj => ?_)
    rw [z_st_at]
    unfold upd
    by_cases h : j = i
    · rw [if_pos h, h]
    · rw [if_neg h]; exact h2 j (by omega)
theorem C_X0_sealAll (hL : M 70 1 = nI L) (hL2 : L ≤ 48) {Q : zS → zM → Prop} (hQ : ∀ M' : zM, (∀ c, c ≠ 75 → M' c = M c) → (∀ i, i < L → M' 75 i = z_sealF (M 72) (M 73) (M 74) (i + 1)) → Q (ZS m0 m1 md) M') : AMet l g yX0_sealAll cX0_sealAll 4 none d 0 0 [.ref 70] (ZS m0 m1 md) M (z_Qv Q) := by
  refine AMet.of (ini := false) rfl (fun h => by first | rfl | cases h) (Nat.le_of_ble_eq_true rfl) ?_
  show AW l g RX0 cX0_sealAll 4 none false _ _ _ 0 [some (.ref 70), none, none, none] [] _ _ _
  refine AW.iconst 1 (nI 1) dX0_sealAll_0 (by decide) rfl ?_
  refine AW.istn1 2 dX0_sealAll_1 (by decide) rfl rfl ?_
  refine AW.iconst 3 (nI 0) dX0_sealAll_2 (by decide) rfl ?_
  refine AW.istn2 4 dX0_sealAll_3 (by decide) rfl rfl ?_
  exact L_X0_sealAll hL hL2 hQ L 0 none (by omega) M (fun _ _ => rfl) (fun j hj => absurd hj (by omega))
theorem L_X10_isHeld (hk : ∀ k, k < 3 → M 125 k = nI (kc k) ∧ kc k ≤ 48) {i : Nat} (hi : i < 48) {PW PS : Nat → Bool} (hW : ∀ k, k < 3 → (PW k = true ↔ 0 < kc k)) (hP : ∀ k, k < 3 → (PS k = true ↔ (i < kc k ∧ (M 126 (48 * k + i)).toInt = (M 124 i).toInt))) {Q : Int32 → zS → zM → Prop} (h1 : z_held (z_cnt PW 3) (z_cnt PS 3) = true → Q (nI 1) (ZS m0 m1 md) M) (h0 : ¬ z_held (z_cnt PW 3) (z_cnt PS 3) = true → Q (nI 0) (ZS m0 m1 md) M) :
    ∀ (q k : Nat), k + q = 3 → AW l g RX10 cX10_isHeld 5 (some .boolean) false d 0 0 7 [some (.ref 99), some (.int (nI i)), some (.int (nI (z_cnt PW k))), some (.int (nI (z_cnt PS k))), some (.int (nI k))] [] (ZS m0 m1 md) M (z_Qi Q) := by
  intro q
  induction q with
  | zero =>
    intro k hq
    have hq : k = 3 := by omega
    subst hq
    have c1 := z_cnt_le PW 3
    have c2 := z_cnt_le PS 3
    refine AW.iload 9 dX10_isHeld_7 rfl rfl ?_
    refine AW.iconst 10 (nI 3) dX10_isHeld_9 (by decide) rfl ?_
    refine AW.icmp_ge 13 77 dX10_isHeld_10 (by decide) rfl (fun _ => ?_) (fun h => absurd h (by decide))
    refine AW.iload_n 78 dX10_isHeld_77 rfl rfl ?_
    refine AW.iconst 79 (nI 1) dX10_isHeld_78 (by decide) rfl ?_
    refine AW.icmpN_ne 82 95 dX10_isHeld_79 (by decide) rfl (by omega) (by omega) (fun b79 => ?_) (fun b79 => ?_)
    · skip
      refine AW.iload_n 96 dX10_isHeld_95 rfl rfl ?_
      refine AW.iconst 97 (nI 2) dX10_isHeld_96 (by decide) rfl ?_
      refine AW.icmpN_lt 100 104 dX10_isHeld_97 (by decide) rfl (by omega) (by omega) (fun b97 => ?_) (fun b97 => ?_)
      · skip
        refine AW.iconst 105 (nI 0) dX10_isHeld_104 (by decide) rfl ?_
        refine AW.iret dX10_isHeld_105 .boolean rfl rfl rfl ⟨_, rfl, ?_⟩
        unfold z_held at h1 h0
        first | (apply h1; split <;> first | (apply decide_eq_true; omega) | (exfalso; omega)) | (apply h0; intro z; split at z <;> (have z2 := of_decide_eq_true z; omega))
      · skip
        refine AW.iconst 101 (nI 1) dX10_isHeld_100 (by decide) rfl ?_
        refine AW.goto 105 dX10_isHeld_101 (by decide) ?_
        refine AW.iret dX10_isHeld_105 .boolean rfl rfl rfl ⟨_, rfl, ?_⟩
        unfold z_held at h1 h0
        first | (apply h1; split <;> first | (apply decide_eq_true; omega) | (exfalso; omega)) | (apply h0; intro z; split at z <;> (have z2 := of_decide_eq_true z; omega))
    · skip
      refine AW.iload_n 83 dX10_isHeld_82 rfl rfl ?_
      refine AW.iconst 84 (nI 1) dX10_isHeld_83 (by decide) rfl ?_
      refine AW.icmpN_ne 87 91 dX10_isHeld_84 (by decide) rfl (by omega) (by omega) (fun b84 => ?_) (fun b84 => ?_)
      · skip
        refine AW.iconst 92 (nI 0) dX10_isHeld_91 (by decide) rfl ?_
        refine AW.goto 105 dX10_isHeld_92 (by decide) ?_
        refine AW.iret dX10_isHeld_105 .boolean rfl rfl rfl ⟨_, rfl, ?_⟩
        unfold z_held at h1 h0
        first | (apply h1; split <;> first | (apply decide_eq_true; omega) | (exfalso; omega)) | (apply h0; intro z; split at z <;> (have z2 := of_decide_eq_true z; omega))
      · skip
        refine AW.iconst 88 (nI 1) dX10_isHeld_87 (by decide) rfl ?_
        refine AW.goto 105 dX10_isHeld_88 (by decide) ?_
        refine AW.iret dX10_isHeld_105 .boolean rfl rfl rfl ⟨_, rfl, ?_⟩
        unfold z_held at h1 h0
        first | (apply h1; split <;> first | (apply decide_eq_true; omega) | (exfalso; omega)) | (apply h0; intro z; split at z <;> (have z2 := of_decide_eq_true z; omega))
  | succ q ih =>
    intro k hq
    obtain ⟨k1, k2⟩ := hk k (by omega)
    have e1 := hW k (by omega)
    have e2 := hP k (by omega)
    have c1 := z_cnt_le PW k
    have c2 := z_cnt_le PS k
    have ih' : ∀ a b : Nat, a = z_cnt PW (k + 1) → b = z_cnt PS (k + 1) → AW l g RX10 cX10_isHeld 5 (some .boolean) false d 0 0 7 [some (.ref 99), some (.int (nI i)), some (.int (nI a)), some (.int (nI b)), some (.int (nI (k + 1)))] [] (ZS m0 m1 md) M (z_Qi Q) := by
      intro a b ea eb; subst ea; subst eb; exact ih (k + 1) (by omega)
    refine AW.iload 9 dX10_isHeld_7 rfl rfl ?_
    refine AW.iconst 10 (nI 3) dX10_isHeld_9 (by decide) rfl ?_
    refine AW.icmpN_ge 13 77 dX10_isHeld_10 (by decide) rfl (by omega) (by omega) (fun b10 => absurd b10 (by omega)) (fun b10 => ?_)
    refine AW.iload_n 14 dX10_isHeld_13 rfl rfl ?_
    refine AW.aload_n 15 dX10_isHeld_14 rfl rfl ?_
    refine AW.getR 18 dX10_isHeld_15 fX10_90 rfl (zI rfl rfl) rfl rfl ?_
    refine AW.iload 20 dX10_isHeld_18 rfl rfl ?_
    refine AW.iald 21 dX10_isHeld_20 (zA rfl rfl) rfl (by omega) (by decide) rfl ?_
    refine AW.topi (nI (kc k)) k1 ?_
    refine AW.ifN_le 24 28 dX10_isHeld_21 (by decide) rfl (by omega) (fun b21 => ?_) (fun b21 => ?_)
    · skip
      refine AW.iconst 29 (nI 0) dX10_isHeld_28 (by decide) rfl ?_
      refine AW.iaddN 30 dX10_isHeld_29 rfl ?_
      refine AW.istn2 31 dX10_isHeld_30 (by decide) rfl rfl ?_
      refine AW.iload_n 32 dX10_isHeld_31 rfl rfl ?_
      refine AW.iload_n 33 dX10_isHeld_32 rfl rfl ?_
      refine AW.aload_n 34 dX10_isHeld_33 rfl rfl ?_
      refine AW.getR 37 dX10_isHeld_34 fX10_90 rfl (zI rfl rfl) rfl rfl ?_
      refine AW.iload 39 dX10_isHeld_37 rfl rfl ?_
      refine AW.iald 40 dX10_isHeld_39 (zA rfl rfl) rfl (by omega) (by decide) rfl ?_
      refine AW.topi (nI (kc k)) k1 ?_
      refine AW.icmpN_ge 43 68 dX10_isHeld_40 (by decide) rfl (by omega) (by omega) (fun b40 => ?_) (fun b40 => ?_)
      · skip
        refine AW.iconst 69 (nI 0) dX10_isHeld_68 (by decide) rfl ?_
        refine AW.iaddN 70 dX10_isHeld_69 rfl ?_
        refine AW.istn3 71 dX10_isHeld_70 (by decide) rfl rfl ?_
        refine AW.iinc4 74 _ dX10_isHeld_71 (z_inc1 _) (by decide) rfl rfl ?_
        refine AW.goto 7 dX10_isHeld_74 (by decide) ?_
        refine ih' _ _ ?_ ?_
        · first | exact z_cnt_t (e1.mpr (by omega)) | exact z_cnt_f (fun z => by have := e1.mp z; omega)
        · first | exact z_cnt_t (e2.mpr ⟨by omega, b61⟩) | exact z_cnt_f (fun z => by have := e2.mp z; omega)
      · skip
        refine AW.aload_n 44 dX10_isHeld_43 rfl rfl ?_
        refine AW.getR 47 dX10_isHeld_44 fX10_93 rfl (zI rfl rfl) rfl rfl ?_
        refine AW.bipush 49 (nI 48) dX10_isHeld_47 (by decide) rfl ?_
        refine AW.iload 51 dX10_isHeld_49 rfl rfl ?_
        refine AW.imulN 52 dX10_isHeld_51 rfl ?_
        refine AW.iload_n 53 dX10_isHeld_52 rfl rfl ?_
        refine AW.iaddN 54 dX10_isHeld_53 rfl ?_
        refine AW.iald 55 dX10_isHeld_54 (zA rfl rfl) rfl (by omega) (by decide) rfl ?_
        refine AW.aload_n 56 dX10_isHeld_55 rfl rfl ?_
        refine AW.getR 59 dX10_isHeld_56 fX10_87 rfl (zI rfl rfl) rfl rfl ?_
        refine AW.iload_n 60 dX10_isHeld_59 rfl rfl ?_
        refine AW.iald 61 dX10_isHeld_60 (zA rfl rfl) rfl (by omega) (by decide) rfl ?_
        refine AW.zicmp_ne 64 68 dX10_isHeld_61 (by decide) rfl rfl rfl (fun b61 => ?_) (fun b61 => ?_)
        · skip
          refine AW.iconst 69 (nI 0) dX10_isHeld_68 (by decide) rfl ?_
          refine AW.iaddN 70 dX10_isHeld_69 rfl ?_
          refine AW.istn3 71 dX10_isHeld_70 (by decide) rfl rfl ?_
          refine AW.iinc4 74 _ dX10_isHeld_71 (z_inc1 _) (by decide) rfl rfl ?_
          refine AW.goto 7 dX10_isHeld_74 (by decide) ?_
          refine ih' _ _ ?_ ?_
          · first | exact z_cnt_t (e1.mpr (by omega)) | exact z_cnt_f (fun z => by have := e1.mp z; omega)
          · first | exact z_cnt_t (e2.mpr ⟨by omega, b61⟩) | exact z_cnt_f (fun z => by have := e2.mp z; omega)
        · skip
          refine AW.iconst 65 (nI 1) dX10_isHeld_64 (by decide) rfl ?_
          refine AW.goto 69 dX10_isHeld_65 (by decide) ?_
          refine AW.iaddN 70 dX10_isHeld_69 rfl ?_
          refine AW.istn3 71 dX10_isHeld_70 (by decide) rfl rfl ?_
          refine AW.iinc4 74 _ dX10_isHeld_71 (z_inc1 _) (by decide) rfl rfl ?_
          refine AW.goto 7 dX10_isHeld_74 (by decide) ?_
          refine ih' _ _ ?_ ?_
          · first | exact z_cnt_t (e1.mpr (by omega)) | exact z_cnt_f (fun z => by have := e1.mp z; omega)
          · first | exact z_cnt_t (e2.mpr ⟨by omega, b61⟩) | exact z_cnt_f (fun z => by have := e2.mp z; omega)
    · skip
      refine AW.iconst 25 (nI 1) dX10_isHeld_24 (by decide) rfl ?_
      refine AW.goto 29 dX10_isHeld_25 (by decide) ?_
      refine AW.iaddN 30 dX10_isHeld_29 rfl ?_
      refine AW.istn2 31 dX10_isHeld_30 (by decide) rfl rfl ?_
      refine AW.iload_n 32 dX10_isHeld_31 rfl rfl ?_
      refine AW.iload_n 33 dX10_isHeld_32 rfl rfl ?_
      refine AW.aload_n 34 dX10_isHeld_33 rfl rfl ?_
      refine AW.getR 37 dX10_isHeld_34 fX10_90 rfl (zI rfl rfl) rfl rfl ?_
      refine AW.iload 39 dX10_isHeld_37 rfl rfl ?_
      refine AW.iald 40 dX10_isHeld_39 (zA rfl rfl) rfl (by omega) (by decide) rfl ?_
      refine AW.topi (nI (kc k)) k1 ?_
      refine AW.icmpN_ge 43 68 dX10_isHeld_40 (by decide) rfl (by omega) (by omega) (fun b40 => ?_) (fun b40 => ?_)
      · skip
        refine AW.iconst 69 (nI 0) dX10_isHeld_68 (by decide) rfl ?_
        refine AW.iaddN 70 dX10_isHeld_69 rfl ?_
        refine AW.istn3 71 dX10_isHeld_70 (by decide) rfl rfl ?_
        refine AW.iinc4 74 _ dX10_isHeld_71 (z_inc1 _) (by decide) rfl rfl ?_
        refine AW.goto 7 dX10_isHeld_74 (by decide) ?_
        refine ih' _ _ ?_ ?_
        · first | exact z_cnt_t (e1.mpr (by omega)) | exact z_cnt_f (fun z => by have := e1.mp z; omega)
        · first | exact z_cnt_t (e2.mpr ⟨by omega, b61⟩) | exact z_cnt_f (fun z => by have := e2.mp z; omega)
      · skip
        refine AW.aload_n 44 dX10_isHeld_43 rfl rfl ?_
        refine AW.getR 47 dX10_isHeld_44 fX10_93 rfl (zI rfl rfl) rfl rfl ?_
        refine AW.bipush 49 (nI 48) dX10_isHeld_47 (by decide) rfl ?_
        refine AW.iload 51 dX10_isHeld_49 rfl rfl ?_
        refine AW.imulN 52 dX10_isHeld_51 rfl ?_
        refine AW.iload_n 53 dX10_isHeld_52 rfl rfl ?_
        refine AW.iaddN 54 dX10_isHeld_53 rfl ?_
        refine AW.iald 55 dX10_isHeld_54 (zA rfl rfl) rfl (by omega) (by decide) rfl ?_
        refine AW.aload_n 56 dX10_isHeld_55 rfl rfl ?_
        refine AW.getR 59 dX10_isHeld_56 fX10_87 rfl (zI rfl rfl) rfl rfl ?_
        refine AW.iload_n 60 dX10_isHeld_59 rfl rfl ?_
        refine AW.iald 61 dX10_isHeld_60 (zA rfl rfl) rfl (by omega) (by decide) rfl ?_
        refine AW.zicmp_ne 64 68 dX10_isHeld_61 (by decide) rfl rfl rfl (fun b61 => ?_) (fun b61 => ?_)
        · skip
          refine AW.iconst 69 (nI 0) dX10_isHeld_68 (by decide) rfl ?_
          refine AW.iaddN 70 dX10_isHeld_69 rfl ?_
          refine AW.istn3 71 dX10_isHeld_70 (by decide) rfl rfl ?_
          refine AW.iinc4 74 _ dX10_isHeld_71 (z_inc1 _) (by decide) rfl rfl ?_
          refine AW.goto 7 dX10_isHeld_74 (by decide) ?_
          refine ih' _ _ ?_ ?_
          · first | exact z_cnt_t (e1.mpr (by omega)) | exact z_cnt_f (fun z => by have := e1.mp z; omega)
          · first | exact z_cnt_t (e2.mpr ⟨by omega, b61⟩) | exact z_cnt_f (fun z => by have := e2.mp z; omega)
        · skip
          refine AW.iconst 65 (nI 1) dX10_isHeld_64 (by decide) rfl ?_
          refine AW.goto 69 dX10_isHeld_65 (by decide) ?_
          refine AW.iaddN 70 dX10_isHeld_69 rfl ?_
          refine AW.istn3 71 dX10_isHeld_70 (by decide) rfl rfl ?_
          refine AW.iinc4 74 _ dX10_isHeld_71 (z_inc1 _) (by decide) rfl rfl ?_
          refine AW.goto 7 dX10_isHeld_74 (by decide) ?_
          refine ih' _ _ ?_ ?_
          · first | exact z_cnt_t (e1.mpr (by omega)) | exact z_cnt_f (fun z => by have := e1.mp z; omega)
          · first | exact z_cnt_t (e2.mpr ⟨by omega, b61⟩) | exact z_cnt_f (fun z => by have := e2.mp z; omega)
theorem C_X10_isHeld (hk : ∀ k, k < 3 → M 125 k = nI (kc k) ∧ kc k ≤ 48) {i : Nat} (hi : i < 48) {PW PS : Nat → Bool} (hW : ∀ k, k < 3 → (PW k = true ↔ 0 < kc k)) (hP : ∀ k, k < 3 → (PS k = true ↔ (i < kc k ∧ (M 126 (48 * k + i)).toInt = (M 124 i).toInt))) {Q : Int32 → zS → zM → Prop} (h1 : z_held (z_cnt PW 3) (z_cnt PS 3) = true → Q (nI 1) (ZS m0 m1 md) M) (h0 : ¬ z_held (z_cnt PW 3) (z_cnt PS 3) = true → Q (nI 0) (ZS m0 m1 md) M) : AMet l g yX10_isHeld cX10_isHeld 5 (some .boolean) d 0 0 [.ref 99, .int (nI i)] (ZS m0 m1 md) M (z_Qi Q) := by
  refine AMet.of (ini := false) rfl (fun h => by first | rfl | cases h) (Nat.le_of_ble_eq_true rfl) ?_
  show AW l g RX10 cX10_isHeld 5 (some .boolean) false _ _ _ 0 [some (.ref 99), some (.int (nI i)), none, none, none] [] _ _ _
  refine AW.iconst 1 (nI 0) dX10_isHeld_0 (by decide) rfl ?_
  refine AW.istn2 2 dX10_isHeld_1 (by decide) rfl rfl ?_
  refine AW.iconst 3 (nI 0) dX10_isHeld_2 (by decide) rfl ?_
  refine AW.istn3 4 dX10_isHeld_3 (by decide) rfl rfl ?_
  refine AW.iconst 5 (nI 0) dX10_isHeld_4 (by decide) rfl ?_
  refine AW.ist4 7 dX10_isHeld_5 (by decide) rfl rfl ?_
  exact L_X10_isHeld hk hi hW hP h1 h0 3 0 (by omega)
theorem L_X9_countHolders (hk : ∀ k, k < 3 → M (77 + 2 * k) 1 = nI (kc k) ∧ kc k ≤ 48) {PW : Nat → Bool} (hW : ∀ k, k < 3 → (PW k = true ↔ 0 < kc k)) {Q : Int32 → zS → zM → Prop} (hQ : Q (nI (z_cnt PW 3)) (ZS m0 m1 md) M) :
    ∀ (q k : Nat), k + q = 3 → AW l g RX9 cX9_countHolders 3 (some .int) false d 0 0 4 [some (.ref 0), some (.int (nI (z_cnt PW k))), some (.int (nI k))] [] (ZS m0 m1 md) M (z_Qi Q) := by
  intro q
  induction q with
  | zero =>
    intro k hq
    have hq : k = 3 := by omega
    subst hq
    refine AW.iload_n 5 dX9_countHolders_4 rfl rfl ?_
    refine AW.aload_n 6 dX9_countHolders_5 rfl rfl ?_
    refine AW.getR 9 dX9_countHolders_6 fX9_60 rfl (zI rfl rfl) rfl rfl ?_
    refine AW.alen 10 dX9_countHolders_9 (zA rfl rfl) (by decide) (by decide) rfl ?_
    refine AW.icmpN_ge 13 34 dX9_countHolders_10 (by decide) rfl (by omega) (by omega) (fun b10 => ?_) (fun b10 => absurd b10 (by omega))
    refine AW.iload_n 35 dX9_countHolders_34 rfl rfl ?_
    refine AW.iret dX9_countHolders_35 .int rfl rfl rfl ⟨_, rfl, ?_⟩
    exact hQ
  | succ q ih =>
    intro k hq
    obtain ⟨k1, k2⟩ := hk k (by omega)
    have e1 := hW k (by omega)
    have ih' : ∀ a : Nat, a = z_cnt PW (k + 1) → AW l g RX9 cX9_countHolders 3 (some .int) false d 0 0 4 [some (.ref 0), some (.int (nI a)), some (.int (nI (k + 1)))] [] (ZS m0 m1 md) M (z_Qi Q) := by
      intro a ea; subst ea; exact ih (k + 1) (by omega)
    refine AW.iload_n 5 dX9_countHolders_4 rfl rfl ?_
    refine AW.aload_n 6 dX9_countHolders_5 rfl rfl ?_
    refine AW.getR 9 dX9_countHolders_6 fX9_60 rfl (zI rfl rfl) rfl rfl ?_
    refine AW.alen 10 dX9_countHolders_9 (zA rfl rfl) (by decide) (by decide) rfl ?_
    refine AW.icmpN_ge 13 34 dX9_countHolders_10 (by decide) rfl (by omega) (by omega) (fun b10 => absurd b10 (by omega)) (fun b10 => ?_)
    refine AW.aload_n 14 dX9_countHolders_13 rfl rfl ?_
    refine AW.getR 17 dX9_countHolders_14 fX9_60 rfl (zI rfl rfl) rfl rfl ?_
    refine AW.iload_n 18 dX9_countHolders_17 rfl rfl ?_
    refine AW.aald 19 dX9_countHolders_18 (zA rfl rfl) (by decide) rfl (by omega) (by decide) (zKp_r (by omega)) rfl ?_
    refine AW.getI 22 dX9_countHolders_19 fX9_225 rfl (zKp_is (by omega)) rfl ?_
    refine AW.topi (nI (kc k)) k1 ?_
    refine AW.ifN_le 25 28 dX9_countHolders_22 (by decide) rfl (by omega) (fun b22 => ?_) (fun b22 => ?_)
    · skip
      refine AW.iinc2 31 _ dX9_countHolders_28 (z_inc1 _) (by decide) rfl rfl ?_
      refine AW.goto 4 dX9_countHolders_31 (by decide) ?_
      refine ih' _ ?_
      first | exact z_cnt_t (e1.mpr (by omega)) | exact z_cnt_f (fun z => by have := e1.mp z; omega)
    · skip
      refine AW.iinc1 28 _ dX9_countHolders_25 (z_inc1 _) (by decide) rfl rfl ?_
      refine AW.iinc2 31 _ dX9_countHolders_28 (z_inc1 _) (by decide) rfl rfl ?_
      refine AW.goto 4 dX9_countHolders_31 (by decide) ?_
      refine ih' _ ?_
      first | exact z_cnt_t (e1.mpr (by omega)) | exact z_cnt_f (fun z => by have := e1.mp z; omega)
theorem C_X9_countHolders (hk : ∀ k, k < 3 → M (77 + 2 * k) 1 = nI (kc k) ∧ kc k ≤ 48) {PW : Nat → Bool} (hW : ∀ k, k < 3 → (PW k = true ↔ 0 < kc k)) {Q : Int32 → zS → zM → Prop} (hQ : Q (nI (z_cnt PW 3)) (ZS m0 m1 md) M) : AMet l g yX9_countHolders cX9_countHolders 3 (some .int) d 0 0 [.ref 0] (ZS m0 m1 md) M (z_Qi Q) := by
  refine AMet.of (ini := false) rfl (fun h => by first | rfl | cases h) (Nat.le_of_ble_eq_true rfl) ?_
  show AW l g RX9 cX9_countHolders 3 (some .int) false _ _ _ 0 [some (.ref 0), none, none] [] _ _ _
  refine AW.iconst 1 (nI 0) dX9_countHolders_0 (by decide) rfl ?_
  refine AW.istn1 2 dX9_countHolders_1 (by decide) rfl rfl ?_
  refine AW.iconst 3 (nI 0) dX9_countHolders_2 (by decide) rfl ?_
  refine AW.istn2 4 dX9_countHolders_3 (by decide) rfl rfl ?_
  exact L_X9_countHolders hk hW hQ 3 0 (by omega)
theorem L_X9_isHeld (hk : ∀ k, k < 3 → M (77 + 2 * k) 1 = nI (kc k) ∧ kc k ≤ 48) {i w : Nat} (hi : i < 48) (hw : w ≤ 3) {PS : Nat → Bool} (hP : ∀ k, k < 3 → (PS k = true ↔ (i < kc k ∧ (M (78 + 2 * k) i).toInt = (M 75 i).toInt))) {Q : Int32 → zS → zM → Prop} (h1 : (if w = 1 then 1 else 2) ≤ z_cnt PS 3 → Q (nI 1) (ZS m0 m1 md) M) (h0 : ¬ (if w = 1 then 1 else 2) ≤ z_cnt PS 3 → Q (nI 0) (ZS m0 m1 md) M) :
    ∀ (q k : Nat), k + q = 3 → AW l g RX9 cX9_isHeld 5 (some .boolean) false d 0 0 5 [some (.ref 0), some (.int (nI i)), some (.int (nI w)), some (.int (nI (z_cnt PS k))), some (.int (nI k))] [] (ZS m0 m1 md) M (z_Qi Q) := by
  intro q
  induction q with
  | zero =>
    intro k hq
    have hq : k = 3 := by omega
    subst hq
    have c2 := z_cnt_le PS 3
    refine AW.iload 7 dX9_isHeld_5 rfl rfl ?_
    refine AW.aload_n 8 dX9_isHeld_7 rfl rfl ?_
    refine AW.getR 11 dX9_isHeld_8 fX9_60 rfl (zI rfl rfl) rfl rfl ?_
    refine AW.alen 12 dX9_isHeld_11 (zA rfl rfl) (by decide) (by decide) rfl ?_
    refine AW.icmpN_ge 15 64 dX9_isHeld_12 (by decide) rfl (by omega) (by omega) (fun b12 => ?_) (fun b12 => absurd b12 (by omega))
    refine AW.iload_n 65 dX9_isHeld_64 rfl rfl ?_
    refine AW.iload_n 66 dX9_isHeld_65 rfl rfl ?_
    refine AW.iconst 67 (nI 1) dX9_isHeld_66 (by decide) rfl ?_
    refine AW.icmpN_ne 70 74 dX9_isHeld_67 (by decide) rfl (by omega) (by omega) (fun b67 => ?_) (fun b67 => ?_)
    · skip
      refine AW.iconst 75 (nI 2) dX9_isHeld_74 (by decide) rfl ?_
      refine AW.icmpN_lt 78 82 dX9_isHeld_75 (by decide) rfl (by omega) (by omega) (fun b75 => ?_) (fun b75 => ?_)
      · skip
        refine AW.iconst 83 (nI 0) dX9_isHeld_82 (by decide) rfl ?_
        refine AW.iret dX9_isHeld_83 .boolean rfl rfl rfl ⟨_, rfl, ?_⟩
        first | exact h1 (by split <;> omega) | exact h0 (by split <;> omega)
      · skip
        refine AW.iconst 79 (nI 1) dX9_isHeld_78 (by decide) rfl ?_
        refine AW.goto 83 dX9_isHeld_79 (by decide) ?_
        refine AW.iret dX9_isHeld_83 .boolean rfl rfl rfl ⟨_, rfl, ?_⟩
        first | exact h1 (by split <;> omega) | exact h0 (by split <;> omega)
    · skip
      refine AW.iconst 71 (nI 1) dX9_isHeld_70 (by decide) rfl ?_
      refine AW.goto 75 dX9_isHeld_71 (by decide) ?_
      refine AW.icmpN_lt 78 82 dX9_isHeld_75 (by decide) rfl (by omega) (by omega) (fun b75 => ?_) (fun b75 => ?_)
      · skip
        refine AW.iconst 83 (nI 0) dX9_isHeld_82 (by decide) rfl ?_
        refine AW.iret dX9_isHeld_83 .boolean rfl rfl rfl ⟨_, rfl, ?_⟩
        first | exact h1 (by split <;> omega) | exact h0 (by split <;> omega)
      · skip
        refine AW.iconst 79 (nI 1) dX9_isHeld_78 (by decide) rfl ?_
        refine AW.goto 83 dX9_isHeld_79 (by decide) ?_
        refine AW.iret dX9_isHeld_83 .boolean rfl rfl rfl ⟨_, rfl, ?_⟩
        first | exact h1 (by split <;> omega) | exact h0 (by split <;> omega)
  | succ q ih =>
    intro k hq
    obtain ⟨k1, k2⟩ := hk k (by omega)
    have e2 := hP k (by omega)
    have ih' : ∀ a : Nat, a = z_cnt PS (k + 1) → AW l g RX9 cX9_isHeld 5 (some .boolean) false d 0 0 5 [some (.ref 0), some (.int (nI i)), some (.int (nI w)), some (.int (nI a)), some (.int (nI (k + 1)))] [] (ZS m0 m1 md) M (z_Qi Q) := by
      intro a ea; subst ea; exact ih (k + 1) (by omega)
    refine AW.iload 7 dX9_isHeld_5 rfl rfl ?_
    refine AW.aload_n 8 dX9_isHeld_7 rfl rfl ?_
    refine AW.getR 11 dX9_isHeld_8 fX9_60 rfl (zI rfl rfl) rfl rfl ?_
    refine AW.alen 12 dX9_isHeld_11 (zA rfl rfl) (by decide) (by decide) rfl ?_
    refine AW.icmpN_ge 15 64 dX9_isHeld_12 (by decide) rfl (by omega) (by omega) (fun b12 => absurd b12 (by omega)) (fun b12 => ?_)
    refine AW.iload_n 16 dX9_isHeld_15 rfl rfl ?_
    refine AW.aload_n 17 dX9_isHeld_16 rfl rfl ?_
    refine AW.getR 20 dX9_isHeld_17 fX9_60 rfl (zI rfl rfl) rfl rfl ?_
    refine AW.iload 22 dX9_isHeld_20 rfl rfl ?_
    refine AW.aald 23 dX9_isHeld_22 (zA rfl rfl) (by decide) rfl (by omega) (by decide) (zKp_r (by omega)) rfl ?_
    refine AW.getI 26 dX9_isHeld_23 fX9_225 rfl (zKp_is (by omega)) rfl ?_
    refine AW.topi (nI (kc k)) k1 ?_
    refine AW.icmpN_ge 29 58 dX9_isHeld_26 (by decide) rfl (by omega) (by omega) (fun b26 => ?_) (fun b26 => ?_)
    · skip
      refine AW.iinc4 61 _ dX9_isHeld_58 (z_inc1 _) (by decide) rfl rfl ?_
      refine AW.goto 5 dX9_isHeld_61 (by decide) ?_
      refine ih' _ ?_
      first | exact z_cnt_t (e2.mpr ⟨by omega, b52⟩) | exact z_cnt_f (fun z => by have := e2.mp z; omega)
    · skip
      refine AW.aload_n 30 dX9_isHeld_29 rfl rfl ?_
      refine AW.getR 33 dX9_isHeld_30 fX9_60 rfl (zI rfl rfl) rfl rfl ?_
      refine AW.iload 35 dX9_isHeld_33 rfl rfl ?_
      refine AW.aald 36 dX9_isHeld_35 (zA rfl rfl) (by decide) rfl (by omega) (by decide) (zKp_r (by omega)) rfl ?_
      refine AW.getR 39 dX9_isHeld_36 fX9_226 rfl (zKp_is (by omega)) (zKp_r0 (by omega)) rfl ?_
      refine AW.iload_n 40 dX9_isHeld_39 rfl rfl ?_
      refine AW.iald 41 dX9_isHeld_40 (zKp_a (by omega)) rfl (by omega) (by decide) rfl ?_
      refine AW.aload_n 42 dX9_isHeld_41 rfl rfl ?_
      refine AW.getR 45 dX9_isHeld_42 fX9_53 rfl (zI rfl rfl) rfl rfl ?_
      refine AW.getR 48 dX9_isHeld_45 fX9_198 rfl (zI rfl rfl) rfl rfl ?_
      refine AW.iconst 49 (nI 3) dX9_isHeld_48 (by decide) rfl ?_
      refine AW.aald 50 dX9_isHeld_49 (zA rfl rfl) (by decide) rfl (by omega) (by decide) rfl rfl ?_
      refine AW.iload_n 51 dX9_isHeld_50 rfl rfl ?_
      refine AW.iald 52 dX9_isHeld_51 (zA rfl rfl) rfl (by omega) (by decide) rfl ?_
      refine AW.zicmp_ne 55 58 dX9_isHeld_52 (by decide) rfl rfl rfl (fun b52 => ?_) (fun b52 => ?_)
      · skip
        refine AW.iinc4 61 _ dX9_isHeld_58 (z_inc1 _) (by decide) rfl rfl ?_
        refine AW.goto 5 dX9_isHeld_61 (by decide) ?_
        refine ih' _ ?_
        first | exact z_cnt_t (e2.mpr ⟨by omega, b52⟩) | exact z_cnt_f (fun z => by have := e2.mp z; omega)
      · skip
        refine AW.iinc3 58 _ dX9_isHeld_55 (z_inc1 _) (by decide) rfl rfl ?_
        refine AW.iinc4 61 _ dX9_isHeld_58 (z_inc1 _) (by decide) rfl rfl ?_
        refine AW.goto 5 dX9_isHeld_61 (by decide) ?_
        refine ih' _ ?_
        first | exact z_cnt_t (e2.mpr ⟨by omega, b52⟩) | exact z_cnt_f (fun z => by have := e2.mp z; omega)
theorem C_X9_isHeld (hk : ∀ k, k < 3 → M (77 + 2 * k) 1 = nI (kc k) ∧ kc k ≤ 48) {i w : Nat} (hi : i < 48) (hw : w ≤ 3) {PS : Nat → Bool} (hP : ∀ k, k < 3 → (PS k = true ↔ (i < kc k ∧ (M (78 + 2 * k) i).toInt = (M 75 i).toInt))) {Q : Int32 → zS → zM → Prop} (h1 : (if w = 1 then 1 else 2) ≤ z_cnt PS 3 → Q (nI 1) (ZS m0 m1 md) M) (h0 : ¬ (if w = 1 then 1 else 2) ≤ z_cnt PS 3 → Q (nI 0) (ZS m0 m1 md) M) : AMet l g yX9_isHeld cX9_isHeld 5 (some .boolean) d 0 0 [.ref 0, .int (nI i), .int (nI w)] (ZS m0 m1 md) M (z_Qi Q) := by
  refine AMet.of (ini := false) rfl (fun h => by first | rfl | cases h) (Nat.le_of_ble_eq_true rfl) ?_
  show AW l g RX9 cX9_isHeld 5 (some .boolean) false _ _ _ 0 [some (.ref 0), some (.int (nI i)), some (.int (nI w)), none, none] [] _ _ _
  refine AW.iconst 1 (nI 0) dX9_isHeld_0 (by decide) rfl ?_
  refine AW.istn3 2 dX9_isHeld_1 (by decide) rfl rfl ?_
  refine AW.iconst 3 (nI 0) dX9_isHeld_2 (by decide) rfl ?_
  refine AW.ist4 5 dX9_isHeld_3 (by decide) rfl rfl ?_
  exact L_X9_isHeld hk hi hw hP h1 h0 3 0 (by omega)
end BOOK
