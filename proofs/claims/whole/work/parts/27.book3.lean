def z_tr (f : Nat → Int32) (a L : Nat) : Nat → Int32 := va_cpy f f (a + 1) a (L - a - 1)
section BOOK3
variable {l : Launch} {g : zG} {d m0 m1 md : Nat} {M : zM} {L : Nat} {kc : Nat → Nat}
theorem L_X10_tear (hL : M 99 25 = nI L) (hL2 : L ≤ 48) {a : Nat} (ha : a < L) {Q : Option Value → zS → zM → Prop} (hQ : ∀ M', (∀ c, c ≠ 121 → c ≠ 122 → c ≠ 123 → M' c = M c) → M' 121 = z_tr (M 121) a L → M' 122 = z_tr (M 122) a L → M' 123 = z_tr (M 123) a L → AW l g RX10 cX10_tear 3 (some .int) false (d + 1) 0 0 36 [some (.ref 99), some (.int (nI a)), some (.int (nI (a + (L - a - 1))))] [] (ZS m0 m1 md) M' Q) :
    ∀ (q k : Nat), k + q = L - a - 1 → ∀ M' : zM, (∀ c, c ≠ 121 → c ≠ 122 → c ≠ 123 → M' c = M c) → M' 121 = va_cpy (M 121) (M 121) (a + 1) a k → M' 122 = va_cpy (M 122) (M 122) (a + 1) a k → M' 123 = va_cpy (M 123) (M 123) (a + 1) a k → AW l g RX10 cX10_tear 3 (some .int) false (d + 1) 0 0 12 [some (.ref 99), some (.int (nI a)), some (.int (nI (a + k)))] [] (ZS m0 m1 md) M' Q := by
  intro q
  induction q with
  | zero =>
    intro k hk M' h1 h2 h3 h4
    have hk : k = L - a - 1 := by omega
    subst hk
    have q0 : M' 99 25 = nI L := by rw [h1 99 (by decide) (by decide) (by decide)]; exact hL
    refine AW.iload_n 13 dX10_tear_12 rfl rfl ?_
    refine AW.iconst 14 (nI 1) dX10_tear_13 (by decide) rfl ?_
    refine AW.iaddN 15 dX10_tear_14 rfl ?_
    refine AW.aload_n 16 dX10_tear_15 rfl rfl ?_
    refine AW.getI 19 dX10_tear_16 fX10_209 rfl (zI rfl rfl) rfl ?_
    refine AW.topi (nI L) q0 ?_
    refine AW.icmpN_ge 22 36 dX10_tear_19 (by decide) rfl (by omega) (by omega) (fun b19 => ?_) (fun b19 => absurd b19 (by omega))
    exact hQ M' h1 h2 h3 h4
  | succ q ih =>
    intro k hk M' h1 h2 h3 h4
    have q0 : M' 99 25 = nI L := by rw [h1 99 (by decide) (by decide) (by decide)]; exact hL
    have e := ih (k + 1) (by omega)
    have cp : ∀ f : Nat → Int32, upd (va_cpy f f (a + 1) a k) (a + k) (va_cpy f f (a + 1) a k (a + k + 1)) = va_cpy f f (a + 1) a (k + 1) := fun f => by
      rw [pk_cpy_out (Or.inr (by omega)), show a + k + 1 = a + 1 + k by omega]
      exact z_cpy_s f f (a + 1) a k (a + k) rfl
    rw [show a + (k + 1) = a + k + 1 by omega] at e
    refine AW.iload_n 13 dX10_tear_12 rfl rfl ?_
    refine AW.iconst 14 (nI 1) dX10_tear_13 (by decide) rfl ?_
    refine AW.iaddN 15 dX10_tear_14 rfl ?_
    refine AW.aload_n 16 dX10_tear_15 rfl rfl ?_
    refine AW.getI 19 dX10_tear_16 fX10_209 rfl (zI rfl rfl) rfl ?_
    refine AW.topi (nI L) q0 ?_
    refine AW.icmpN_ge 22 36 dX10_tear_19 (by decide) rfl (by omega) (by omega) (fun b19 => absurd b19 (by omega)) (fun b19 => ?_)
    refine AW.aload_n 23 dX10_tear_22 rfl rfl ?_
    refine AW.iload_n 24 dX10_tear_23 rfl rfl ?_
    refine AW.iconst 25 (nI 1) dX10_tear_24 (by decide) rfl ?_
    refine AW.iaddN 26 dX10_tear_25 rfl ?_
    refine AW.iload_n 27 dX10_tear_26 rfl rfl ?_
    refine AW.cVv2 30 dX10_tear_27 kX10_239 (zI rfl rfl) (Nat.le_of_ble_eq_true rfl) rfl (C_X10_moves (by omega) (by omega) ?_)
    refine AW.iinc2 33 _ dX10_tear_30 (z_inc1 _) (by decide) rfl rfl ?_
    refine AW.goto 12 dX10_tear_33 (by decide) ?_
    refine e _ (fun c c1 c2 c3 => ?_) ?_ ?_ ?_
    · rw [z_st_ne c3, z_st_ne c2, z_st_ne c1]; exact h1 c c1 c2 c3
    · rw [z_st_ne (by decide), z_st_ne (by decide), z_st_at, h2]; exact cp _
    · rw [z_st_ne (by decide), z_st_at, z_st_ne (by decide), h3]; exact cp _
    · rw [z_st_at, z_st_ne (by decide), z_st_ne (by decide), h4]; exact cp _
theorem C_X10_tear (hL : M 99 25 = nI L) (hL2 : L ≤ 48) {i : Int32} {Q : Int32 → zS → zM → Prop} (hbad : ¬ (0 ≤ i.toInt ∧ i.toInt < L) → Q (-1) (ZS m0 m1 md) M) (hok : ∀ a, a < L → i = nI a → ∀ M', (∀ c, c ≠ 99 → c ≠ 121 → c ≠ 122 → c ≠ 123 → M' c = M c) → M' 99 = upd (M 99) 25 (nI (L - 1)) → M' 121 = z_tr (M 121) a L → M' 122 = z_tr (M 122) a L → M' 123 = z_tr (M 123) a L → Q (nI (L - 1)) (ZS m0 m1 md) M') : AMet l g yX10_tear cX10_tear 3 (some .int) (d + 2) 0 0 [.ref 99, .int i] (ZS m0 m1 md) M (z_Qi Q) := by
  refine AMet.of (ini := false) rfl (fun h => by first | rfl | cases h) (Nat.le_of_ble_eq_true rfl) ?_
  show AW l g RX10 cX10_tear 3 (some .int) false _ _ _ 0 [some (.ref 99), some (.int i), none] [] _ _ _
  refine AW.aload_n 1 dX10_tear_0 rfl rfl ?_
  refine AW.iload_n 2 dX10_tear_1 rfl rfl ?_
  refine AW.cVi1 5 dX10_tear_2 kX10_224 (zI rfl rfl) (Nat.le_of_ble_eq_true rfl) rfl (C_X10_isLine hL hL2 (fun b2 => ?_) (fun b2 => ?_))
  · skip
    obtain ⟨a, ha, rfl, ha2⟩ := z_nI (v := i) (n := 47) (by omega) (by omega)
    refine AW.if_ne 8 10 dX10_tear_5 (by decide) rfl (fun _ => ?_) (fun h => absurd h (by decide))
    refine AW.iload_n 11 dX10_tear_10 rfl rfl ?_
    refine AW.istn2 12 dX10_tear_11 (by decide) rfl rfl ?_
    refine L_X10_tear hL hL2 (a := a) (by omega) (fun M1 h1 h2 h3 h4 => ?_) (L - a - 1) 0 (by omega) M (fun _ _ _ _ => rfl) (z_cpy_0 _ _ _ _).symm (z_cpy_0 _ _ _ _).symm (z_cpy_0 _ _ _ _).symm
    have q0 : M1 99 25 = nI L := by rw [h1 99 (by decide) (by decide) (by decide)]; exact hL
    refine AW.aload_n 37 dX10_tear_36 rfl rfl ?_
    refine AW.dup 38 dX10_tear_37 rfl rfl ?_
    refine AW.getI 41 dX10_tear_38 fX10_209 rfl (zI rfl rfl) rfl ?_
    refine AW.topi (nI L) q0 ?_
    refine AW.iconst 42 (nI 1) dX10_tear_41 (by decide) rfl ?_
    refine AW.isubN 43 dX10_tear_42 (by omega) rfl ?_
    refine AW.putI 46 .int dX10_tear_43 pX10_209 rfl (zI rfl rfl) rfl rfl rfl ?_
    refine AW.aload_n 47 dX10_tear_46 rfl rfl ?_
    refine AW.getI 50 dX10_tear_47 fX10_209 rfl (zI rfl rfl) rfl ?_
    refine AW.topi (nI (L - 1)) (by rw [z_st_at]; rfl) ?_
    refine AW.iret dX10_tear_50 .int rfl rfl rfl ⟨_, rfl, ?_⟩
    refine hok a (by omega) rfl _ (fun c c0 c1 c2 c3 => ?_) ?_ ?_ ?_ ?_
    · rw [z_st_ne c0]; exact h1 c c1 c2 c3
    · rw [z_st_at, h1 99 (by decide) (by decide) (by decide)]
    · rw [z_st_ne (by decide)]; exact h2
    · rw [z_st_ne (by decide)]; exact h3
    · rw [z_st_ne (by decide)]; exact h4
  · skip
    refine AW.if_ne 8 10 dX10_tear_5 (by decide) rfl (fun h => absurd h (by decide)) (fun _ => ?_)
    refine AW.iconst 9 (-1) dX10_tear_8 (by decide) rfl ?_
    refine AW.iret dX10_tear_9 .int rfl rfl rfl ⟨_, rfl, ?_⟩
    exact hbad (by omega)
theorem L_X0_takeOut (hL : M 70 1 = nI L) (hL2 : L ≤ 48) {a : Nat} (ha : a < L) {Q : zS → zM → Prop} (hQ : ∀ M', (∀ c, c ≠ 70 → c ≠ 72 → c ≠ 73 → c ≠ 74 → M' c = M c) → M' 70 = upd (M 70) 1 (nI (L - 1)) → M' 72 = z_tr (M 72) a L → M' 73 = z_tr (M 73) a L → M' 74 = z_tr (M 74) a L → Q (ZS m0 m1 md) M') :
    ∀ (q k : Nat), k + q = 3 → ∀ M' : zM, (∀ c, (c < 72 ∨ 72 + k ≤ c) → M' c = M c) → (∀ c, c < k → M' (72 + c) = z_tr (M (72 + c)) a L) → AW l g RX0 cX0_takeOut 3 none false (d + 1) 0 0 2 [some (.ref 70), some (.int (nI a)), some (.int (nI k))] [] (ZS m0 m1 md) M' (z_Qv Q) := by
  intro q
  induction q with
  | zero =>
    intro k hk M' h1 h2
    have hk : k = 3 := by omega
    subst hk
    have q0 : M' 70 1 = nI L := by rw [h1 70 (by omega)]; exact hL
    refine AW.iload_n 3 dX0_takeOut_2 rfl rfl ?_
    refine AW.iconst 4 (nI 2) dX0_takeOut_3 (by decide) rfl ?_
    refine AW.icmp_gt 7 40 dX0_takeOut_4 (by decide) rfl (fun _ => ?_) (fun h => absurd h (by decide))
    refine AW.aload_n 41 dX0_takeOut_40 rfl rfl ?_
    refine AW.dup 42 dX0_takeOut_41 rfl rfl ?_
    refine AW.getI 45 dX0_takeOut_42 fX0_16 rfl (zI rfl rfl) rfl ?_
    refine AW.topi (nI L) q0 ?_
    refine AW.iconst 46 (nI 1) dX0_takeOut_45 (by decide) rfl ?_
    refine AW.isubN 47 dX0_takeOut_46 (by omega) rfl ?_
    refine AW.putI 50 .int dX0_takeOut_47 pX0_16 rfl (zI rfl rfl) rfl rfl rfl ?_
    refine AW.vret dX0_takeOut_50 rfl rfl ⟨rfl, ?_⟩
    refine hQ _ (fun c c0 c1 c2 c3 => ?_) ?_ ?_ ?_ ?_
    · rw [z_st_ne c0]; exact h1 c (by omega)
    · rw [z_st_at, h1 70 (by omega)]
    · rw [z_st_ne (by decide)]; exact h2 0 (by omega)
    · rw [z_st_ne (by decide)]; exact h2 1 (by omega)
    · rw [z_st_ne (by decide)]; exact h2 2 (by omega)
  | succ q ih =>
    intro k hk M' h1 h2
    have q0 : M' 70 1 = nI L := by rw [h1 70 (by omega)]; exact hL
    have e := ih (k + 1) (by omega)
    refine AW.iload_n 3 dX0_takeOut_2 rfl rfl ?_
    refine AW.iconst 4 (nI 2) dX0_takeOut_3 (by decide) rfl ?_
    refine AW.icmpN_gt 7 40 dX0_takeOut_4 (by decide) rfl (by omega) (by omega) (fun b4 => absurd b4 (by omega)) (fun b4 => ?_)
    refine AW.aload_n 8 dX0_takeOut_7 rfl rfl ?_
    refine AW.getR 11 dX0_takeOut_8 fX0_11 rfl (zI rfl rfl) rfl rfl ?_
    refine AW.iload_n 12 dX0_takeOut_11 rfl rfl ?_
    refine AW.aald 13 dX0_takeOut_12 (zA rfl rfl) (by decide) rfl (by omega) (by decide) (zBk_r (by omega)) rfl ?_
    refine AW.iload_n 14 dX0_takeOut_13 rfl rfl ?_
    refine AW.iconst 15 (nI 1) dX0_takeOut_14 (by decide) rfl ?_
    refine AW.iaddN 16 dX0_takeOut_15 rfl ?_
    refine AW.aload_n 17 dX0_takeOut_16 rfl rfl ?_
    refine AW.getR 20 dX0_takeOut_17 fX0_11 rfl (zI rfl rfl) rfl rfl ?_
    refine AW.iload_n 21 dX0_takeOut_20 rfl rfl ?_
    refine AW.aald 22 dX0_takeOut_21 (zA rfl rfl) (by decide) rfl (by omega) (by decide) (zBk_r (by omega)) rfl ?_
    refine AW.iload_n 23 dX0_takeOut_22 rfl rfl ?_
    refine AW.aload_n 24 dX0_takeOut_23 rfl rfl ?_
    refine AW.getI 27 dX0_takeOut_24 fX0_16 rfl (zI rfl rfl) rfl ?_
    refine AW.topi (nI L) q0 ?_
    refine AW.iload_n 28 dX0_takeOut_27 rfl rfl ?_
    refine AW.isubN 29 dX0_takeOut_28 (by omega) rfl ?_
    refine AW.iconst 30 (nI 1) dX0_takeOut_29 (by decide) rfl ?_
    refine AW.isubN 31 dX0_takeOut_30 (by omega) rfl ?_
    refine AW.copy 34 dX0_takeOut_31 qX0_24 (zBk_a (by omega)) (zBk_a (by omega)) rfl rfl rfl (by omega) (by omega) (by decide) (by decide) (Nat.le_of_ble_eq_true rfl) rfl ?_
    refine AW.iinc2 37 _ dX0_takeOut_34 (z_inc1 _) (by decide) rfl rfl ?_
    refine AW.goto 2 dX0_takeOut_37 (by decide) ?_
    refine e _ (fun c hc => ?_) (fun c hc => ?_)
    · rw [z_row_ne _ (by omega)]; exact h1 c (by omega)
    · rcases Nat.lt_or_ge c k with h | h
      · rw [z_row_ne _ (by omega)]; exact h2 c h
      · have : c = k := by omega
        subst this
        rw [z_row_at, h1 (72 + c) (by omega)]; rfl
theorem C_X0_takeOut (hL : M 70 1 = nI L) (hL2 : L ≤ 48) {a : Nat} (ha : a < L) {Q : zS → zM → Prop} (hQ : ∀ M', (∀ c, c ≠ 70 → c ≠ 72 → c ≠ 73 → c ≠ 74 → M' c = M c) → M' 70 = upd (M 70) 1 (nI (L - 1)) → M' 72 = z_tr (M 72) a L → M' 73 = z_tr (M 73) a L → M' 74 = z_tr (M 74) a L → Q (ZS m0 m1 md) M') : AMet l g yX0_takeOut cX0_takeOut 3 none (d + 1) 0 0 [.ref 70, .int (nI a)] (ZS m0 m1 md) M (z_Qv Q) := by
  refine AMet.of (ini := false) rfl (fun h => by first | rfl | cases h) (Nat.le_of_ble_eq_true rfl) ?_
  show AW l g RX0 cX0_takeOut 3 none false _ _ _ 0 [some (.ref 70), some (.int (nI a)), none] [] _ _ _
  refine AW.iconst 1 (nI 0) dX0_takeOut_0 (by decide) rfl ?_
  refine AW.istn2 2 dX0_takeOut_1 (by decide) rfl rfl ?_
  exact L_X0_takeOut hL hL2 ha hQ 3 0 (by omega) M (fun _ _ => rfl) (fun c hc => absurd hc (by omega))
theorem C_X9_tear (hL : M 70 1 = nI L) (hL2 : L ≤ 48) {i : Int32} {Q : Int32 → zS → zM → Prop} (hbad : ¬ (0 ≤ i.toInt ∧ i.toInt < L) → Q (-1) (ZS m0 m1 md) M) (hok : ∀ a, a < L → i = nI a → ∀ M', (∀ c, c ≠ 70 → c ≠ 72 → c ≠ 73 → c ≠ 74 → c ≠ 75 → M' c = M c) → M' 70 = upd (M 70) 1 (nI (L - 1)) → M' 72 = z_tr (M 72) a L → M' 73 = z_tr (M 73) a L → M' 74 = z_tr (M 74) a L → (∀ i, i < L - 1 → M' 75 i = z_sealF (M' 72) (M' 73) (M' 74) (i + 1)) → Q (nI (L - 1)) (ZS m0 m1 md) M') : AMet l g yX9_tear cX9_tear 2 (some .int) (d + 2) 0 0 [.ref 0, .int i] (ZS m0 m1 md) M (z_Qi Q) := by
  refine AMet.of (ini := false) rfl (fun h => by first | rfl | cases h) (Nat.le_of_ble_eq_true rfl) ?_
  show AW l g RX9 cX9_tear 2 (some .int) false _ _ _ 0 [some (.ref 0), some (.int i)] [] _ _ _
  refine AW.aload_n 1 dX9_tear_0 rfl rfl ?_
  refine AW.iload_n 2 dX9_tear_1 rfl rfl ?_
  refine AW.cVi1 5 dX9_tear_2 kX9_195 (zI rfl rfl) (Nat.le_of_ble_eq_true rfl) rfl (C_X9_noLine hL hL2 (fun b2 => ?_) (fun b2 => ?_))
  · skip
    refine AW.if_eq 8 10 dX9_tear_5 (by decide) rfl (fun h => absurd h (by decide)) (fun _ => ?_)
    refine AW.iconst 9 (-1) dX9_tear_8 (by decide) rfl ?_
    refine AW.iret dX9_tear_9 .int rfl rfl rfl ⟨_, rfl, ?_⟩
    exact hbad (by omega)
  · skip
    obtain ⟨a, ha, rfl, ha2⟩ := z_nI (v := i) (n := 47) (by omega) (by omega)
    refine AW.if_eq 8 10 dX9_tear_5 (by decide) rfl (fun _ => ?_) (fun h => absurd h (by decide))
    refine AW.aload_n 11 dX9_tear_10 rfl rfl ?_
    refine AW.getR 14 dX9_tear_11 fX9_53 rfl (zI rfl rfl) rfl rfl ?_
    refine AW.iload_n 15 dX9_tear_14 rfl rfl ?_
    refine AW.cVv1 18 dX9_tear_15 kX9_215 (zI rfl rfl) (Nat.le_of_ble_eq_true rfl) rfl (C_X0_takeOut hL hL2 (by omega) (fun M1 h1 h0 h2 h3 h4 => ?_))
    refine AW.aload_n 19 dX9_tear_18 rfl rfl ?_
    refine AW.getR 22 dX9_tear_19 fX9_53 rfl (zI rfl rfl) rfl rfl ?_
    refine AW.cVv0 25 dX9_tear_22 kX9_192 (zI rfl rfl) (Nat.le_of_ble_eq_true rfl) rfl (C_X0_sealAll (L := L - 1) (by rw [h0]; rfl) (by omega) (fun M2 k1 k2 => ?_))
    refine AW.aload_n 26 dX9_tear_25 rfl rfl ?_
    refine AW.getR 29 dX9_tear_26 fX9_53 rfl (zI rfl rfl) rfl rfl ?_
    refine AW.getI 32 dX9_tear_29 fX9_173 rfl (zI rfl rfl) rfl ?_
    refine AW.topi (nI (L - 1)) (by rw [k1 70 (by decide), h0]; rfl) ?_
    refine AW.iret dX9_tear_32 .int rfl rfl rfl ⟨_, rfl, ?_⟩
    refine hok a (by omega) rfl M2 (fun c c0 c1 c2 c3 c4 => by rw [k1 c c4, h1 c c0 c1 c2 c3]) (by rw [k1 70 (by decide)]; exact h0) (by rw [k1 72 (by decide)]; exact h2) (by rw [k1 73 (by decide)]; exact h3) (by rw [k1 74 (by decide)]; exact h4) (fun i hi => ?_)
    rw [k1 72 (by decide), k1 73 (by decide), k1 74 (by decide)]; exact k2 i hi
theorem L_X10_give (hL : M 99 25 = nI L) (hL2 : L ≤ 48) {k : Nat} (hk : k < 3) {Q : Int32 → zS → zM → Prop} (hQ : Q (nI L) (ZS m0 m1 md) (z_st (z_row M 126 (va_cpy (M 124) (M 126) 0 (48 * k) L)) 125 k (nI L))) :
    ∀ (q i : Nat), i + q = L → AW l g RX10 cX10_give 3 (some .int) false d 0 0 20 [some (.ref 99), some (.int (nI k)), some (.int (nI i))] [] (ZS m0 m1 md) (z_row M 126 (va_cpy (M 124) (M 126) 0 (48 * k) i)) (z_Qi Q) := by
  intro q
  induction q with
  | zero =>
    intro i hi
    have hi : i = L := by omega
    subst hi
    refine AW.iload_n 21 dX10_give_20 rfl rfl ?_
    refine AW.aload_n 22 dX10_give_21 rfl rfl ?_
    refine AW.getI 25 dX10_give_22 fX10_209 rfl (zI rfl rfl) rfl ?_
    refine AW.topi (nI i) hL ?_
    refine AW.icmpN_ge 28 51 dX10_give_25 (by decide) rfl (by omega) (by omega) (fun b25 => ?_) (fun b25 => absurd b25 (by omega))
    refine AW.aload_n 52 dX10_give_51 rfl rfl ?_
    refine AW.getR 55 dX10_give_52 fX10_90 rfl (zI rfl rfl) rfl rfl ?_
    refine AW.iload_n 56 dX10_give_55 rfl rfl ?_
    refine AW.aload_n 57 dX10_give_56 rfl rfl ?_
    refine AW.getI 60 dX10_give_57 fX10_209 rfl (zI rfl rfl) rfl ?_
    refine AW.topi (nI i) hL ?_
    refine AW.iast 61 dX10_give_60 (zA rfl rfl) rfl (by omega) (by decide) rfl ?_
    refine AW.aload_n 62 dX10_give_61 rfl rfl ?_
    refine AW.getI 65 dX10_give_62 fX10_209 rfl (zI rfl rfl) rfl ?_
    refine AW.topi (nI i) hL ?_
    refine AW.iret dX10_give_65 .int rfl rfl rfl ⟨_, rfl, ?_⟩
    exact hQ
  | succ q ih =>
    intro i hi
    refine AW.iload_n 21 dX10_give_20 rfl rfl ?_
    refine AW.aload_n 22 dX10_give_21 rfl rfl ?_
    refine AW.getI 25 dX10_give_22 fX10_209 rfl (zI rfl rfl) rfl ?_
    refine AW.topi (nI L) hL ?_
    refine AW.icmpN_ge 28 51 dX10_give_25 (by decide) rfl (by omega) (by omega) (fun b25 => absurd b25 (by omega)) (fun b25 => ?_)
    refine AW.aload_n 29 dX10_give_28 rfl rfl ?_
    refine AW.getR 32 dX10_give_29 fX10_93 rfl (zI rfl rfl) rfl rfl ?_
    refine AW.bipush 34 (nI 48) dX10_give_32 (by decide) rfl ?_
    refine AW.iload_n 35 dX10_give_34 rfl rfl ?_
    refine AW.imulN 36 dX10_give_35 rfl ?_
    refine AW.iload_n 37 dX10_give_36 rfl rfl ?_
    refine AW.iaddN 38 dX10_give_37 rfl ?_
    refine AW.aload_n 39 dX10_give_38 rfl rfl ?_
    refine AW.getR 42 dX10_give_39 fX10_87 rfl (zI rfl rfl) rfl rfl ?_
    refine AW.iload_n 43 dX10_give_42 rfl rfl ?_
    refine AW.iald 44 dX10_give_43 (zA rfl rfl) rfl (by omega) (by decide) rfl ?_
    rw [z_row_ne _ (by decide : (124 : Nat) ≠ 126)]
    refine AW.iast 45 dX10_give_44 (zA rfl rfl) rfl (by omega) (by decide) rfl ?_
    rw [z_st_row, z_cpy_s0 (M 124) (M 126) (48 * k) i]
    refine AW.iinc2 48 _ dX10_give_45 (z_inc1 _) (by decide) rfl rfl ?_
    refine AW.goto 20 dX10_give_48 (by decide) ?_
    exact ih (i + 1) (by omega)
theorem C_X10_give (hL : M 99 25 = nI L) (hL2 : L ≤ 48) {s : Int32} {Q : Int32 → zS → zM → Prop} (hbad : ¬ (0 ≤ s.toInt ∧ s.toInt ≤ 2) → Q (-1) (ZS m0 m1 md) M) (hok : ∀ k, k < 3 → s = nI k → ∀ M', (∀ c, c ≠ 124 → c ≠ 125 → c ≠ 126 → M' c = M c) → M' 125 = upd (M 125) k (nI L) → (∀ i, i < L → M' 126 (48 * k + i) = z_sealF (M 121) (M 122) (M 123) (i + 1)) → (∀ j, (j < 48 * k ∨ 48 * k + L ≤ j) → M' 126 j = M 126 j) → Q (nI L) (ZS m0 m1 md) M') : AMet l g yX10_give cX10_give 3 (some .int) (d + 1) 0 0 [.ref 99, .int s] (ZS m0 m1 md) M (z_Qi Q) := by
  refine AMet.of (ini := false) rfl (fun h => by first | rfl | cases h) (Nat.le_of_ble_eq_true rfl) ?_
  show AW l g RX10 cX10_give 3 (some .int) false _ _ _ 0 [some (.ref 99), some (.int s), none] [] _ _ _
  refine AW.iload_n 1 dX10_give_0 rfl rfl ?_
  refine AW.i2l 2 dX10_give_1 rfl ?_
  refine AW.lconst 3 (lN 0) dX10_give_2 rfl rfl ?_
  refine AW.ldc2 6 (lN 2) dX10_give_3 qX10_180 rfl ?_
  refine AW.cSi3 9 dX10_give_6 kX10_131 (Nat.le_of_ble_eq_true rfl) rfl (C_in (Int32.toInt_toInt64 _) (z_lN (by decide)) (z_lN (by decide)) (fun b6 => ?_) (fun b6 => ?_))
  · skip
    obtain ⟨k, hk, rfl, hk2⟩ := z_nI (v := s) (n := 2) (by omega) (by omega)
    refine AW.if_ne 12 14 dX10_give_9 (by decide) rfl (fun _ => ?_) (fun h => absurd h (by decide))
    refine AW.aload_n 15 dX10_give_14 rfl rfl ?_
    refine AW.cVv0 18 dX10_give_15 kX10_229 (zI rfl rfl) (Nat.le_of_ble_eq_true rfl) rfl (C_X10_seal hL hL2 (fun M1 h1 h2 => ?_))
    refine AW.iconst 19 (nI 0) dX10_give_18 (by decide) rfl ?_
    refine AW.istn2 20 dX10_give_19 (by decide) rfl rfl ?_
    have q0 : M1 99 25 = nI L := by rw [h1 99 (by decide)]; exact hL
    have LL := L_X10_give (l := l) (g := g) (d := d + 1) (m0 := m0) (m1 := m1) (md := md) (M := M1) q0 hL2 (k := k) (Q := Q) (by omega) (hok k (by omega) rfl _ (fun c c1 c2 c3 => by rw [z_st_ne c2, z_row_ne _ c3]; exact h1 c c1) (by rw [z_st_at, z_row_ne _ (by decide : (125 : Nat) ≠ 126), h1 125 (by decide)]) (fun i hi => by rw [z_st_ne (by decide : (126 : Nat) ≠ 125), z_row_at, pk_cpy_in (by omega) (by omega), show 0 + (48 * k + i - 48 * k) = i by omega]; exact h2 i hi) (fun j hj => by rw [z_st_ne (by decide : (126 : Nat) ≠ 125), z_row_at, pk_cpy_out hj, h1 126 (by decide)])) L 0 (by omega)
    rw [z_cpy_0, z_row_self] at LL
    exact LL
  · skip
    refine AW.if_ne 12 14 dX10_give_9 (by decide) rfl (fun h => absurd h (by decide)) (fun _ => ?_)
    refine AW.iconst 13 (-1) dX10_give_12 (by decide) rfl ?_
    refine AW.iret dX10_give_13 .int rfl rfl rfl ⟨_, rfl, ?_⟩
    exact hbad (by omega)
theorem C_X1_hold (hL : M 70 1 = nI L) (hL2 : L ≤ 48) {k : Nat} (hk : k < 3) {Q : zS → zM → Prop} (hQ : Q (ZS m0 m1 md) (z_row (z_st M (77 + 2 * k) 1 (nI L)) (78 + 2 * k) (va_cpy (M 75) (M (78 + 2 * k)) 0 0 L))) : AMet l g yX1_hold cX1_hold 2 none (d + 1) 0 0 [.ref (77 + 2 * k), .ref 70] (ZS m0 m1 md) M (z_Qv Q) := by
  refine AMet.of (ini := false) rfl (fun h => by first | rfl | cases h) (Nat.le_of_ble_eq_true rfl) ?_
  show AW l g RX1 cX1_hold 2 none false _ _ _ 0 [some (.ref (77 + 2 * k)), some (.ref 70)] [] _ _ _
  refine AW.aload_n 1 dX1_hold_0 rfl rfl ?_
  refine AW.aload_n 2 dX1_hold_1 rfl rfl ?_
  refine AW.getI 5 dX1_hold_2 fX1_19 rfl (zI rfl rfl) rfl ?_
  refine AW.topi (nI L) hL ?_
  refine AW.putI 8 .int dX1_hold_5 pX1_15 rfl (zKp_is hk) rfl rfl rfl ?_
  refine AW.aload_n 9 dX1_hold_8 rfl rfl ?_
  refine AW.getR 12 dX1_hold_9 fX1_22 rfl (zI rfl rfl) rfl rfl ?_
  refine AW.iconst 13 (nI 3) dX1_hold_12 (by decide) rfl ?_
  refine AW.aald 14 dX1_hold_13 (zA rfl rfl) (by decide) rfl (by omega) (by decide) rfl rfl ?_
  refine AW.iconst 15 (nI 0) dX1_hold_14 (by decide) rfl ?_
  refine AW.aload_n 16 dX1_hold_15 rfl rfl ?_
  refine AW.getR 19 dX1_hold_16 fX1_9 rfl (zKp_is hk) (zKp_r0 hk) rfl ?_
  refine AW.iconst 20 (nI 0) dX1_hold_19 (by decide) rfl ?_
  refine AW.aload_n 21 dX1_hold_20 rfl rfl ?_
  refine AW.getI 24 dX1_hold_21 fX1_15 rfl (zKp_is hk) rfl ?_
  refine AW.topi (nI L) (by rw [z_st_at]; rfl) ?_
  refine AW.copy 27 dX1_hold_24 qX1_26 (zA rfl rfl) (zKp_a hk) rfl rfl rfl (by omega) (by omega) (by decide) (by decide) (Nat.le_of_ble_eq_true rfl) rfl ?_
  refine AW.vret dX1_hold_27 rfl rfl ⟨rfl, ?_⟩
  rw [z_st_ne (by omega), z_st_ne (by omega)]; exact hQ
theorem C_X9_give (hL : M 70 1 = nI L) (hL2 : L ≤ 48) {s : Int32} {Q : Int32 → zS → zM → Prop} (hbad : ¬ (0 ≤ s.toInt ∧ s.toInt ≤ 2) → Q (-1) (ZS m0 m1 md) M) (hok : ∀ k, k < 3 → s = nI k → Q (nI L) (ZS m0 m1 md) (z_row (z_st M (77 + 2 * k) 1 (nI L)) (78 + 2 * k) (va_cpy (M 75) (M (78 + 2 * k)) 0 0 L))) : AMet l g yX9_give cX9_give 2 (some .int) (d + 2) 0 0 [.ref 0, .int s] (ZS m0 m1 md) M (z_Qi Q) := by
  refine AMet.of (ini := false) rfl (fun h => by first | rfl | cases h) (Nat.le_of_ble_eq_true rfl) ?_
  show AW l g RX9 cX9_give 2 (some .int) false _ _ _ 0 [some (.ref 0), some (.int s)] [] _ _ _
  refine AW.aload_n 1 dX9_give_0 rfl rfl ?_
  refine AW.iload_n 2 dX9_give_1 rfl rfl ?_
  refine AW.cVi1 5 dX9_give_2 kX9_218 (zI rfl rfl) (Nat.le_of_ble_eq_true rfl) rfl (C_X9_noKeeper (fun b2 => ?_) (fun b2 => ?_))
  · skip
    refine AW.if_eq 8 10 dX9_give_5 (by decide) rfl (fun h => absurd h (by decide)) (fun _ => ?_)
    refine AW.iconst 9 (-1) dX9_give_8 (by decide) rfl ?_
    refine AW.iret dX9_give_9 .int rfl rfl rfl ⟨_, rfl, ?_⟩
    exact hbad (by omega)
  · skip
    obtain ⟨k, hk, rfl, hk2⟩ := z_nI (v := s) (n := 2) (by omega) (by omega)
    refine AW.if_eq 8 10 dX9_give_5 (by decide) rfl (fun _ => ?_) (fun h => absurd h (by decide))
    refine AW.aload_n 11 dX9_give_10 rfl rfl ?_
    refine AW.getR 14 dX9_give_11 fX9_60 rfl (zI rfl rfl) rfl rfl ?_
    refine AW.iload_n 15 dX9_give_14 rfl rfl ?_
    refine AW.aald 16 dX9_give_15 (zA rfl rfl) (by decide) rfl (by omega) (by decide) (zKp_r (by omega)) rfl ?_
    refine AW.aload_n 17 dX9_give_16 rfl rfl ?_
    refine AW.getR 20 dX9_give_17 fX9_53 rfl (zI rfl rfl) rfl rfl ?_
    refine AW.cVv1 23 dX9_give_20 kX9_221 (zKp_is (by omega)) (Nat.le_of_ble_eq_true rfl) rfl (C_X1_hold hL hL2 (by omega) ?_)
    refine AW.aload_n 24 dX9_give_23 rfl rfl ?_
    refine AW.getR 27 dX9_give_24 fX9_53 rfl (zI rfl rfl) rfl rfl ?_
    refine AW.getI 30 dX9_give_27 fX9_173 rfl (zI rfl rfl) rfl ?_
    refine AW.topi (nI L) (by rw [z_row_ne _ (by omega), z_st_ne (by omega)]; exact hL) ?_
    refine AW.iret dX9_give_30 .int rfl rfl rfl ⟨_, rfl, ?_⟩
    exact hok k (by omega) rfl
def g_kept (M : zM) (k i : Int32) : Int32 := if ¬ (0 ≤ k.toInt ∧ k.toInt ≤ 2) then -1 else if ¬ (0 ≤ i.toInt ∧ i.toInt ≤ 47) then -1 else if i.toInt < (M 125 k.toNatClampNeg).toInt then M 126 (48 * k.toNatClampNeg + i.toNatClampNeg) else -4
def f_kept (M : zM) (k i : Int32) : Int32 := if ¬ (0 ≤ k.toInt ∧ k.toInt ≤ 2) then -1 else if ¬ (0 ≤ i.toInt ∧ i.toInt ≤ 47) then -1 else if i.toInt < (M (77 + 2 * k.toNatClampNeg) 1).toInt then M (78 + 2 * k.toNatClampNeg) i.toNatClampNeg else -4
theorem C_X10_kept {k i : Int32} {Q : Int32 → zS → zM → Prop} (hQ : Q (g_kept M k i) (ZS m0 m1 md) M) : AMet l g yX10_kept cX10_kept 3 (some .int) (d + 1) 0 0 [.ref 99, .int k, .int i] (ZS m0 m1 md) M (z_Qi Q) := by
  unfold g_kept at hQ
  refine AMet.of (ini := false) rfl (fun h => by first | rfl | cases h) (Nat.le_of_ble_eq_true rfl) ?_
  show AW l g RX10 cX10_kept 3 (some .int) false _ _ _ 0 [some (.ref 99), some (.int k), some (.int i)] [] _ _ _
  refine AW.iload_n 1 dX10_kept_0 rfl rfl ?_
  refine AW.i2l 2 dX10_kept_1 rfl ?_
  refine AW.lconst 3 (lN 0) dX10_kept_2 rfl rfl ?_
  refine AW.ldc2 6 (lN 2) dX10_kept_3 qX10_180 rfl ?_
  refine AW.cSi3 9 dX10_kept_6 kX10_131 (Nat.le_of_ble_eq_true rfl) rfl (C_in (Int32.toInt_toInt64 _) (z_lN (by decide)) (z_lN (by decide)) (fun b6 => ?_) (fun b6 => ?_))
  · skip
    obtain ⟨a, ha, rfl, ha2⟩ := z_nI (v := k) (n := 2) (by omega) (by omega)
    rw [nI_clamp (n := a) (by omega)] at hQ
    refine AW.if_eq 12 24 dX10_kept_9 (by decide) rfl (fun h => absurd h (by decide)) (fun _ => ?_)
    refine AW.iload_n 13 dX10_kept_12 rfl rfl ?_
    refine AW.i2l 14 dX10_kept_13 rfl ?_
    refine AW.lconst 15 (lN 0) dX10_kept_14 rfl rfl ?_
    refine AW.ldc2 18 (lN 47) dX10_kept_15 qX10_242 rfl ?_
    refine AW.cSi3 21 dX10_kept_18 kX10_131 (Nat.le_of_ble_eq_true rfl) rfl (C_in (Int32.toInt_toInt64 _) (z_lN (by decide)) (z_lN (by decide)) (fun b18 => ?_) (fun b18 => ?_))
    · skip
      obtain ⟨b, hb, rfl, hb2⟩ := z_nI (v := i) (n := 47) (by omega) (by omega)
      rw [nI_clamp (n := b) (by omega)] at hQ
      refine AW.if_ne 24 26 dX10_kept_21 (by decide) rfl (fun _ => ?_) (fun h => absurd h (by decide))
      refine AW.iload_n 27 dX10_kept_26 rfl rfl ?_
      refine AW.aload_n 28 dX10_kept_27 rfl rfl ?_
      refine AW.getR 31 dX10_kept_28 fX10_90 rfl (zI rfl rfl) rfl rfl ?_
      refine AW.iload_n 32 dX10_kept_31 rfl rfl ?_
      refine AW.iald 33 dX10_kept_32 (zA rfl rfl) rfl (by omega) (by decide) rfl ?_
      refine AW.zicmp_ge 36 50 dX10_kept_33 (by decide) rfl (z_ti (by omega)) rfl (fun b33 => ?_) (fun b33 => ?_)
      · skip
        refine AW.bipush 52 (-4) dX10_kept_50 (by decide) rfl ?_
        refine AW.iret dX10_kept_52 .int rfl rfl rfl ⟨_, rfl, ?_⟩
        (repeat' split at hQ) <;> first | exact hQ | (exfalso; omega)
      · skip
        refine AW.aload_n 37 dX10_kept_36 rfl rfl ?_
        refine AW.getR 40 dX10_kept_37 fX10_93 rfl (zI rfl rfl) rfl rfl ?_
        refine AW.bipush 42 (nI 48) dX10_kept_40 (by decide) rfl ?_
        refine AW.iload_n 43 dX10_kept_42 rfl rfl ?_
        refine AW.imulN 44 dX10_kept_43 rfl ?_
        refine AW.iload_n 45 dX10_kept_44 rfl rfl ?_
        refine AW.iaddN 46 dX10_kept_45 rfl ?_
        refine AW.iald 47 dX10_kept_46 (zA rfl rfl) rfl (by omega) (by decide) rfl ?_
        refine AW.goto 52 dX10_kept_47 (by decide) ?_
        refine AW.iret dX10_kept_52 .int rfl rfl rfl ⟨_, rfl, ?_⟩
        (repeat' split at hQ) <;> first | exact hQ | (exfalso; omega)
    · skip
      refine AW.if_ne 24 26 dX10_kept_21 (by decide) rfl (fun h => absurd h (by decide)) (fun _ => ?_)
      refine AW.iconst 25 (-1) dX10_kept_24 (by decide) rfl ?_
      refine AW.iret dX10_kept_25 .int rfl rfl rfl ⟨_, rfl, ?_⟩
      (repeat' split at hQ) <;> first | exact hQ | (exfalso; omega)
  · skip
    refine AW.if_eq 12 24 dX10_kept_9 (by decide) rfl (fun _ => ?_) (fun h => absurd h (by decide))
    refine AW.iconst 25 (-1) dX10_kept_24 (by decide) rfl ?_
    refine AW.iret dX10_kept_25 .int rfl rfl rfl ⟨_, rfl, ?_⟩
    (repeat' split at hQ) <;> first | exact hQ | (exfalso; omega)
theorem C_X9_kept {k i : Int32} {Q : Int32 → zS → zM → Prop} (hQ : Q (f_kept M k i) (ZS m0 m1 md) M) : AMet l g yX9_kept cX9_kept 3 (some .int) (d + 2) 0 0 [.ref 0, .int k, .int i] (ZS m0 m1 md) M (z_Qi Q) := by
  unfold f_kept at hQ
  refine AMet.of (ini := false) rfl (fun h => by first | rfl | cases h) (Nat.le_of_ble_eq_true rfl) ?_
  show AW l g RX9 cX9_kept 3 (some .int) false _ _ _ 0 [some (.ref 0), some (.int k), some (.int i)] [] _ _ _
  refine AW.aload_n 1 dX9_kept_0 rfl rfl ?_
  refine AW.iload_n 2 dX9_kept_1 rfl rfl ?_
  refine AW.cVi1 5 dX9_kept_2 kX9_218 (zI rfl rfl) (Nat.le_of_ble_eq_true rfl) rfl (C_X9_noKeeper (fun b2 => ?_) (fun b2 => ?_))
  · skip
    refine AW.if_ne 8 17 dX9_kept_5 (by decide) rfl (fun _ => ?_) (fun h => absurd h (by decide))
    refine AW.iconst 18 (-1) dX9_kept_17 (by decide) rfl ?_
    refine AW.iret dX9_kept_18 .int rfl rfl rfl ⟨_, rfl, ?_⟩
    (repeat' split at hQ) <;> first | exact hQ | (exfalso; omega)
  · skip
    obtain ⟨a, ha, rfl, ha2⟩ := z_nI (v := k) (n := 2) (by omega) (by omega)
    rw [nI_clamp (n := a) (by omega)] at hQ
    refine AW.if_ne 8 17 dX9_kept_5 (by decide) rfl (fun h => absurd h (by decide)) (fun _ => ?_)
    refine AW.iload_n 9 dX9_kept_8 rfl rfl ?_
    refine AW.bipush 11 (nI 47) dX9_kept_9 (by decide) rfl ?_
    refine AW.cSi2 14 dX9_kept_11 kX9_120 (Nat.le_of_ble_eq_true rfl) rfl (C_beyond rfl (by decide : (nI 47).toInt = 47) (fun b11 => ?_) (fun b11 => ?_))
    · skip
      refine AW.if_eq 17 19 dX9_kept_14 (by decide) rfl (fun h => absurd h (by decide)) (fun _ => ?_)
      refine AW.iconst 18 (-1) dX9_kept_17 (by decide) rfl ?_
      refine AW.iret dX9_kept_18 .int rfl rfl rfl ⟨_, rfl, ?_⟩
      (repeat' split at hQ) <;> first | exact hQ | (exfalso; omega)
    · skip
      obtain ⟨b, hb, rfl, hb2⟩ := z_nI (v := i) (n := 47) (by omega) (by omega)
      rw [nI_clamp (n := b) (by omega)] at hQ
      refine AW.if_eq 17 19 dX9_kept_14 (by decide) rfl (fun _ => ?_) (fun h => absurd h (by decide))
      refine AW.iload_n 20 dX9_kept_19 rfl rfl ?_
      refine AW.aload_n 21 dX9_kept_20 rfl rfl ?_
      refine AW.getR 24 dX9_kept_21 fX9_60 rfl (zI rfl rfl) rfl rfl ?_
      refine AW.iload_n 25 dX9_kept_24 rfl rfl ?_
      refine AW.aald 26 dX9_kept_25 (zA rfl rfl) (by decide) rfl (by omega) (by decide) (zKp_r (by omega)) rfl ?_
      refine AW.getI 29 dX9_kept_26 fX9_225 rfl (zKp_is (by omega)) rfl ?_
      refine AW.zicmp_ge 32 46 dX9_kept_29 (by decide) rfl (z_ti (by omega)) rfl (fun b29 => ?_) (fun b29 => ?_)
      · skip
        refine AW.bipush 48 (-4) dX9_kept_46 (by decide) rfl ?_
        refine AW.iret dX9_kept_48 .int rfl rfl rfl ⟨_, rfl, ?_⟩
        (repeat' split at hQ) <;> first | exact hQ | (exfalso; omega)
      · skip
        refine AW.aload_n 33 dX9_kept_32 rfl rfl ?_
        refine AW.getR 36 dX9_kept_33 fX9_60 rfl (zI rfl rfl) rfl rfl ?_
        refine AW.iload_n 37 dX9_kept_36 rfl rfl ?_
        refine AW.aald 38 dX9_kept_37 (zA rfl rfl) (by decide) rfl (by omega) (by decide) (zKp_r (by omega)) rfl ?_
        refine AW.getR 41 dX9_kept_38 fX9_226 rfl (zKp_is (by omega)) (zKp_r0 (by omega)) rfl ?_
        refine AW.iload_n 42 dX9_kept_41 rfl rfl ?_
        refine AW.iald 43 dX9_kept_42 (zKp_a (by omega)) rfl (by omega) (by decide) rfl ?_
        refine AW.goto 48 dX9_kept_43 (by decide) ?_
        refine AW.iret dX9_kept_48 .int rfl rfl rfl ⟨_, rfl, ?_⟩
        (repeat' split at hQ) <;> first | exact hQ | (exfalso; omega)
end BOOK3
