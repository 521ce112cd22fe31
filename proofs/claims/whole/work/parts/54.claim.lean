/-- what a word's bits say -/
def pw_b (w : Int32) (x : Nat) : Bool := w.toBitVec.getLsbD x
def pR (f : Nat → Int32) (B : pB) : Prop := ∀ i, i < 16 → ∀ x, x < 32 → pw_b (f i) x = B i x
theorem pw_b_or (a b : Int32) (x : Nat) : pw_b (a ||| b) x = (pw_b a x || pw_b b x) := by unfold pw_b; rw [Int32.toBitVec_or, BitVec.getLsbD_or]
theorem pw_b_and (a b : Int32) (x : Nat) : pw_b (a &&& b) x = (pw_b a x && pw_b b x) := by unfold pw_b; rw [Int32.toBitVec_and, BitVec.getLsbD_and]
theorem pw_b_xor (a b : Int32) (x : Nat) : pw_b (a ^^^ b) x = (pw_b a x ^^ pw_b b x) := by unfold pw_b; rw [Int32.toBitVec_xor, BitVec.getLsbD_xor]
theorem pw_b_m1 {x : Nat} (h : x < 32) : pw_b (-1) x = true := by
  have : ∀ x, x < 32 → pw_b (-1) x = true := by decide +kernel
  exact this x h
theorem pw_b_0 {x : Nat} (h : x < 32) : pw_b (nI 0) x = false := by
  have : ∀ x, x < 32 → pw_b (nI 0) x = false := by decide +kernel
  exact this x h
theorem pw_b_fe {d x : Nat} (hd : d < 4) (h : x < 32) : pw_b (z_sv 3 d) x = x.testBit (d + 1) := by
  have : ∀ d, d < 4 → ∀ x, x < 32 → pw_b (z_sv 3 d) x = x.testBit (d + 1) := by decide +kernel
  exact this d hd x h
theorem pw_b_lot {x : Nat} (h : x < 32) : pw_b (-1431655766) x = x.testBit 0 := by
  have : ∀ x, x < 32 → pw_b (-1431655766) x = x.testBit 0 := by decide +kernel
  exact this x h
theorem z_d4 {i : Nat} (h : i < 16) : nI i / nI 4 = nI (i / 4) ∧ nI i - nI i / nI 4 * nI 4 = nI (i % 4) := by
  have : ∀ i, i < 16 → nI i / nI 4 = nI (i / 4) ∧ nI i - nI i / nI 4 * nI 4 = nI (i % 4) := by decide +kernel
  exact this i h
theorem pR_fill {M : zM} {v : Int32} {B : pB} (h : ∀ i, i < 16 → ∀ x, x < 32 → pw_b v x = B i x) : pR (z_row M 18 (z_fill (M 18) 16 v) 18) B := by
  intro i hi x hx
  rw [z_row_at]
  unfold z_fill
  rw [if_pos hi]; exact h i hi x hx
/-- which cells a claim, a case, a test at depth o may change -/
def f_frC (o : Nat) (M M' : zM) : Prop := (∀ c, c ≠ 3 → c ≠ 18 → ¬ (5 + o < c ∧ c ≤ 10) → ¬ (12 + o < c ∧ c ≤ 17) → M' c = M c) ∧ ∀ j, j ≠ 5 → j ≠ 6 → M' 3 j = M 3 j
def f_frK (o : Nat) (M M' : zM) : Prop := (∀ c, c ≠ 3 → c ≠ 18 → ¬ (5 + o < c ∧ c ≤ 10) → ¬ (12 + o ≤ c ∧ c ≤ 17) → M' c = M c) ∧ ∀ j, j ≠ 5 → j ≠ 6 → M' 3 j = M 3 j
def f_frT (o : Nat) (M M' : zM) : Prop := (∀ c, c ≠ 3 → c ≠ 18 → ¬ (5 + o ≤ c ∧ c ≤ 10) → ¬ (12 + o ≤ c ∧ c ≤ 17) → M' c = M c) ∧ ∀ j, j ≠ 5 → j ≠ 6 → M' 3 j = M 3 j
theorem f_fr.C {o : Nat} {M M' M2 : zM} (h : f_fr M M') (h2 : ∀ c, c ≠ 18 → M2 c = M' c) : f_frC o M M2 := ⟨fun c a b _ _ => by rw [h2 c b]; exact h.1 c a, fun j a b => by rw [h2 3 (by decide)]; exact h.2 j a b⟩
/-- contracts of the three, over what they say -/
def f_KT (l : Launch) (g : zG) (m0 m1 md n : Nat) (tp : Nat → Nat) (du : Bool) (D o : Nat) (T : pS → pS × pB) : Prop := ∀ (M : zM) (s : pS) (Q : zS → zM → Prop), f_tp M n tp → f_rd M s → s.2 ≤ n → M 3 4 = z_bI du →
  (∀ M', f_frT o M M' → f_rd M' (T s).1 → ((T s).1.1 = false → pR (M' (5 + o)) (T s).2) → Q (ZS m0 m1 md) M') → AMet l g yX4_readTest cX4_readTest 5 none D 0 0 [.ref 3, .int (nI o)] (ZS m0 m1 md) M (z_Qv Q)
def f_KK (l : Launch) (g : zG) (m0 m1 md n : Nat) (tp : Nat → Nat) (du : Bool) (D o : Nat) (T : pS → pS × pB) : Prop := ∀ (M : zM) (s : pS) (Q : zS → zM → Prop), f_tp M n tp → f_rd M s → s.2 ≤ n → M 3 4 = z_bI du →
  (∀ M', f_frK o M M' → f_rd M' (T s).1 → ((T s).1.1 = false → pR (M' (12 + o)) (T s).2) → Q (ZS m0 m1 md) M') → AMet l g yX4_readCase cX4_readCase 5 none D 0 0 [.ref 3, .int (nI o)] (ZS m0 m1 md) M (z_Qv Q)
def f_KC (l : Launch) (g : zG) (m0 m1 md n : Nat) (tp : Nat → Nat) (du : Bool) (D o : Nat) (T : pS → pS × pB) : Prop := ∀ (M : zM) (s : pS) (Q : zS → zM → Prop), f_tp M n tp → f_rd M s → s.2 ≤ n → M 3 4 = z_bI du →
  (∀ M', f_frC o M M' → f_rd M' (T s).1 → ((T s).1.1 = false → pR (M' 18) (T s).2) → Q (ZS m0 m1 md) M') → AMet l g yX4_readClaim cX4_readClaim 4 none D 0 0 [.ref 3, .int (nI o)] (ZS m0 m1 md) M (z_Qv Q)
section CLAIM
variable {l : Launch} {g : zG} {d m0 m1 md : Nat} {M : zM} {n : Nat} {tp : Nat → Nat} {s : pS} {du : Bool}
theorem L_X4_claimWords0 {dg : Nat} (hd : dg < 4) {Q : zS → zM → Prop} (hQ : ∀ M', (∀ c, c ≠ 18 → M' c = M c) → pR (M' 18) (fun i _ => decide (i % 4 = dg)) → Q (ZS m0 m1 md) M') :
    ∀ (q i : Nat), i + q = 16 → ∀ M', (∀ c, c ≠ 18 → M' c = M c) → (∀ j, j < i → M' 18 j = if j % 4 = dg then -1 else nI 0) → AW l g RX4 cX4_claimWords 4 none false d 0 0 2 [some (.ref 3), some (.int (nI dg)), some (.int (nI 0)), some (.int (nI i))] [] (ZS m0 m1 md) M' (z_Qv Q) := by
  intro q
  induction q with
  | zero =>
    intro i hi M' f h
    have hi : i = 16 := by omega
    subst hi
    refine AW.iload_n 3 dX4_claimWords_2 rfl rfl ?_
    refine AW.aload_n 4 dX4_claimWords_3 rfl rfl ?_
    refine AW.getR 7 dX4_claimWords_4 fX4_19 rfl (zI rfl rfl) rfl rfl ?_
    refine AW.alen 8 dX4_claimWords_7 (zA rfl rfl) (by decide) (by decide) rfl ?_
    refine AW.icmpN_ge 11 45 dX4_claimWords_8 (by decide) rfl (by omega) (by omega) (fun b8 => ?_) (fun b8 => absurd b8 (by omega))
    refine AW.vret dX4_claimWords_45 rfl rfl ⟨rfl, ?_⟩
    refine hQ M' f (fun i hi x hx => ?_)
    rw [h i hi]
    by_cases e : i % 4 = dg
    · rw [if_pos e, pw_b_m1 hx]; exact (decide_eq_true e).symm
    · rw [if_neg e, pw_b_0 hx]; exact (decide_eq_false e).symm
  | succ q ih =>
    intro i hi M' f h
    have d4 := z_d4 (i := i) (by omega)
    have fin : ∀ v : Int32, v = (if i % 4 = dg then -1 else nI 0) → AW l g RX4 cX4_claimWords 4 none false d 0 0 2 [some (.ref 3), some (.int (nI dg)), some (.int (nI 0)), some (.int (nI (i + 1)))] [] (ZS m0 m1 md) (z_st M' 18 i v) (z_Qv Q) := fun v hv => by
      refine ih (i + 1) (by omega) _ (fun c hc => by rw [z_st_ne hc]; exact f c hc) (fun j hj => ?_)
      rw [z_st_at]
      by_cases e : j = i
      · subst e; rw [z_upd_at]; exact hv
      · rw [z_upd_ne e]; exact h j (by omega)
    refine AW.iload_n 3 dX4_claimWords_2 rfl rfl ?_
    refine AW.aload_n 4 dX4_claimWords_3 rfl rfl ?_
    refine AW.getR 7 dX4_claimWords_4 fX4_19 rfl (zI rfl rfl) rfl rfl ?_
    refine AW.alen 8 dX4_claimWords_7 (zA rfl rfl) (by decide) (by decide) rfl ?_
    refine AW.icmpN_ge 11 45 dX4_claimWords_8 (by decide) rfl (by omega) (by omega) (fun b8 => absurd b8 (by omega)) (fun b8 => ?_)
    refine AW.aload_n 12 dX4_claimWords_11 rfl rfl ?_
    refine AW.getR 15 dX4_claimWords_12 fX4_19 rfl (zI rfl rfl) rfl rfl ?_
    refine AW.iload_n 16 dX4_claimWords_15 rfl rfl ?_
    refine AW.iload_n 17 dX4_claimWords_16 rfl rfl ?_
    refine AW.if_eq 20 26 dX4_claimWords_17 (by decide) rfl (fun _ => ?_) (fun h => absurd h (by decide))
    refine AW.iload_n 27 dX4_claimWords_26 rfl rfl ?_
    refine AW.iconst 28 (nI 4) dX4_claimWords_27 (by decide) rfl ?_
    refine AW.irem 29 dX4_claimWords_28 (by decide) rfl ?_
    refine AW.topi (nI (i % 4)) d4.2 ?_
    refine AW.iload_n 30 dX4_claimWords_29 rfl rfl ?_
    refine AW.icmpN_ne 33 37 dX4_claimWords_30 (by decide) rfl (by omega) (by omega) (fun b30 => ?_) (fun b30 => ?_)
    · skip
      refine AW.iconst 38 (nI 0) dX4_claimWords_37 (by decide) rfl ?_
      refine AW.iast 39 dX4_claimWords_38 (zA rfl rfl) rfl (by omega) (by decide) rfl ?_
      refine AW.iinc3 42 _ dX4_claimWords_39 (z_inc1 _) (by decide) rfl rfl ?_
      refine AW.goto 2 dX4_claimWords_42 (by decide) ?_
      exact fin _ (by first | exact (if_pos (by omega)).symm | exact (if_neg (by omega)).symm)
    · skip
      refine AW.iconst 34 (-1) dX4_claimWords_33 (by decide) rfl ?_
      refine AW.goto 38 dX4_claimWords_34 (by decide) ?_
      refine AW.iast 39 dX4_claimWords_38 (zA rfl rfl) rfl (by omega) (by decide) rfl ?_
      refine AW.iinc3 42 _ dX4_claimWords_39 (z_inc1 _) (by decide) rfl rfl ?_
      refine AW.goto 2 dX4_claimWords_42 (by decide) ?_
      exact fin _ (by first | exact (if_pos (by omega)).symm | exact (if_neg (by omega)).symm)
theorem C_X4_claimWords0 {dg : Nat} (hd : dg < 4) {Q : zS → zM → Prop} (hQ : ∀ M', (∀ c, c ≠ 18 → M' c = M c) → pR (M' 18) (fun i _ => decide (i % 4 = dg)) → Q (ZS m0 m1 md) M') : AMet l g yX4_claimWords cX4_claimWords 4 none d 0 0 [.ref 3, .int (nI dg), .int (nI 0)] (ZS m0 m1 md) M (z_Qv Q) := by
  refine AMet.of (ini := false) rfl (fun h => by first | rfl | cases h) (Nat.le_of_ble_eq_true rfl) ?_
  show AW l g RX4 cX4_claimWords 4 none false _ _ _ 0 [some (.ref 3), some (.int (nI dg)), some (.int (nI 0)), none] [] _ _ _
  refine AW.iconst 1 (nI 0) dX4_claimWords_0 (by decide) rfl ?_
  refine AW.istn3 2 dX4_claimWords_1 (by decide) rfl rfl ?_
  exact L_X4_claimWords0 hd hQ 16 0 (by omega) M (fun _ _ => rfl) (fun j hj => absurd hj (by omega))
theorem L_X4_claimWords1 {dg : Nat} (hd : dg < 4) {Q : zS → zM → Prop} (hQ : ∀ M', (∀ c, c ≠ 18 → M' c = M c) → pR (M' 18) (fun i _ => decide (i / 4 = dg)) → Q (ZS m0 m1 md) M') :
    ∀ (q i : Nat), i + q = 16 → ∀ M', (∀ c, c ≠ 18 → M' c = M c) → (∀ j, j < i → M' 18 j = if j / 4 = dg then -1 else nI 0) → AW l g RX4 cX4_claimWords 4 none false d 0 0 2 [some (.ref 3), some (.int (nI dg)), some (.int (nI 1)), some (.int (nI i))] [] (ZS m0 m1 md) M' (z_Qv Q) := by
  intro q
  induction q with
  | zero =>
    intro i hi M' f h
    have hi : i = 16 := by omega
    subst hi
    refine AW.iload_n 3 dX4_claimWords_2 rfl rfl ?_
    refine AW.aload_n 4 dX4_claimWords_3 rfl rfl ?_
    refine AW.getR 7 dX4_claimWords_4 fX4_19 rfl (zI rfl rfl) rfl rfl ?_
    refine AW.alen 8 dX4_claimWords_7 (zA rfl rfl) (by decide) (by decide) rfl ?_
    refine AW.icmpN_ge 11 45 dX4_claimWords_8 (by decide) rfl (by omega) (by omega) (fun b8 => ?_) (fun b8 => absurd b8 (by omega))
    refine AW.vret dX4_claimWords_45 rfl rfl ⟨rfl, ?_⟩
    refine hQ M' f (fun i hi x hx => ?_)
    rw [h i hi]
    by_cases e : i / 4 = dg
    · rw [if_pos e, pw_b_m1 hx]; exact (decide_eq_true e).symm
    · rw [if_neg e, pw_b_0 hx]; exact (decide_eq_false e).symm
  | succ q ih =>
    intro i hi M' f h
    have d4 := z_d4 (i := i) (by omega)
    have fin : ∀ v : Int32, v = (if i / 4 = dg then -1 else nI 0) → AW l g RX4 cX4_claimWords 4 none false d 0 0 2 [some (.ref 3), some (.int (nI dg)), some (.int (nI 1)), some (.int (nI (i + 1)))] [] (ZS m0 m1 md) (z_st M' 18 i v) (z_Qv Q) := fun v hv => by
      refine ih (i + 1) (by omega) _ (fun c hc => by rw [z_st_ne hc]; exact f c hc) (fun j hj => ?_)
      rw [z_st_at]
      by_cases e : j = i
      · subst e; rw [z_upd_at]; exact hv
      · rw [z_upd_ne e]; exact h j (by omega)
    refine AW.iload_n 3 dX4_claimWords_2 rfl rfl ?_
    refine AW.aload_n 4 dX4_claimWords_3 rfl rfl ?_
    refine AW.getR 7 dX4_claimWords_4 fX4_19 rfl (zI rfl rfl) rfl rfl ?_
    refine AW.alen 8 dX4_claimWords_7 (zA rfl rfl) (by decide) (by decide) rfl ?_
    refine AW.icmpN_ge 11 45 dX4_claimWords_8 (by decide) rfl (by omega) (by omega) (fun b8 => absurd b8 (by omega)) (fun b8 => ?_)
    refine AW.aload_n 12 dX4_claimWords_11 rfl rfl ?_
    refine AW.getR 15 dX4_claimWords_12 fX4_19 rfl (zI rfl rfl) rfl rfl ?_
    refine AW.iload_n 16 dX4_claimWords_15 rfl rfl ?_
    refine AW.iload_n 17 dX4_claimWords_16 rfl rfl ?_
    refine AW.if_eq 20 26 dX4_claimWords_17 (by decide) rfl (fun h => absurd h (by decide)) (fun _ => ?_)
    refine AW.iload_n 21 dX4_claimWords_20 rfl rfl ?_
    refine AW.iconst 22 (nI 4) dX4_claimWords_21 (by decide) rfl ?_
    refine AW.idiv 23 dX4_claimWords_22 (by decide) rfl ?_
    refine AW.topi (nI (i / 4)) d4.1 ?_
    refine AW.goto 29 dX4_claimWords_23 (by decide) ?_
    refine AW.iload_n 30 dX4_claimWords_29 rfl rfl ?_
    refine AW.icmpN_ne 33 37 dX4_claimWords_30 (by decide) rfl (by omega) (by omega) (fun b30 => ?_) (fun b30 => ?_)
    · skip
      refine AW.iconst 38 (nI 0) dX4_claimWords_37 (by decide) rfl ?_
      refine AW.iast 39 dX4_claimWords_38 (zA rfl rfl) rfl (by omega) (by decide) rfl ?_
      refine AW.iinc3 42 _ dX4_claimWords_39 (z_inc1 _) (by decide) rfl rfl ?_
      refine AW.goto 2 dX4_claimWords_42 (by decide) ?_
      exact fin _ (by first | exact (if_pos (by omega)).symm | exact (if_neg (by omega)).symm)
    · skip
      refine AW.iconst 34 (-1) dX4_claimWords_33 (by decide) rfl ?_
      refine AW.goto 38 dX4_claimWords_34 (by decide) ?_
      refine AW.iast 39 dX4_claimWords_38 (zA rfl rfl) rfl (by omega) (by decide) rfl ?_
      refine AW.iinc3 42 _ dX4_claimWords_39 (z_inc1 _) (by decide) rfl rfl ?_
      refine AW.goto 2 dX4_claimWords_42 (by decide) ?_
      exact fin _ (by first | exact (if_pos (by omega)).symm | exact (if_neg (by omega)).symm)
theorem C_X4_claimWords1 {dg : Nat} (hd : dg < 4) {Q : zS → zM → Prop} (hQ : ∀ M', (∀ c, c ≠ 18 → M' c = M c) → pR (M' 18) (fun i _ => decide (i / 4 = dg)) → Q (ZS m0 m1 md) M') : AMet l g yX4_claimWords cX4_claimWords 4 none d 0 0 [.ref 3, .int (nI dg), .int (nI 1)] (ZS m0 m1 md) M (z_Qv Q) := by
  refine AMet.of (ini := false) rfl (fun h => by first | rfl | cases h) (Nat.le_of_ble_eq_true rfl) ?_
  show AW l g RX4 cX4_claimWords 4 none false _ _ _ 0 [some (.ref 3), some (.int (nI dg)), some (.int (nI 1)), none] [] _ _ _
  refine AW.iconst 1 (nI 0) dX4_claimWords_0 (by decide) rfl ?_
  refine AW.istn3 2 dX4_claimWords_1 (by decide) rfl rfl ?_
  exact L_X4_claimWords1 hd hQ 16 0 (by omega) M (fun _ _ => rfl) (fun j hj => absurd hj (by omega))
theorem L_X4_claimX {o : Nat} {fl : Int32} {Q : zS → zM → Prop} (hQ : ∀ M', (∀ c, c ≠ 18 → M' c = M c) → (∀ j, j < 16 → M' 18 j = M 18 j ^^^ fl) → Q (ZS m0 m1 md) M') :
    ∀ (q i : Nat), i + q = 16 → ∀ M', (∀ c, c ≠ 18 → M' c = M c) → (∀ j, j < i → M' 18 j = M 18 j ^^^ fl) → (∀ j, i ≤ j → M' 18 j = M 18 j) → AW l g RX4 cX4_readClaim 4 none false d 0 0 191 [some (.ref 3), some (.int (nI o)), some (.int fl), some (.int (nI i))] [] (ZS m0 m1 md) M' (z_Qv Q) := by
  intro q
  induction q with
  | zero =>
    intro i hi M' f h h2
    have hi : i = 16 := by omega
    subst hi
    refine AW.iload_n 192 dX4_readClaim_191 rfl rfl ?_
    refine AW.aload_n 193 dX4_readClaim_192 rfl rfl ?_
    refine AW.getR 196 dX4_readClaim_193 fX4_19 rfl (zI rfl rfl) rfl rfl ?_
    refine AW.alen 197 dX4_readClaim_196 (zA rfl rfl) (by decide) (by decide) rfl ?_
    refine AW.icmpN_ge 200 216 dX4_readClaim_197 (by decide) rfl (by omega) (by omega) (fun b197 => ?_) (fun b197 => absurd b197 (by omega))
    refine AW.vret dX4_readClaim_216 rfl rfl ⟨rfl, ?_⟩
    exact hQ M' f h
  | succ q ih =>
    intro i hi M' f h h2
    refine AW.iload_n 192 dX4_readClaim_191 rfl rfl ?_
    refine AW.aload_n 193 dX4_readClaim_192 rfl rfl ?_
    refine AW.getR 196 dX4_readClaim_193 fX4_19 rfl (zI rfl rfl) rfl rfl ?_
    refine AW.alen 197 dX4_readClaim_196 (zA rfl rfl) (by decide) (by decide) rfl ?_
    refine AW.icmpN_ge 200 216 dX4_readClaim_197 (by decide) rfl (by omega) (by omega) (fun b197 => absurd b197 (by omega)) (fun b197 => ?_)
    refine AW.aload_n 201 dX4_readClaim_200 rfl rfl ?_
    refine AW.getR 204 dX4_readClaim_201 fX4_19 rfl (zI rfl rfl) rfl rfl ?_
    refine AW.iload_n 205 dX4_readClaim_204 rfl rfl ?_
    refine AW.dup2 206 dX4_readClaim_205 rfl rfl rfl ?_
    refine AW.iald 207 dX4_readClaim_206 (zA rfl rfl) rfl (by omega) (by decide) rfl ?_
    refine AW.iload_n 208 dX4_readClaim_207 rfl rfl ?_
    refine AW.ixor 209 dX4_readClaim_208 rfl ?_
    refine AW.iast 210 dX4_readClaim_209 (zA rfl rfl) rfl (by omega) (by decide) rfl ?_
    refine AW.iinc3 213 _ dX4_readClaim_210 (z_inc1 _) (by decide) rfl rfl ?_
    refine AW.goto 191 dX4_readClaim_213 (by decide) ?_
    refine ih (i + 1) (by omega) _ (fun c hc => by rw [z_st_ne hc]; exact f c hc) (fun j hj => ?_) (fun j hj => ?_)
    · rw [z_st_at]
      by_cases e : j = i
      · subst e; rw [z_upd_at, h2 j (Nat.le_refl _)]
      · rw [z_upd_ne e]; exact h j (by omega)
    · rw [z_st_o (by omega)]; exact h2 j (by omega)
theorem L_X4_claim15 {D o : Nat} (ho : o ≤ 5) {sub : Option (pS → pS × pB)} (hs0 : ¬ o < 5 → sub = none) (hs1 : o < 5 → ∃ T, sub = some T ∧ pp_good n T ∧ f_KT l g m0 m1 md n tp du (D + 2) (o + 1) T) (hT : f_tp M n tp) (hs : f_rd M s) (hn : s.2 ≤ n) (hdu : M 3 4 = z_bI du) {b : Bool} {fl : Int32} (hfl : ∀ x, x < 32 → pw_b fl x = b) {Q : zS → zM → Prop}
    (hQ : ∀ M', f_frC o M M' → f_rd M' (pp_atom tp n du sub s).1 → ((pp_atom tp n du sub s).1.1 = false → pR (M' 18) (fun i x => (pp_atom tp n du sub s).2 i x != b)) → Q (ZS m0 m1 md) M') : AW l g RX4 cX4_readClaim 4 none false (D + 3) 0 0 15 [some (.ref 3), some (.int (nI o)), some (.int fl), none] [] (ZS m0 m1 md) M (z_Qv Q) := by
  have X : ∀ M1, f_frC o M M1 → f_rd M1 (pp_atom tp n du sub s).1 → ((pp_atom tp n du sub s).1.1 = false → pR (M1 18) (pp_atom tp n du sub s).2) → AW l g RX4 cX4_readClaim 4 none false (D + 3) 0 0 189 [some (.ref 3), some (.int (nI o)), some (.int fl), none] [] (ZS m0 m1 md) M1 (z_Qv Q) := by
    intro M1 f1 r1 h1
    have fin := L_X4_claimX (l := l) (g := g) (d := D + 3) (m0 := m0) (m1 := m1) (md := md) (M := M1) (o := o) (fl := fl) (Q := Q) (fun M2 e1 e2 => hQ M2 ⟨fun c a1 a2 a3 a4 => by rw [e1 c a2]; exact f1.1 c a1 a2 a3 a4, fun j a1 a2 => by rw [e1 3 (by decide)]; exact f1.2 j a1 a2⟩ ⟨by rw [e1 3 (by decide)]; exact r1.1, by rw [e1 3 (by decide)]; exact r1.2⟩ (fun z i hi x hx => by
      rw [e2 i hi, pw_b_xor, hfl x hx, h1 z i hi x hx])) 16 0 (by omega) M1 (fun _ _ => rfl) (fun j hj => absurd hj (by omega)) (fun _ _ => rfl)
    refine AW.iconst 190 (nI 0) dX4_readClaim_189 (by decide) rfl ?_
    refine AW.istn3 191 dX4_readClaim_190 (by decide) rfl rfl ?_
    exact fin
  have hTF : ∀ M9, f_fr M M9 → f_tp M9 n tp := fun M9 f => hT.fr (f.1 1 (by decide)) (f.1 2 (by decide))
  have hpb := fun c (hc : 0 < c) => pp_pass_le (tp := tp) (c := c) hc hn
  have hdg := fun c (hc : 0 < c) => pp_dig_le (tp := tp) (hpb c hc).1
  have F := f_fr.rf M
  have R := hs
  refine AW.aload_n 16 dX4_readClaim_15 rfl rfl ?_
  refine AW.bipush 18 (nI 102) dX4_readClaim_16 (by decide) rfl ?_
  refine AW.cVi1 21 dX4_readClaim_18 kX4_51 (zI rfl rfl) (Nat.le_of_ble_eq_true rfl) rfl (C_X4_takes (hTF _ F) R hn (by decide) (by decide) (fun M1 => ?_) (fun M1 => ?_))
  · skip
    intro a r p18
    have F := F.tr a
    have R := r
    refine AW.if_eq 24 42 dX4_readClaim_21 (by decide) rfl (fun h => absurd h (by decide)) (fun _ => ?_)
    refine AW.aload_n 25 dX4_readClaim_24 rfl rfl ?_
    refine AW.getR 28 dX4_readClaim_25 fX4_19 rfl (zI rfl rfl) rfl rfl ?_
    refine AW.getsN 31 dX4_readClaim_28 (by decide : 3 < 4) qX4_100 rfl ?_
    refine AW.aload_n 32 dX4_readClaim_31 rfl rfl ?_
    refine AW.cVi0 35 dX4_readClaim_32 kX4_71 (zI rfl rfl) (Nat.le_of_ble_eq_true rfl) rfl (C_X4_takeDigit (hTF _ F) R (hpb 102 (by decide)).1 (fun M7 a7 r7 => ?_))
    refine AW.eald 36 dX4_readClaim_35 (by decide) rfl (show _ < 4 from (hdg 102 (by decide)).2.2.1) (show 4 < 2 ^ 31 by decide) rfl ?_
    refine AW.topi (z_sv 3 (pp_dig tp n (pp_pass tp n 102 s).2).1) rfl ?_
    refine AW.cSv2 39 dX4_readClaim_36 kX4_88 (Nat.le_of_ble_eq_true rfl) rfl (C_fill (M := M7) (zA rfl rfl) (by decide) ?_)
    have e : pp_atom tp n du sub s = ((pp_dig tp n (pp_pass tp n 102 s).2).2, fun _ x => x.testBit ((pp_dig tp n (pp_pass tp n 102 s).2).1 + 1)) := by unfold pp_atom; simp only [p18, if_true]
    have fin := X (z_row M7 18 (z_fill (M7 18) 16 (z_sv 3 (pp_dig tp n (pp_pass tp n 102 s).2).1))) ((F.tr a7).C (fun c hc => z_row_ne _ hc)) (by rw [e]; exact ⟨by rw [z_row_ne _ (by decide)]; exact r7.1, by rw [z_row_ne _ (by decide)]; exact r7.2⟩) (fun _ => by rw [e]; exact pR_fill (fun i hi x hx => pw_b_fe (hdg 102 (by decide)).2.2.1 hx))
    refine AW.goto 189 dX4_readClaim_39 (by decide) ?_
    exact fin
  · skip
    intro a r p18
    have F := F.tr a
    have R := r
    refine AW.if_eq 24 42 dX4_readClaim_21 (by decide) rfl (fun _ => ?_) (fun h => absurd h (by decide))
    refine AW.aload_n 43 dX4_readClaim_42 rfl rfl ?_
    refine AW.bipush 45 (nI 115) dX4_readClaim_43 (by decide) rfl ?_
    refine AW.cVi1 48 dX4_readClaim_45 kX4_51 (zI rfl rfl) (Nat.le_of_ble_eq_true rfl) rfl (C_X4_takesN (hTF _ F) R hn (by decide) (by decide) (fun M2 => ?_) (fun M2 => ?_))
    · skip
      intro a r p45
      have F := F.tr a
      have R := r
      refine AW.if_eq 51 63 dX4_readClaim_48 (by decide) rfl (fun h => absurd h (by decide)) (fun _ => ?_)
      refine AW.aload_n 52 dX4_readClaim_51 rfl rfl ?_
      refine AW.aload_n 53 dX4_readClaim_52 rfl rfl ?_
      refine AW.cVi0 56 dX4_readClaim_53 kX4_71 (zI rfl rfl) (Nat.le_of_ble_eq_true rfl) rfl (C_X4_takeDigit (hTF _ F) R (hpb 115 (by decide)).1 (fun M7 a7 r7 => ?_))
      refine AW.iconst 57 (nI 0) dX4_readClaim_56 (by decide) rfl ?_
      refine AW.cVv2 60 dX4_readClaim_57 kX4_103 (zI rfl rfl) (Nat.le_of_ble_eq_true rfl) rfl (C_X4_claimWords0 (M := M7) (hdg 115 (by decide)).2.2.1 (fun M8 a8 r8 => ?_))
      have e : pp_atom tp n du sub s = ((pp_dig tp n (pp_pass tp n 115 s).2).2, fun i _ => decide (i % 4 = (pp_dig tp n (pp_pass tp n 115 s).2).1)) := by unfold pp_atom; simp only [p18, p45, Bool.false_eq_true, if_false, if_true]
      have fin := X M8 ((F.tr a7).C a8) (by rw [e]; exact ⟨by rw [a8 3 (by decide)]; exact r7.1, by rw [a8 3 (by decide)]; exact r7.2⟩) (fun _ => by rw [e]; exact r8)
      refine AW.goto 189 dX4_readClaim_60 (by decide) ?_
      exact fin
    · skip
      intro a r p45
      have F := F.tr a
      have R := r
      refine AW.if_eq 51 63 dX4_readClaim_48 (by decide) rfl (fun _ => ?_) (fun h => absurd h (by decide))
      refine AW.aload_n 64 dX4_readClaim_63 rfl rfl ?_
      refine AW.bipush 66 (nI 108) dX4_readClaim_64 (by decide) rfl ?_
      refine AW.cVi1 69 dX4_readClaim_66 kX4_51 (zI rfl rfl) (Nat.le_of_ble_eq_true rfl) rfl (C_X4_takesN (hTF _ F) R hn (by decide) (by decide) (fun M3 => ?_) (fun M3 => ?_))
      · skip
        intro a r p66
        have F := F.tr a
        have R := r
        refine AW.if_eq 72 84 dX4_readClaim_69 (by decide) rfl (fun h => absurd h (by decide)) (fun _ => ?_)
        refine AW.aload_n 73 dX4_readClaim_72 rfl rfl ?_
        refine AW.getR 76 dX4_readClaim_73 fX4_19 rfl (zI rfl rfl) rfl rfl ?_
        refine AW.ldc 78 (-1431655766) dX4_readClaim_76 qX4_107 rfl ?_
        refine AW.cSv2 81 dX4_readClaim_78 kX4_88 (Nat.le_of_ble_eq_true rfl) rfl (C_fill (M := M3) (zA rfl rfl) (by decide) ?_)
        have e : pp_atom tp n du sub s = ((pp_pass tp n 108 s).2, fun _ x => x.testBit 0) := by unfold pp_atom; simp only [p18, p45, p66, Bool.false_eq_true, if_false, if_true]
        have fin := X (z_row M3 18 (z_fill (M3 18) 16 (-1431655766))) (F.C (fun c hc => z_row_ne _ hc)) (by rw [e]; exact ⟨by rw [z_row_ne _ (by decide)]; exact R.1, by rw [z_row_ne _ (by decide)]; exact R.2⟩) (fun _ => by rw [e]; exact pR_fill (fun i hi x hx => pw_b_lot hx))
        refine AW.goto 189 dX4_readClaim_81 (by decide) ?_
        exact fin
      · skip
        intro a r p66
        have F := F.tr a
        have R := r
        refine AW.if_eq 72 84 dX4_readClaim_69 (by decide) rfl (fun _ => ?_) (fun h => absurd h (by decide))
        refine AW.aload_n 85 dX4_readClaim_84 rfl rfl ?_
        refine AW.bipush 87 (nI 42) dX4_readClaim_85 (by decide) rfl ?_
        refine AW.cVi1 90 dX4_readClaim_87 kX4_51 (zI rfl rfl) (Nat.le_of_ble_eq_true rfl) rfl (C_X4_takesN (hTF _ F) R hn (by decide) (by decide) (fun M4 => ?_) (fun M4 => ?_))
        · skip
          intro a r p87
          have F := F.tr a
          have R := r
          refine AW.if_eq 93 104 dX4_readClaim_90 (by decide) rfl (fun h => absurd h (by decide)) (fun _ => ?_)
          refine AW.aload_n 94 dX4_readClaim_93 rfl rfl ?_
          refine AW.getR 97 dX4_readClaim_94 fX4_19 rfl (zI rfl rfl) rfl rfl ?_
          refine AW.iconst 98 (-1) dX4_readClaim_97 (by decide) rfl ?_
          refine AW.cSv2 101 dX4_readClaim_98 kX4_88 (Nat.le_of_ble_eq_true rfl) rfl (C_fill (M := M4) (zA rfl rfl) (by decide) ?_)
          have e : pp_atom tp n du sub s = ((pp_pass tp n 42 s).2, fun _ _ => true) := by unfold pp_atom; simp only [p18, p45, p66, p87, Bool.false_eq_true, if_false, if_true]
          have fin := X (z_row M4 18 (z_fill (M4 18) 16 (-1))) (F.C (fun c hc => z_row_ne _ hc)) (by rw [e]; exact ⟨by rw [z_row_ne _ (by decide)]; exact R.1, by rw [z_row_ne _ (by decide)]; exact R.2⟩) (fun _ => by rw [e]; exact pR_fill (fun i hi x hx => pw_b_m1 hx))
          refine AW.goto 189 dX4_readClaim_101 (by decide) ?_
          exact fin
        · skip
          intro a r p87
          have F := F.tr a
          have R := r
          refine AW.if_eq 93 104 dX4_readClaim_90 (by decide) rfl (fun _ => ?_) (fun h => absurd h (by decide))
          refine AW.aload_n 105 dX4_readClaim_104 rfl rfl ?_
          refine AW.getI 108 dX4_readClaim_105 fX4_23 rfl (zI rfl rfl) rfl ?_
          refine AW.topi (z_bI du) (by rw [F.2 4 (by decide) (by decide)]; exact hdu) ?_
          refine AW.zif_eq 111 132 dX4_readClaim_108 (by decide) rfl rfl (fun b108 => ?_) (fun b108 => ?_)
          · skip
            have hnd : ¬ (du = true ∧ (pp_pass tp n 97 s).1 = true) := by first | (intro z; rw [p114] at z; exact Bool.false_ne_true z.2) | (intro z; rw [z_bf b108] at z; exact Bool.false_ne_true z.1)
            refine AW.iload_n 133 dX4_readClaim_132 rfl rfl ?_
            refine AW.iconst 134 (nI 5) dX4_readClaim_133 (by decide) rfl ?_
            refine AW.icmpN_ge 137 184 dX4_readClaim_134 (by decide) rfl (by omega) (by omega) (fun b134 => ?_) (fun b134 => ?_)
            · skip
              have e : pp_atom tp n du sub s = ((true, (pp_nrm tp n s).2), fun _ _ => false) := by
                unfold pp_atom
                simp only [p18, p45, p66, p87, if_neg hnd, Bool.false_eq_true, if_false]
                first
                | (rw [hs0 (by omega)])
                | (obtain ⟨T, eT, -, -⟩ := hs1 (by omega); rw [eT]; simp only [p140, Bool.false_eq_true, if_false])
              refine AW.aload_n 185 dX4_readClaim_184 rfl rfl ?_
              refine AW.iconst 186 (nI 1) dX4_readClaim_185 (by decide) rfl ?_
              refine AW.putI 189 .boolean dX4_readClaim_186 pX4_27 rfl (zI rfl rfl) rfl rfl rfl ?_
              have fin := X _ ((F.st5 (nI 1)).C (fun c hc => rfl)) (by rw [e]; exact ⟨z_st_v _ _ _ _, by rw [z_st_o (by decide)]; exact R.2⟩) (fun z => by rw [e] at z; exact Bool.noConfusion (show true = false from z))
              exact fin
            · skip
              refine AW.aload_n 138 dX4_readClaim_137 rfl rfl ?_
              refine AW.bipush 140 (nI 40) dX4_readClaim_138 (by decide) rfl ?_
              refine AW.cVi1 143 dX4_readClaim_140 kX4_51 (zI rfl rfl) (Nat.le_of_ble_eq_true rfl) rfl (C_X4_takesN (hTF _ F) R hn (by decide) (by decide) (fun M6 => ?_) (fun M6 => ?_))
              · skip
                intro a r p140
                have F := F.tr a
                have R := r
                refine AW.if_eq 146 184 dX4_readClaim_143 (by decide) rfl (fun h => absurd h (by decide)) (fun _ => ?_)
                obtain ⟨T, eT, gT, kT⟩ := hs1 (by omega)
                refine AW.aload_n 147 dX4_readClaim_146 rfl rfl ?_
                refine AW.iload_n 148 dX4_readClaim_147 rfl rfl ?_
                refine AW.iconst 149 (nI 1) dX4_readClaim_148 (by decide) rfl ?_
                refine AW.iaddN 150 dX4_readClaim_149 rfl ?_
                refine AW.cVv1 153 dX4_readClaim_150 kX4_58 (zI rfl rfl) (Nat.le_of_ble_eq_true rfl) rfl (kT _ _ _ (hTF _ F) R (hpb 40 (by decide)).1 (by rw [F.2 4 (by decide) (by decide)]; exact hdu) (fun M7 a7 r7 h7 => ?_))
                have b7 := (gT.2 _ (hpb 40 (by decide)).1).1
                have t7 : f_tp M7 n tp := (hTF _ F).fr (a7.1 1 (by decide) (by decide) (by omega) (by omega)) (a7.1 2 (by decide) (by decide) (by omega) (by omega))
                refine AW.aload_n 154 dX4_readClaim_153 rfl rfl ?_
                refine AW.bipush 156 (nI 41) dX4_readClaim_154 (by decide) rfl ?_
                refine AW.cVv1 159 dX4_readClaim_156 kX4_78 (zI rfl rfl) (Nat.le_of_ble_eq_true rfl) rfl (C_X4_need (M := M7) t7 r7 b7 (by decide) (by decide) (fun M8 a8 r8 => ?_))
                refine AW.aload_n 160 dX4_readClaim_159 rfl rfl ?_
                refine AW.getR 163 dX4_readClaim_160 fX4_11 rfl (zI rfl rfl) rfl rfl ?_
                refine AW.iload_n 164 dX4_readClaim_163 rfl rfl ?_
                refine AW.iconst 165 (nI 1) dX4_readClaim_164 (by decide) rfl ?_
                refine AW.iaddN 166 dX4_readClaim_165 rfl ?_
                refine AW.aald 167 dX4_readClaim_166 (zA rfl rfl) (by decide) rfl (by omega) (by decide) (zAc_r (by omega)) rfl ?_
                refine AW.iconst 168 (nI 0) dX4_readClaim_167 (by decide) rfl ?_
                refine AW.aload_n 169 dX4_readClaim_168 rfl rfl ?_
                refine AW.getR 172 dX4_readClaim_169 fX4_19 rfl (zI rfl rfl) rfl rfl ?_
                refine AW.iconst 173 (nI 0) dX4_readClaim_172 (by decide) rfl ?_
                refine AW.aload_n 174 dX4_readClaim_173 rfl rfl ?_
                refine AW.getR 177 dX4_readClaim_174 fX4_19 rfl (zI rfl rfl) rfl rfl ?_
                refine AW.alen 178 dX4_readClaim_177 (zA rfl rfl) (by decide) (by decide) rfl ?_
                refine AW.copy 181 dX4_readClaim_178 qX4_62 (zAc_a (by omega)) (zA rfl rfl) rfl rfl rfl (by omega) (by omega) (by decide) (by decide) (Nat.le_of_ble_eq_true rfl) rfl ?_
                have e : pp_atom tp n du sub s = (pp_need tp n 41 (T (pp_pass tp n 40 s).2).1, (T (pp_pass tp n 40 s).2).2) := by unfold pp_atom; simp only [p18, p45, p66, p87, p140, eT, if_neg hnd, Bool.false_eq_true, if_false, if_true]
                have nl := (pp_need_le (tp := tp) (c := 41) (by decide) b7).2.2
                have fin := X (z_row M8 18 (va_cpy (M8 (5 + (o + 1))) (M8 18) 0 0 16)) ⟨fun c c1 c2 c3 c4 => by rw [z_row_ne _ c2, a8.1 c c1, a7.1 c c1 c2 (by omega) (by omega)]; exact F.1 c c1, fun j j1 j2 => by rw [z_row_ne _ (by decide), a8.2 j j1 j2, a7.2 j j1 j2]; exact F.2 j j1 j2⟩ (by rw [e]; exact ⟨by rw [z_row_ne _ (by decide)]; exact r8.1, by rw [z_row_ne _ (by decide)]; exact r8.2⟩) (fun z => by
                  rw [e] at z ⊢
                  have h8 := h7 (nl z)
                  intro i hi x hx
                  rw [z_row_at, pk_cpy_in (by omega) (by omega), a8.1 _ (by omega)]
                  have h9 := h8 i hi x hx
                  rw [show 0 + (i - 0) = i by omega]
                  exact h9)
                refine AW.goto 189 dX4_readClaim_181 (by decide) ?_
                exact fin
              · skip
                intro a r p140
                have F := F.tr a
                have R := r
                refine AW.if_eq 146 184 dX4_readClaim_143 (by decide) rfl (fun _ => ?_) (fun h => absurd h (by decide))
                have e : pp_atom tp n du sub s = ((true, (pp_nrm tp n s).2), fun _ _ => false) := by
                  unfold pp_atom
                  simp only [p18, p45, p66, p87, if_neg hnd, Bool.false_eq_true, if_false]
                  first
                  | (rw [hs0 (by omega)])
                  | (obtain ⟨T, eT, -, -⟩ := hs1 (by omega); rw [eT]; simp only [p140, Bool.false_eq_true, if_false])
                refine AW.aload_n 185 dX4_readClaim_184 rfl rfl ?_
                refine AW.iconst 186 (nI 1) dX4_readClaim_185 (by decide) rfl ?_
                refine AW.putI 189 .boolean dX4_readClaim_186 pX4_27 rfl (zI rfl rfl) rfl rfl rfl ?_
                have fin := X _ ((F.st5 (nI 1)).C (fun c hc => rfl)) (by rw [e]; exact ⟨z_st_v _ _ _ _, by rw [z_st_o (by decide)]; exact R.2⟩) (fun z => by rw [e] at z; exact Bool.noConfusion (show true = false from z))
                exact fin
          · skip
            refine AW.aload_n 112 dX4_readClaim_111 rfl rfl ?_
            refine AW.bipush 114 (nI 97) dX4_readClaim_112 (by decide) rfl ?_
            refine AW.cVi1 117 dX4_readClaim_114 kX4_51 (zI rfl rfl) (Nat.le_of_ble_eq_true rfl) rfl (C_X4_takesN (hTF _ F) R hn (by decide) (by decide) (fun M5 => ?_) (fun M5 => ?_))
            · skip
              intro a r p114
              have F := F.tr a
              have R := r
              refine AW.if_eq 120 132 dX4_readClaim_117 (by decide) rfl (fun h => absurd h (by decide)) (fun _ => ?_)
              refine AW.aload_n 121 dX4_readClaim_120 rfl rfl ?_
              refine AW.aload_n 122 dX4_readClaim_121 rfl rfl ?_
              refine AW.cVi0 125 dX4_readClaim_122 kX4_71 (zI rfl rfl) (Nat.le_of_ble_eq_true rfl) rfl (C_X4_takeDigit (hTF _ F) R (hpb 97 (by decide)).1 (fun M7 a7 r7 => ?_))
              refine AW.iconst 126 (nI 1) dX4_readClaim_125 (by decide) rfl ?_
              refine AW.cVv2 129 dX4_readClaim_126 kX4_103 (zI rfl rfl) (Nat.le_of_ble_eq_true rfl) rfl (C_X4_claimWords1 (M := M7) (hdg 97 (by decide)).2.2.1 (fun M8 a8 r8 => ?_))
              have e : pp_atom tp n du sub s = ((pp_dig tp n (pp_pass tp n 97 s).2).2, fun i _ => decide (i / 4 = (pp_dig tp n (pp_pass tp n 97 s).2).1)) := by unfold pp_atom; simp only [p18, p45, p66, p87, p114, z_bt b108, Bool.false_eq_true, if_false, if_true, and_self]
              have fin := X M8 ((F.tr a7).C a8) (by rw [e]; exact ⟨by rw [a8 3 (by decide)]; exact r7.1, by rw [a8 3 (by decide)]; exact r7.2⟩) (fun _ => by rw [e]; exact r8)
              refine AW.goto 189 dX4_readClaim_129 (by decide) ?_
              exact fin
            · skip
              intro a r p114
              have F := F.tr a
              have R := r
              refine AW.if_eq 120 132 dX4_readClaim_117 (by decide) rfl (fun _ => ?_) (fun h => absurd h (by decide))
              have hnd : ¬ (du = true ∧ (pp_pass tp n 97 s).1 = true) := by first | (intro z; rw [p114] at z; exact Bool.false_ne_true z.2) | (intro z; rw [z_bf b108] at z; exact Bool.false_ne_true z.1)
              refine AW.iload_n 133 dX4_readClaim_132 rfl rfl ?_
              refine AW.iconst 134 (nI 5) dX4_readClaim_133 (by decide) rfl ?_
              refine AW.icmpN_ge 137 184 dX4_readClaim_134 (by decide) rfl (by omega) (by omega) (fun b134 => ?_) (fun b134 => ?_)
              · skip
                have e : pp_atom tp n du sub s = ((true, (pp_nrm tp n s).2), fun _ _ => false) := by
                  unfold pp_atom
                  simp only [p18, p45, p66, p87, if_neg hnd, Bool.false_eq_true, if_false]
                  first
                  | (rw [hs0 (by omega)])
                  | (obtain ⟨T, eT, -, -⟩ := hs1 (by omega); rw [eT]; simp only [p140, Bool.false_eq_true, if_false])
                refine AW.aload_n 185 dX4_readClaim_184 rfl rfl ?_
                refine AW.iconst 186 (nI 1) dX4_readClaim_185 (by decide) rfl ?_
                refine AW.putI 189 .boolean dX4_readClaim_186 pX4_27 rfl (zI rfl rfl) rfl rfl rfl ?_
                have fin := X _ ((F.st5 (nI 1)).C (fun c hc => rfl)) (by rw [e]; exact ⟨z_st_v _ _ _ _, by rw [z_st_o (by decide)]; exact R.2⟩) (fun z => by rw [e] at z; exact Bool.noConfusion (show true = false from z))
                exact fin
              · skip
                refine AW.aload_n 138 dX4_readClaim_137 rfl rfl ?_
                refine AW.bipush 140 (nI 40) dX4_readClaim_138 (by decide) rfl ?_
                refine AW.cVi1 143 dX4_readClaim_140 kX4_51 (zI rfl rfl) (Nat.le_of_ble_eq_true rfl) rfl (C_X4_takesN (hTF _ F) R hn (by decide) (by decide) (fun M6 => ?_) (fun M6 => ?_))
                · skip
                  intro a r p140
                  have F := F.tr a
                  have R := r
                  refine AW.if_eq 146 184 dX4_readClaim_143 (by decide) rfl (fun h => absurd h (by decide)) (fun _ => ?_)
                  obtain ⟨T, eT, gT, kT⟩ := hs1 (by omega)
                  refine AW.aload_n 147 dX4_readClaim_146 rfl rfl ?_
                  refine AW.iload_n 148 dX4_readClaim_147 rfl rfl ?_
                  refine AW.iconst 149 (nI 1) dX4_readClaim_148 (by decide) rfl ?_
                  refine AW.iaddN 150 dX4_readClaim_149 rfl ?_
                  refine AW.cVv1 153 dX4_readClaim_150 kX4_58 (zI rfl rfl) (Nat.le_of_ble_eq_true rfl) rfl (kT _ _ _ (hTF _ F) R (hpb 40 (by decide)).1 (by rw [F.2 4 (by decide) (by decide)]; exact hdu) (fun M7 a7 r7 h7 => ?_))
                  have b7 := (gT.2 _ (hpb 40 (by decide)).1).1
                  have t7 : f_tp M7 n tp := (hTF _ F).fr (a7.1 1 (by decide) (by decide) (by omega) (by omega)) (a7.1 2 (by decide) (by decide) (by omega) (by omega))
                  refine AW.aload_n 154 dX4_readClaim_153 rfl rfl ?_
                  refine AW.bipush 156 (nI 41) dX4_readClaim_154 (by decide) rfl ?_
                  refine AW.cVv1 159 dX4_readClaim_156 kX4_78 (zI rfl rfl) (Nat.le_of_ble_eq_true rfl) rfl (C_X4_need (M := M7) t7 r7 b7 (by decide) (by decide) (fun M8 a8 r8 => ?_))
                  refine AW.aload_n 160 dX4_readClaim_159 rfl rfl ?_
                  refine AW.getR 163 dX4_readClaim_160 fX4_11 rfl (zI rfl rfl) rfl rfl ?_
                  refine AW.iload_n 164 dX4_readClaim_163 rfl rfl ?_
                  refine AW.iconst 165 (nI 1) dX4_readClaim_164 (by decide) rfl ?_
                  refine AW.iaddN 166 dX4_readClaim_165 rfl ?_
                  refine AW.aald 167 dX4_readClaim_166 (zA rfl rfl) (by decide) rfl (by omega) (by decide) (zAc_r (by omega)) rfl ?_
                  refine AW.iconst 168 (nI 0) dX4_readClaim_167 (by decide) rfl ?_
                  refine AW.aload_n 169 dX4_readClaim_168 rfl rfl ?_
                  refine AW.getR 172 dX4_readClaim_169 fX4_19 rfl (zI rfl rfl) rfl rfl ?_
                  refine AW.iconst 173 (nI 0) dX4_readClaim_172 (by decide) rfl ?_
                  refine AW.aload_n 174 dX4_readClaim_173 rfl rfl ?_
                  refine AW.getR 177 dX4_readClaim_174 fX4_19 rfl (zI rfl rfl) rfl rfl ?_
                  refine AW.alen 178 dX4_readClaim_177 (zA rfl rfl) (by decide) (by decide) rfl ?_
                  refine AW.copy 181 dX4_readClaim_178 qX4_62 (zAc_a (by omega)) (zA rfl rfl) rfl rfl rfl (by omega) (by omega) (by decide) (by decide) (Nat.le_of_ble_eq_true rfl) rfl ?_
                  have e : pp_atom tp n du sub s = (pp_need tp n 41 (T (pp_pass tp n 40 s).2).1, (T (pp_pass tp n 40 s).2).2) := by unfold pp_atom; simp only [p18, p45, p66, p87, p140, eT, if_neg hnd, Bool.false_eq_true, if_false, if_true]
                  have nl := (pp_need_le (tp := tp) (c := 41) (by decide) b7).2.2
                  have fin := X (z_row M8 18 (va_cpy (M8 (5 + (o + 1))) (M8 18) 0 0 16)) ⟨fun c c1 c2 c3 c4 => by rw [z_row_ne _ c2, a8.1 c c1, a7.1 c c1 c2 (by omega) (by omega)]; exact F.1 c c1, fun j j1 j2 => by rw [z_row_ne _ (by decide), a8.2 j j1 j2, a7.2 j j1 j2]; exact F.2 j j1 j2⟩ (by rw [e]; exact ⟨by rw [z_row_ne _ (by decide)]; exact r8.1, by rw [z_row_ne _ (by decide)]; exact r8.2⟩) (fun z => by
                    rw [e] at z ⊢
                    have h8 := h7 (nl z)
                    intro i hi x hx
                    rw [z_row_at, pk_cpy_in (by omega) (by omega), a8.1 _ (by omega)]
                    have h9 := h8 i hi x hx
                    rw [show 0 + (i - 0) = i by omega]
                    exact h9)
                  refine AW.goto 189 dX4_readClaim_181 (by decide) ?_
                  exact fin
                · skip
                  intro a r p140
                  have F := F.tr a
                  have R := r
                  refine AW.if_eq 146 184 dX4_readClaim_143 (by decide) rfl (fun _ => ?_) (fun h => absurd h (by decide))
                  have e : pp_atom tp n du sub s = ((true, (pp_nrm tp n s).2), fun _ _ => false) := by
                    unfold pp_atom
                    simp only [p18, p45, p66, p87, if_neg hnd, Bool.false_eq_true, if_false]
                    first
                    | (rw [hs0 (by omega)])
                    | (obtain ⟨T, eT, -, -⟩ := hs1 (by omega); rw [eT]; simp only [p140, Bool.false_eq_true, if_false])
                  refine AW.aload_n 185 dX4_readClaim_184 rfl rfl ?_
                  refine AW.iconst 186 (nI 1) dX4_readClaim_185 (by decide) rfl ?_
                  refine AW.putI 189 .boolean dX4_readClaim_186 pX4_27 rfl (zI rfl rfl) rfl rfl rfl ?_
                  have fin := X _ ((F.st5 (nI 1)).C (fun c hc => rfl)) (by rw [e]; exact ⟨z_st_v _ _ _ _, by rw [z_st_o (by decide)]; exact R.2⟩) (fun z => by rw [e] at z; exact Bool.noConfusion (show true = false from z))
                  exact fin
theorem C_X4_readClaim {D o : Nat} (ho : o ≤ 5) {sub : Option (pS → pS × pB)} (hs0 : ¬ o < 5 → sub = none) (hs1 : o < 5 → ∃ T, sub = some T ∧ pp_good n T ∧ f_KT l g m0 m1 md n tp du (D + 2) (o + 1) T) : f_KC l g m0 m1 md n tp du (D + 3) o (pp_cl tp n du sub) := by
  intro M s Q hT hs hn hdu hQ
  have hpb := pp_pass_le (tp := tp) (c := 33) (by decide) hn
  have C15 := fun M1 (F : f_fr M M1) (R : f_rd M1 (pp_pass tp n 33 s).2) (fl : Int32) (hfl : ∀ x, x < 32 → pw_b fl x = (pp_pass tp n 33 s).1) => L_X4_claim15 (l := l) (g := g) (m0 := m0) (m1 := m1) (md := md) (M := M1) (tp := tp) (s := (pp_pass tp n 33 s).2) (du := du) ho hs0 hs1 (hT.fr (F.1 1 (by decide)) (F.1 2 (by decide))) R hpb.1 (by rw [F.2 4 (by decide) (by decide)]; exact hdu) (b := (pp_pass tp n 33 s).1) (fl := fl) hfl (Q := Q) (fun M' f r h => hQ M' ⟨fun c c1 c2 c3 c4 => by rw [f.1 c c1 c2 c3 c4]; exact F.1 c c1, fun j j1 j2 => by rw [f.2 j j1 j2]; exact F.2 j j1 j2⟩ r h)
  refine AMet.of (ini := false) rfl (fun h => by first | rfl | cases h) (Nat.le_of_ble_eq_true rfl) ?_
  show AW l g RX4 cX4_readClaim 4 none false _ _ _ 0 [some (.ref 3), some (.int (nI o)), none, none] [] _ _ _
  refine AW.aload_n 1 dX4_readClaim_0 rfl rfl ?_
  refine AW.bipush 3 (nI 33) dX4_readClaim_1 (by decide) rfl ?_
  refine AW.cVi1 6 dX4_readClaim_3 kX4_51 (zI rfl rfl) (Nat.le_of_ble_eq_true rfl) rfl (C_X4_takes hT hs hn (by decide) (by decide) (fun M1 => ?_) (fun M1 => ?_))
  · skip
    intro a r p
    have fin := C15 M1 a r (-1) (fun x hx => by rw [p]; exact pw_b_m1 hx)
    refine AW.if_eq 9 13 dX4_readClaim_6 (by decide) rfl (fun h => absurd h (by decide)) (fun _ => ?_)
    refine AW.iconst 10 (-1) dX4_readClaim_9 (by decide) rfl ?_
    refine AW.goto 14 dX4_readClaim_10 (by decide) ?_
    refine AW.istn2 15 dX4_readClaim_14 (by decide) rfl rfl ?_
    exact fin
  · skip
    intro a r p
    rw [← pp_pass_no p] at r
    have fin := C15 M1 a r (nI 0) (fun x hx => by rw [p]; exact pw_b_0 hx)
    refine AW.if_eq 9 13 dX4_readClaim_6 (by decide) rfl (fun _ => ?_) (fun h => absurd h (by decide))
    refine AW.iconst 14 (nI 0) dX4_readClaim_13 (by decide) rfl ?_
    refine AW.istn2 15 dX4_readClaim_14 (by decide) rfl rfl ?_
    exact fin
end CLAIM
