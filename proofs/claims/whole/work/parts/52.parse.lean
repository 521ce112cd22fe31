/-! THE PARSER as pure functions over a tape of n signs: states are (failed, place); what a test says is a set of moments (word 4 act + state, bit 2 sight + lot). -/
abbrev pS : Type := Bool × Nat
abbrev pB : Type := Nat → Nat → Bool
def pp_tok (tp : Nat → Nat) (n : Nat) : Prop := n ≤ 120 ∧ ∀ i, i < n → 32 ≤ tp i ∧ tp i ≤ 126
def pp_skq (tp : Nat → Nat) : Nat → Nat → Nat
  | 0, p => p
  | q + 1, p => if tp p = 32 then pp_skq tp q (p + 1) else p
def pp_sk (tp : Nat → Nat) (n p : Nat) : Nat := pp_skq tp (n - p) p
def pp_cu (tp : Nat → Nat) (n p : Nat) : Nat := if pp_sk tp n p < n then tp (pp_sk tp n p) else 0
def pp_cv (tp : Nat → Nat) (n p : Nat) : Int32 := if pp_sk tp n p < n then nI (tp (pp_sk tp n p)) else -4
def pp_pass (tp : Nat → Nat) (n c : Nat) (s : pS) : Bool × pS := if s.1 = true then (false, s) else if pp_cu tp n s.2 = c then (true, (false, pp_sk tp n s.2 + 1)) else (false, (false, pp_sk tp n s.2))
def pp_dig (tp : Nat → Nat) (n : Nat) (s : pS) : Nat × pS := if s.1 = true then (0, s) else if 48 ≤ pp_cu tp n s.2 ∧ pp_cu tp n s.2 ≤ 51 then (pp_cu tp n s.2 - 48, (false, pp_sk tp n s.2 + 1)) else (0, (true, pp_sk tp n s.2))
def pp_nrm (tp : Nat → Nat) (n : Nat) (s : pS) : pS := if s.1 = true then s else (false, pp_sk tp n s.2)
def pp_need (tp : Nat → Nat) (n c : Nat) (s : pS) : pS := if (pp_pass tp n c s).1 = true then (pp_pass tp n c s).2 else (true, (pp_nrm tp n s).2)
def pp_end (tp : Nat → Nat) (n : Nat) (s : pS) : pS := if s.1 = true then s else (decide (pp_sk tp n s.2 < n), pp_sk tp n s.2)
def pp_atom (tp : Nat → Nat) (n : Nat) (du : Bool) (sub : Option (pS → pS × pB)) (s : pS) : pS × pB :=
  if (pp_pass tp n 102 s).1 = true then ((pp_dig tp n (pp_pass tp n 102 s).2).2, fun _ x => x.testBit ((pp_dig tp n (pp_pass tp n 102 s).2).1 + 1))
  else if (pp_pass tp n 115 s).1 = true then ((pp_dig tp n (pp_pass tp n 115 s).2).2, fun i _ => decide (i % 4 = (pp_dig tp n (pp_pass tp n 115 s).2).1))
  else if (pp_pass tp n 108 s).1 = true then ((pp_pass tp n 108 s).2, fun _ x => x.testBit 0)
  else if (pp_pass tp n 42 s).1 = true then ((pp_pass tp n 42 s).2, fun _ _ => true)
  else if du = true ∧ (pp_pass tp n 97 s).1 = true then ((pp_dig tp n (pp_pass tp n 97 s).2).2, fun i _ => decide (i / 4 = (pp_dig tp n (pp_pass tp n 97 s).2).1))
  else match sub with
    | some t => if (pp_pass tp n 40 s).1 = true then (pp_need tp n 41 (t (pp_pass tp n 40 s).2).1, (t (pp_pass tp n 40 s).2).2) else ((true, (pp_nrm tp n s).2), fun _ _ => false)
    | none => ((true, (pp_nrm tp n s).2), fun _ _ => false)
def pp_cl (tp : Nat → Nat) (n : Nat) (du : Bool) (sub : Option (pS → pS × pB)) (s : pS) : pS × pB :=
  ((pp_atom tp n du sub (pp_pass tp n 33 s).2).1, fun i x => (pp_atom tp n du sub (pp_pass tp n 33 s).2).2 i x != (pp_pass tp n 33 s).1)
def pp_case (tp : Nat → Nat) (n : Nat) (cl : pS → pS × pB) : Nat → pS → pB → pS × pB
  | 0, s, A => (s, A)
  | f + 1, s, A => if (pp_pass tp n 38 (cl s).1).1 = true then pp_case tp n cl f (pp_pass tp n 38 (cl s).1).2 (fun i x => A i x && (cl s).2 i x) else ((pp_pass tp n 38 (cl s).1).2, fun i x => A i x && (cl s).2 i x)
def pp_test (tp : Nat → Nat) (n : Nat) (cl : pS → pS × pB) : Nat → pS → pB → pS × pB
  | 0, s, A => (s, A)
  | f + 1, s, A => if (pp_pass tp n 124 (pp_case tp n cl 120 s (fun _ _ => true)).1).1 = true then pp_test tp n cl f (pp_pass tp n 124 (pp_case tp n cl 120 s (fun _ _ => true)).1).2 (fun i x => A i x || (pp_case tp n cl 120 s (fun _ _ => true)).2 i x)
    else ((pp_pass tp n 124 (pp_case tp n cl 120 s (fun _ _ => true)).1).2, fun i x => A i x || (pp_case tp n cl 120 s (fun _ _ => true)).2 i x)
def pp_claim (tp : Nat → Nat) (n : Nat) (du : Bool) : Nat → pS → pS × pB
  | 0, s => pp_cl tp n du none s
  | k + 1, s => pp_cl tp n du (some (fun s => pp_test tp n (pp_claim tp n du k) 120 s (fun _ _ => false))) s
abbrev pp_T (tp : Nat → Nat) (n : Nat) (du : Bool) (k : Nat) (s : pS) : pS × pB := pp_test tp n (pp_claim tp n du k) 120 s (fun _ _ => false)
section PURE
variable {tp : Nat → Nat} {n : Nat}
theorem pp_skq_le : ∀ q p, p ≤ pp_skq tp q p ∧ pp_skq tp q p ≤ p + q
  | 0, p => ⟨Nat.le_refl _, Nat.le_refl _⟩
  | q + 1, p => by
    have := pp_skq_le q (p + 1)
    unfold pp_skq
    split <;> omega
theorem pp_sk_le {p : Nat} (h : p ≤ n) : p ≤ pp_sk tp n p ∧ pp_sk tp n p ≤ n := by
  have := pp_skq_le (tp := tp) (n - p) p
  unfold pp_sk; omega
theorem pp_sk_32 {p : Nat} (h : p < n) (ht : tp p = 32) : pp_sk tp n p = pp_sk tp n (p + 1) := by
  unfold pp_sk
  rw [show n - p = (n - (p + 1)) + 1 by omega]
  show (if tp p = 32 then _ else _) = _
  rw [if_pos ht]
theorem pp_sk_no {p : Nat} (h : p < n) (ht : ¬ tp p = 32) : pp_sk tp n p = p := by
  unfold pp_sk
  rw [show n - p = (n - (p + 1)) + 1 by omega]
  show (if tp p = 32 then _ else _) = _
  rw [if_neg ht]
theorem pp_sk_n {p : Nat} (h : n ≤ p) : pp_sk tp n p = p := by
  unfold pp_sk
  rw [show n - p = 0 by omega]
  rfl
theorem pp_skq_stop : ∀ q p, pp_skq tp q p < p + q → ¬ tp (pp_skq tp q p) = 32
  | 0, p, h => absurd h (Nat.lt_irrefl _)
  | q + 1, p, h => by
    unfold pp_skq at h ⊢
    by_cases e : tp p = 32
    · rw [if_pos e] at h ⊢; exact pp_skq_stop q (p + 1) (by omega)
    · rw [if_neg e]; exact e
theorem pp_sk_sk {p : Nat} (h : p ≤ n) : pp_sk tp n (pp_sk tp n p) = pp_sk tp n p := by
  have h1 := pp_sk_le (tp := tp) h
  rcases Nat.lt_or_ge (pp_sk tp n p) n with h2 | h2
  · exact pp_sk_no h2 (pp_skq_stop (n - p) p (by unfold pp_sk at h2; omega))
  · exact pp_sk_n h2
theorem pp_cu_sk {p : Nat} (h : p ≤ n) : pp_cu tp n (pp_sk tp n p) = pp_cu tp n p := by unfold pp_cu; rw [pp_sk_sk h]
theorem pp_cu_pos {p : Nat} (h : 0 < pp_cu tp n p) : pp_sk tp n p < n := by
  unfold pp_cu at h
  split at h
  · assumption
  · exact absurd h (by omega)
theorem pp_pass_f {c : Nat} {s : pS} (h : s.1 = true) : pp_pass tp n c s = (false, s) := by unfold pp_pass; rw [if_pos h]
theorem pp_dig_f {s : pS} (h : s.1 = true) : pp_dig tp n s = (0, s) := by unfold pp_dig; rw [if_pos h]
theorem pp_nrm_f {s : pS} (h : s.1 = true) : pp_nrm tp n s = s := by unfold pp_nrm; rw [if_pos h]
theorem pp_eta {s : pS} (h : s.1 = true) : (true, s.2) = s := by rw [← h]
theorem pp_need_f {c : Nat} {s : pS} (h : s.1 = true) : pp_need tp n c s = s := by
  unfold pp_need; rw [pp_pass_f h, if_neg Bool.false_ne_true, pp_nrm_f h]; exact pp_eta h
theorem pp_pass_no {c : Nat} {s : pS} (h : (pp_pass tp n c s).1 = false) : (pp_pass tp n c s).2 = pp_nrm tp n s := by
  unfold pp_pass pp_nrm at *
  split
  · rfl
  · split
    · rename_i h1 h2; rw [if_neg h1, if_pos h2] at h; cases h
    · rfl
theorem pp_pass_yes {c : Nat} {s : pS} (h : (pp_pass tp n c s).1 = true) : s.1 = false ∧ pp_cu tp n s.2 = c ∧ (pp_pass tp n c s).2 = (false, pp_sk tp n s.2 + 1) := by
  unfold pp_pass at *
  by_cases h1 : s.1 = true
  · rw [if_pos h1] at h; cases h
  · by_cases h2 : pp_cu tp n s.2 = c
    · rw [if_neg h1, if_pos h2]; exact ⟨by cases h3 : s.1 <;> simp_all, h2, rfl⟩
    · rw [if_neg h1, if_neg h2] at h; cases h
theorem pp_pass_nrm {c : Nat} {s : pS} (hn : s.2 ≤ n) : pp_pass tp n c (pp_nrm tp n s) = pp_pass tp n c s := by
  by_cases h : s.1 = true
  · rw [pp_nrm_f h]
  · unfold pp_pass pp_nrm
    rw [if_neg h]
    simp only [Bool.false_eq_true, if_false, if_neg h, pp_cu_sk hn, pp_sk_sk hn]
theorem pp_nrm_nrm {s : pS} (hn : s.2 ≤ n) : pp_nrm tp n (pp_nrm tp n s) = pp_nrm tp n s := by
  by_cases h : s.1 = true
  · rw [pp_nrm_f h, pp_nrm_f h]
  · unfold pp_nrm
    rw [if_neg h]
    simp only [Bool.false_eq_true, if_false, pp_sk_sk hn]
theorem pp_nrm_le {s : pS} (hn : s.2 ≤ n) : (pp_nrm tp n s).2 ≤ n ∧ s.2 ≤ (pp_nrm tp n s).2 ∧ (pp_nrm tp n s).1 = s.1 := by
  unfold pp_nrm
  have := pp_sk_le (tp := tp) hn
  split
  · exact ⟨hn, Nat.le_refl _, rfl⟩
  · rename_i h
    exact ⟨this.2, this.1, by cases h3 : s.1 <;> simp_all⟩
theorem pp_pass_le {c : Nat} (hc : 0 < c) {s : pS} (hn : s.2 ≤ n) : (pp_pass tp n c s).2.2 ≤ n ∧ s.2 ≤ (pp_pass tp n c s).2.2 ∧ (pp_pass tp n c s).2.1 = s.1 ∧ ((pp_pass tp n c s).1 = true → s.2 < (pp_pass tp n c s).2.2) := by
  have h0 := pp_sk_le (tp := tp) hn
  cases h : (pp_pass tp n c s).1 with
  | true =>
    obtain ⟨a, b, e⟩ := pp_pass_yes h
    have h1 := pp_cu_pos (tp := tp) (n := n) (p := s.2) (by omega)
    rw [e]
    exact ⟨h1, by show s.2 ≤ pp_sk tp n s.2 + 1; omega, a.symm, fun _ => by show s.2 < pp_sk tp n s.2 + 1; omega⟩
  | false =>
    rw [pp_pass_no h]
    have := pp_nrm_le (tp := tp) hn
    exact ⟨this.1, this.2.1, this.2.2, fun h => absurd h (by decide)⟩
theorem pp_dig_le {s : pS} (hn : s.2 ≤ n) : (pp_dig tp n s).2.2 ≤ n ∧ s.2 ≤ (pp_dig tp n s).2.2 ∧ (pp_dig tp n s).1 < 4 ∧ ((pp_dig tp n s).2.1 = false → s.1 = false) := by
  have h0 := pp_sk_le (tp := tp) hn
  unfold pp_dig
  split
  · exact ⟨hn, Nat.le_refl _, by show (0 : Nat) < 4; decide, fun h => h⟩
  · rename_i h3
    have h4 : s.1 = false := by cases h5 : s.1 <;> simp_all
    split
    · rename_i h2
      have h5 := pp_cu_pos (tp := tp) (n := n) (p := s.2) (by omega)
      exact ⟨h5, by show s.2 ≤ pp_sk tp n s.2 + 1; omega, by show pp_cu tp n s.2 - 48 < 4; omega, fun _ => h4⟩
    · exact ⟨h0.2, h0.1, by show (0 : Nat) < 4; decide, fun _ => h4⟩
theorem pp_need_le {c : Nat} (hc : 0 < c) {s : pS} (hn : s.2 ≤ n) : (pp_need tp n c s).2 ≤ n ∧ s.2 ≤ (pp_need tp n c s).2 ∧ ((pp_need tp n c s).1 = false → s.1 = false) := by
  unfold pp_need
  have h1 := pp_pass_le (tp := tp) hc hn
  have h2 := pp_nrm_le (tp := tp) hn
  split
  · exact ⟨h1.1, h1.2.1, fun h => h1.2.2.1.symm.trans h⟩
  · exact ⟨h2.1, h2.2.1, fun h => Bool.noConfusion (show true = false from h)⟩
/-- a stage of the parser: failed states stay; places stay on the tape and go on -/
def pp_good (n : Nat) (f : pS → pS × pB) : Prop := (∀ s : pS, s.1 = true → (f s).1 = s) ∧ ∀ s : pS, s.2 ≤ n → (f s).1.2 ≤ n ∧ s.2 ≤ (f s).1.2 ∧ (s.1 = false → (f s).1.1 = false → s.2 < (f s).1.2)
theorem pp_good.nf {f : pS → pS × pB} (h : pp_good n f) {s : pS} (hs : (f s).1.1 = false) : s.1 = false := by
  cases e : s.1 with
  | false => rfl
  | true => rw [h.1 s e, e] at hs; exact hs
theorem pp_atom_good (du : Bool) {sub : Option (pS → pS × pB)} (hs : ∀ t, sub = some t → pp_good n t) : pp_good n (pp_atom tp n du sub) := by
  constructor
  · intro s h
    unfold pp_atom
    simp only [pp_pass_f h, pp_nrm_f h, Bool.false_eq_true, if_false, and_false]
    cases sub with
    | none => exact pp_eta h
    | some t => exact pp_eta h
  · intro s hn
    have h1 := fun c (hc : 0 < c) => pp_pass_le (tp := tp) (c := c) hc hn
    have h2 := fun c (hc : 0 < c) => pp_dig_le (tp := tp) (h1 c hc).1
    have h3 := pp_nrm_le (tp := tp) hn
    unfold pp_atom
    split
    · rename_i e
      have a := h1 102 (by decide); have b := h2 102 (by decide); have c := a.2.2.2 e
      exact ⟨b.1, by dsimp only; omega, fun _ _ => by dsimp only; omega⟩
    · split
      · rename_i e
        have a := h1 115 (by decide); have b := h2 115 (by decide); have c := a.2.2.2 e
        exact ⟨b.1, by dsimp only; omega, fun _ _ => by dsimp only; omega⟩
      · split
        · rename_i e
          have a := h1 108 (by decide); have c := a.2.2.2 e
          exact ⟨a.1, a.2.1, fun _ _ => c⟩
        · split
          · rename_i e
            have a := h1 42 (by decide); have c := a.2.2.2 e
            exact ⟨a.1, a.2.1, fun _ _ => c⟩
          · split
            · rename_i e
              have a := h1 97 (by decide); have b := h2 97 (by decide); have c := a.2.2.2 e.2
              exact ⟨b.1, by dsimp only; omega, fun _ _ => by dsimp only; omega⟩
            · cases sub with
              | none => exact ⟨h3.1, h3.2.1, fun _ h => Bool.noConfusion (show true = false from h)⟩
              | some t =>
                dsimp only
                split
                · rename_i e
                  have a := h1 40 (by decide); have c := a.2.2.2 e
                  have g := (hs t rfl).2 _ a.1
                  have k := pp_need_le (tp := tp) (c := 41) (by decide) g.1
                  exact ⟨k.1, by dsimp only; omega, fun _ _ => by dsimp only; omega⟩
                · exact ⟨h3.1, h3.2.1, fun _ h => Bool.noConfusion (show true = false from h)⟩
theorem pp_cl_good (du : Bool) {sub : Option (pS → pS × pB)} (hs : ∀ t, sub = some t → pp_good n t) : pp_good n (pp_cl tp n du sub) := by
  have hA := pp_atom_good (tp := tp) du hs
  constructor
  · intro s h
    unfold pp_cl
    rw [pp_pass_f h]
    exact hA.1 s h
  · intro s hn
    have h1 := pp_pass_le (tp := tp) (c := 33) (by decide) hn
    have h2 := hA.2 _ h1.1
    unfold pp_cl
    refine ⟨h2.1, by dsimp only; omega, fun a b => ?_⟩
    have := h2.2.2 (h1.2.2.1.trans a) b
    dsimp only; omega
theorem pp_case_good {cl : pS → pS × pB} (hc : pp_good n cl) : ∀ (f : Nat) (A : pB), (∀ s : pS, s.1 = true → (pp_case tp n cl f s A).1 = s) ∧ ∀ s : pS, s.2 ≤ n → (pp_case tp n cl f s A).1.2 ≤ n ∧ s.2 ≤ (pp_case tp n cl f s A).1.2 ∧ (0 < f → s.1 = false → (pp_case tp n cl f s A).1.1 = false → s.2 < (pp_case tp n cl f s A).1.2)
  | 0, A => ⟨fun s _ => rfl, fun s hn => ⟨hn, Nat.le_refl _, fun h => absurd h (by decide)⟩⟩
  | f + 1, A => by
    constructor
    · intro s h
      unfold pp_case
      rw [hc.1 s h, pp_pass_f h, if_neg Bool.false_ne_true]
    · intro s hn
      have h1 := hc.2 s hn
      have h2 := pp_pass_le (tp := tp) (c := 38) (by decide) h1.1
      unfold pp_case
      split
      · rename_i e
        have h3 := (pp_case_good hc f (fun i x => A i x && (cl s).2 i x)).2 _ h2.1
        refine ⟨h3.1, by omega, fun _ a b => ?_⟩
        have := h2.2.2.2 e
        omega
      · refine ⟨h2.1, by dsimp only; omega, fun _ a b => ?_⟩
        have b' : (cl s).1.1 = false := h2.2.2.1.symm.trans b
        have := h1.2.2 a b'
        dsimp only; omega
theorem pp_test_good {cl : pS → pS × pB} (hc : pp_good n cl) : ∀ (f : Nat) (A : pB), (∀ s : pS, s.1 = true → (pp_test tp n cl f s A).1 = s) ∧ ∀ s : pS, s.2 ≤ n → (pp_test tp n cl f s A).1.2 ≤ n ∧ s.2 ≤ (pp_test tp n cl f s A).1.2 ∧ (0 < f → s.1 = false → (pp_test tp n cl f s A).1.1 = false → s.2 < (pp_test tp n cl f s A).1.2)
  | 0, A => ⟨fun s _ => rfl, fun s hn => ⟨hn, Nat.le_refl _, fun h => absurd h (by decide)⟩⟩
  | f + 1, A => by
    have hk := pp_case_good (tp := tp) hc 120 (fun _ _ => true)
    constructor
    · intro s h
      unfold pp_test
      rw [hk.1 s h, pp_pass_f h, if_neg Bool.false_ne_true]
    · intro s hn
      have h1 := hk.2 s hn
      have h2 := pp_pass_le (tp := tp) (c := 124) (by decide) h1.1
      unfold pp_test
      split
      · rename_i e
        have h3 := (pp_test_good hc f (fun i x => A i x || (pp_case tp n cl 120 s (fun _ _ => true)).2 i x)).2 _ h2.1
        refine ⟨h3.1, by omega, fun _ a b => ?_⟩
        have := h2.2.2.2 e
        omega
      · refine ⟨h2.1, by dsimp only; omega, fun _ a b => ?_⟩
        have b' : (pp_case tp n cl 120 s (fun _ _ => true)).1.1 = false := h2.2.2.1.symm.trans b
        have := h1.2.2 (by decide) a b'
        dsimp only; omega
theorem pp_claim_good (du : Bool) : ∀ k, pp_good n (pp_claim tp n du k)
  | 0 => pp_cl_good du (fun t h => by cases h)
  | k + 1 => pp_cl_good du (fun t h => by
    cases h
    have := pp_test_good (tp := tp) (pp_claim_good du k) 120 (fun _ _ => false)
    exact ⟨this.1, fun s hn => ⟨(this.2 s hn).1, (this.2 s hn).2.1, (this.2 s hn).2.2 (by decide)⟩⟩)
theorem pp_T_good (du : Bool) (k : Nat) : pp_good n (pp_T tp n du k) := by
  have := pp_test_good (tp := tp) (pp_claim_good (tp := tp) (n := n) du k) 120 (fun _ _ => false)
  exact ⟨this.1, fun s hn => ⟨(this.2 s hn).1, (this.2 s hn).2.1, (this.2 s hn).2.2 (by decide)⟩⟩
theorem pp_cv_eq (ht : pp_tok tp n) {p c : Nat} (hc : 0 < c) : (pp_cv tp n p).toInt = (c : Int) ↔ pp_cu tp n p = c := by
  unfold pp_cv pp_cu
  split
  · rename_i h
    have := (ht.2 _ h).2
    rw [z_ti (by omega)]; omega
  · rw [z_m4]; omega
theorem pp_cv_ge (ht : pp_tok tp n) {p : Nat} : 0 ≤ (pp_cv tp n p).toInt ↔ pp_sk tp n p < n := by
  unfold pp_cv
  split
  · rename_i h
    have := (ht.2 _ h).2
    rw [z_ti (by omega)]
    exact ⟨fun _ => h, fun _ => by omega⟩
  · rename_i h
    rw [z_m4]
    exact ⟨fun h => absurd h (by omega), fun h' => absurd h' h⟩
theorem pp_dv0 : ∀ t, t < 127 → (¬ ((nI t - nI 48).toInt < 0 ∨ 3 < (nI t - nI 48).toInt) ↔ (48 ≤ t ∧ t ≤ 51)) ∧ (48 ≤ t → nI t - nI 48 = nI (t - 48)) := by decide +kernel
theorem pp_dv_iff (ht : pp_tok tp n) {p : Nat} : ¬ ((pp_cv tp n p - nI 48).toInt < 0 ∨ 3 < (pp_cv tp n p - nI 48).toInt) ↔ (48 ≤ pp_cu tp n p ∧ pp_cu tp n p ≤ 51) := by
  unfold pp_cv pp_cu
  split
  · rename_i h
    exact (pp_dv0 _ (by have := (ht.2 _ h).2; omega)).1
  · decide
theorem pp_dv_eq (ht : pp_tok tp n) {p : Nat} (h : 48 ≤ pp_cu tp n p ∧ pp_cu tp n p ≤ 51) : pp_cv tp n p - nI 48 = nI (pp_cu tp n p - 48) := by
  have h5 := pp_cu_pos (tp := tp) (n := n) (p := p) (by omega)
  unfold pp_cv
  unfold pp_cu at h ⊢
  rw [if_pos h5] at h ⊢
  rw [if_pos h5]
  exact (pp_dv0 _ (by omega)).2 h.1
end PURE
