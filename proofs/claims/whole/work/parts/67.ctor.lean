theorem z_mnaS : "[" ++ (FieldType.array .int).toString = "[[I" := by decide +kernel
theorem nL_7 : z_nwB R_law 7 9 = true := by decide +kernel
theorem nL_10 : z_nwB R_law 10 10 = true := by decide +kernel
theorem nX9_7 : z_nwB RX9 7 6 = true := by decide +kernel
theorem nX9_16 : z_nwB RX9 16 4 = true := by decide +kernel
theorem nX9_25 : z_nwB RX9 25 2 = true := by decide +kernel
theorem nX9_36 : z_nwB RX9 36 8 = true := by decide +kernel
theorem nX9_43 : z_nwB RX9 43 3 = true := by decide +kernel
theorem nX9_50 : z_nwB RX9 50 0 = true := by decide +kernel
theorem nX9_57 : z_nwB RX9 57 1 = true := by decide +kernel
theorem nX9_64 : z_nwB RX9 64 7 = true := by decide +kernel
theorem nX9_82 : z_nwB RX9 82 5 = true := by decide +kernel
/-- two pictures of the same cells -/
def z_len (t : Nat × Nat) : Nat := if t.1 < 11 then z_n t.1 else t.2
def z_irf (t : Nat × Nat) (j : Nat) : Bool := if t.1 < 11 then z_rf t.1 j else !(Nat.blt t.1 13)
def z_sim (S : zS) (M : zM) (S' : zS) (M' : zM) : Prop := S.1 = S'.1 ∧ ∀ k, k < S.1 → S.2.1 k = S'.2.1 k ∧ ∀ j, j < z_len (S.2.1 k) → (z_irf (S.2.1 k) j = true → S.2.2 k j = S'.2.2 k j) ∧ (z_irf (S.2.1 k) j = false → M k j = M' k j)
theorem z_arrV {c : ClassId} {n : Nat} {f f' : Nat → Value} (h : ∀ j, j < n → f j = f' j) : arrV c n f = arrV c n f' := by
  unfold arrV
  congr 1
  apply Array.ext
  · simp
  · intro i h1 h2
    simp only [Array.getElem_ofFn]
    exact h i (by simpa using h1)
theorem z_sim_at {D : va_G} {cl : List vw_C} {H : Heap} {g : zG} {S S' : zS} {M M' : zM} (h : z_sim S M S' M') {k : Nat} (hk : k < S.1) (ha : va_at D cl (gB g + k, z_cell g S M k) H) : va_at D cl (gB g + k, z_cell g S' M' k) H := by
  obtain ⟨e1, e2⟩ := h.2 k hk
  unfold z_cell at ha ⊢
  rw [← e1]
  by_cases h1 : (S.2.1 k).1 < 11
  · rw [if_pos h1] at ha ⊢
    have e : (List.range (z_n (S.2.1 k).1)).map (fun j => if z_rf (S.2.1 k).1 j then va_rf ((S'.2.2 k j).map (z_ad g)) else Value.int (M' k j)) = (List.range (z_n (S.2.1 k).1)).map (fun j => if z_rf (S.2.1 k).1 j then va_rf ((S.2.2 k j).map (z_ad g)) else Value.int (M k j)) := by
      apply List.map_congr_left
      intro j hj
      have hj := List.mem_range.mp hj
      have e3 := e2 j (by unfold z_len; rw [if_pos h1]; exact hj)
      unfold z_irf at e3
      rw [if_pos h1] at e3
      cases hr : z_rf (S.2.1 k).1 j with
      | true => rw [if_pos rfl, if_pos rfl, (e3.1 hr)]
      | false => rw [if_neg Bool.false_ne_true, if_neg Bool.false_ne_true, (e3.2 hr)]
    rw [e]; exact ha
  · rw [if_neg h1] at ha ⊢
    have hl : z_len (S.2.1 k) = (S.2.1 k).2 := by unfold z_len; rw [if_neg h1]
    have hi : ∀ j, z_irf (S.2.1 k) j = !(Nat.blt (S.2.1 k).1 13) := fun j => by unfold z_irf; rw [if_neg h1]
    by_cases h2 : (S.2.1 k).1 < 13
    · rw [if_pos h2] at ha ⊢
      have hb : Nat.blt (S.2.1 k).1 13 = true := by rw [Nat.blt_eq]; exact h2
      have e : vp_cell (gY g (S.2.1 k).1) ((S.2.1 k).2, .inl (M' k)) = vp_cell (gY g (S.2.1 k).1) ((S.2.1 k).2, .inl (M k)) := by
        rw [vp_cell_i, vp_cell_i]
        exact z_arrV (fun j hj => by rw [(e2 j (by rw [hl]; exact hj)).2 (by rw [hi, hb]; rfl)])
      show H[gB g + k]? = some (vp_cell (gY g (S.2.1 k).1) ((S.2.1 k).2, .inl (M' k)))
      rw [e]; exact ha
    · rw [if_neg h2] at ha ⊢
      have hb : Nat.blt (S.2.1 k).1 13 = false := by
        cases e : Nat.blt (S.2.1 k).1 13 with
        | false => rfl
        | true => rw [Nat.blt_eq] at e; exact absurd e h2
      have e : vp_cell (gY g (S.2.1 k).1) ((S.2.1 k).2, .inr (.inr (.inr (.inr (fun j => (S'.2.2 k j).map (z_ad g)))))) = vp_cell (gY g (S.2.1 k).1) ((S.2.1 k).2, .inr (.inr (.inr (.inr (fun j => (S.2.2 k j).map (z_ad g)))))) := by
        show arrV _ _ (fun j => va_rf ((S'.2.2 k j).map (z_ad g))) = arrV _ _ (fun j => va_rf ((S.2.2 k j).map (z_ad g)))
        exact z_arrV (fun j hj => by rw [(e2 j (by rw [hl]; exact hj)).1 (by rw [hi, hb]; rfl)])
      show H[gB g + k]? = some (vp_cell (gY g (S.2.1 k).1) ((S.2.1 k).2, .inr (.inr (.inr (.inr (fun j => (S'.2.2 k j).map (z_ad g)))))))
      rw [e]; exact ha
def z_simB (S : zS) (M : zM) (S' : zS) (M' : zM) : Bool := Nat.beq S.1 S'.1 && (List.range S.1).all (fun k => decide (S.2.1 k = S'.2.1 k) && (List.range (z_len (S.2.1 k))).all (fun j => if z_irf (S.2.1 k) j then decide (S.2.2 k j = S'.2.2 k j) else decide (M k j = M' k j)))
theorem z_sim_of {S S' : zS} {M M' : zM} (h : z_simB S M S' M' = true) : z_sim S M S' M' := by
  unfold z_simB at h
  rw [Bool.and_eq_true, List.all_eq_true] at h
  refine ⟨Nat.eq_of_beq_eq_true h.1, fun k hk => ?_⟩
  have h2 := h.2 k (List.mem_range.mpr hk)
  rw [Bool.and_eq_true, decide_eq_true_eq, List.all_eq_true] at h2
  refine ⟨h2.1, fun j hj => ?_⟩
  have h3 := h2.2 j (List.mem_range.mpr hj)
  refine ⟨fun hr => ?_, fun hr => ?_⟩
  · rw [if_pos hr, decide_eq_true_eq] at h3; exact h3
  · rw [if_neg (by rw [hr]; exact Bool.false_ne_true), decide_eq_true_eq] at h3; exact h3
section CTOR
variable {l : Launch} {g : zG} {own : String} {cc : ByteArray} {nL : Nat} {rt : Option FieldType} {ini : Bool} {d bc bs pc : Nat} {ls : List (Option Value)} {st : List Value} {S S' : zS} {M M' : zM} {Q : Option Value → zS → zM → Prop}
theorem AW.sim (h : z_sim S M S' M') (k : AW l g own cc nL rt ini d bc bs pc ls st S' M' Q) : AW l g own cc nL rt ini d bc bs pc ls st S M Q := by
  intro p e R s m args below meth c H locs cells slots mc ms hx hb hr hml hown hlk hin hA h1 h2 h3 h4 h5 h6 h7 h8 h9 hP hS la hl
  have e1 := h.1
  exact k p e R s m args below meth c H locs cells slots mc ms hx hb hr hml hown hlk hin hA h1 h2 h3 h4 h5 h6 (by rw [← e1]; exact h7) (by rw [← e1]; exact h8) (by rw [← e1]; exact h9) (z_P_of (fun i hi => z_sim_at h (by rw [e1]; exact hi) (z_P_at hP (by rw [e1]; exact hi)))) hS la hl
theorem AW.cI0 (pc' bc' bs' : Nat) {ix n2 b2 s2 k : Nat} {y : MethodName} {c2 : ByteArray} (hd : decode cc pc = .ok (.invokespecial ix, 3)) (hw : z_ciB own ix y c2 n2 0 = true) (hk : Nat.blt k S.1 = true) (hcat : (st.map fun v => v.category).sum ≤ 8) (hp : pc + 3 = pc') (hbc : bc = b2 + bc') (hbs : bs = s2 + bs')
    (hM : AMet l g y c2 n2 none d b2 s2 [.ref k] S M (z_Qv fun S' M' => AW l g own cc nL rt ini (d + 1) bc' bs' pc' ls st S' M' Q)) : AW l g own cc nL rt ini (d + 1) bc bs pc ls (.ref k :: st) S M Q := by
  subst hp; subst hbc; subst hbs
  exact AW.invI (av := []) hd hw (by rw [Nat.blt_eq] at hk; exact hk) rfl rfl hcat hM (fun v S' M' h => by obtain ⟨rfl, h⟩ := h; exact h)
theorem AW.cIN0 (pc' bc' bs' : Nat) {ix n2 b2 s2 k : Nat} {y : MethodName} {c2 : ByteArray} (hd : decode cc pc = .ok (.invokespecial ix, 3)) (hw : z_ciNB own ix y c2 n2 0 = true) (hk : Nat.blt k S.1 = true) (hcat : (st.map fun v => v.category).sum ≤ 8) (hp : pc + 3 = pc') (hbc : bc = b2 + bc') (hbs : bs = s2 + bs')
    (hM : AMet l g y c2 n2 none d b2 s2 [.ref k] S M (z_Qv fun S' M' => AW l g own cc nL rt ini (d + 1) bc' bs' pc' ls st S' M' Q)) : AW l g own cc nL rt ini (d + 1) bc bs pc ls (.ref k :: st) S M Q := by
  subst hp; subst hbc; subst hbs
  exact AW.invIN (av := []) hd hw (by rw [Nat.blt_eq] at hk; exact hk) rfl rfl hcat hM (fun v S' M' h => by obtain ⟨rfl, h⟩ := h; exact h)
theorem AW.cI1 (pc' bc' bs' : Nat) {ix n2 b2 s2 k : Nat} {y : MethodName} {c2 : ByteArray} {a1 : Value} (hd : decode cc pc = .ok (.invokespecial ix, 3)) (hw : z_ciB own ix y c2 n2 1 = true) (hk : Nat.blt k S.1 = true) (hcat : (st.map fun v => v.category).sum ≤ 8) (hp : pc + 3 = pc') (hbc : bc = b2 + bc') (hbs : bs = s2 + bs')
    (hM : AMet l g y c2 n2 none d b2 s2 [.ref k, a1] S M (z_Qv fun S' M' => AW l g own cc nL rt ini (d + 1) bc' bs' pc' ls st S' M' Q)) : AW l g own cc nL rt ini (d + 1) bc bs pc ls (a1 :: .ref k :: st) S M Q := by
  subst hp; subst hbc; subst hbs
  exact AW.invI (av := [a1]) hd hw (by rw [Nat.blt_eq] at hk; exact hk) rfl rfl hcat hM (fun v S' M' h => by obtain ⟨rfl, h⟩ := h; exact h)
end CTOR
theorem z_blt {a b : Nat} (h : a < b) : Nat.blt a b = true := by rw [Nat.blt_eq]; exact h
theorem z_tlb {a b : Nat} (h : Nat.blt a b = true) : a < b := by rw [Nat.blt_eq] at h; exact h
theorem z_is.nw {S : zS} {k t t' n : Nat} (h : z_is S k t) : z_is (z_nw S t' n) k t := ⟨z_blt (Nat.lt_succ_of_lt (z_tlb h.1)), by
  show (va_up S.2.1 S.1 (t', n) k).1 = t
  rw [va_up_ne _ _ (Nat.ne_of_lt (z_tlb h.1))]; exact h.2⟩
theorem z_is.sR {S : zS} {k t a b c : Nat} (h : z_is S k t) : z_is (z_sR S a b c) k t := h
theorem z_is.mS {S : zS} {k t N L : Nat} (h : z_is S k t) : z_is (z_mS S N L) k t := by
  have h1 := z_tlb h.1
  refine ⟨z_blt (by show k < S.1 + 1 + N; omega), ?_⟩
  show (if k = S.1 then (16, N) else if S.1 < k ∧ k < S.1 + 1 + N then (11, L) else S.2.1 k).1 = t
  rw [if_neg (by omega), if_neg (by omega)]; exact h.2
/-- a new row put into a field -/
def z_fa (S : zS) (k j t n : Nat) : zS := z_sR (z_nw S t n) k j S.1
def z_fm (S : zS) (k j N L : Nat) : zS := z_sR (z_mS S N L) k j S.1
theorem z_is.fa {S : zS} {k t a j t' n : Nat} (h : z_is S k t) : z_is (z_fa S a j t' n) k t := h.nw.sR
theorem z_is.fm {S : zS} {k t a j N L : Nat} (h : z_is S k t) : z_is (z_fm S a j N L) k t := h.mS.sR
section SUBS
variable {l : Launch} {g : zG} {d : Nat} {S : zS} {M : zM} {k : Nat}
theorem C_X0_init (hk : z_is S k 0) (hS : S.1 < 800000) {Q : zS → zM → Prop} (hQ : Q (z_fm S k 0 4 48) (z_st (z_mM S M 4) k 1 (nI 0))) : AMet l g yX0_init cX0_init 1 none (d + 1) 5 196 [.ref k] S M (z_Qv Q) := by
  refine AMet.of (ini := true) rfl (fun h => by first | rfl | cases h) (Nat.le_of_ble_eq_true rfl) ?_
  show AW l g RX0 cX0_init 1 none true _ _ _ 0 [some (.ref k)] [] _ _ _
  refine AW.aload_n 1 dX0_init_0 rfl rfl ?_
  refine AW.objI 4 dX0_init_1 qX0_3 (Nat.le_of_ble_eq_true rfl) rfl ?_
  refine AW.aload_n 5 dX0_init_4 rfl rfl ?_
  refine AW.iconst 6 (nI 4) dX0_init_5 (by decide) rfl ?_
  refine AW.bipush 8 (nI 48) dX0_init_6 (by decide) rfl ?_
  refine AW.mna 12 0 0 dX0_init_8 (by rw [z_mnaS]; exact qX0_9) rfl rfl (by decide) (by decide) rfl rfl (by first | omega | (show S.1 < 1000000; omega) | (show S.1 < 900000; omega) | (show S.1 + 1 < 1000000; omega) | (show S.1 + 1 + 1 < 1000000; omega) | (show S.1 + 1 + 1 + 1 < 1000000; omega) | (show S.1 + 1 + 1 + 1 + 1 < 1000000; omega) | (show S.1 + 1 + 1 + 1 < 900000; omega) | (show S.1 + 1 + 6 < 900000; omega) | (show S.1 + 1 + 6 + 1 + 6 < 1000000; omega)) rfl ?_
  refine AW.putF 15 (.array (.array .int)) dX0_init_12 pX0_11 rfl rfl (by repeat (first | exact hk | with_reducible (apply z_is.sR) | with_reducible (apply z_is.nw) | with_reducible (apply z_is.mS))) (fun _ => ⟨rfl, rfl⟩) rfl ?_
  refine AW.aload_n 16 dX0_init_15 rfl rfl ?_
  refine AW.iconst 17 (nI 0) dX0_init_16 (by decide) rfl ?_
  refine AW.putI 20 .int dX0_init_17 pX0_16 rfl (by repeat (first | exact hk | with_reducible (apply z_is.sR) | with_reducible (apply z_is.nw) | with_reducible (apply z_is.mS))) rfl rfl rfl ?_
  refine AW.vret dX0_init_20 rfl rfl ⟨rfl, ?_⟩
  exact hQ
theorem C_X1_init (hk : z_is S k 1) (hS : S.1 < 800000) {Q : zS → zM → Prop} (hQ : Q (z_fa S k 0 11 48) (z_st (z_nM S M) k 1 (nI 0))) : AMet l g yX1_init cX1_init 1 none (d + 1) 1 48 [.ref k] S M (z_Qv Q) := by
  refine AMet.of (ini := true) rfl (fun h => by first | rfl | cases h) (Nat.le_of_ble_eq_true rfl) ?_
  show AW l g RX1 cX1_init 1 none true _ _ _ 0 [some (.ref k)] [] _ _ _
  refine AW.aload_n 1 dX1_init_0 rfl rfl ?_
  refine AW.objI 4 dX1_init_1 qX1_3 (Nat.le_of_ble_eq_true rfl) rfl ?_
  refine AW.aload_n 5 dX1_init_4 rfl rfl ?_
  refine AW.bipush 7 (nI 48) dX1_init_5 (by decide) rfl ?_
  refine AW.newarr 9 0 0 dX1_init_7 (Or.inl ⟨rfl, rfl⟩) rfl (by decide) rfl rfl (by first | omega | (show S.1 < 1000000; omega) | (show S.1 < 900000; omega) | (show S.1 + 1 < 1000000; omega) | (show S.1 + 1 + 1 < 1000000; omega) | (show S.1 + 1 + 1 + 1 < 1000000; omega) | (show S.1 + 1 + 1 + 1 + 1 < 1000000; omega) | (show S.1 + 1 + 1 + 1 < 900000; omega) | (show S.1 + 1 + 6 < 900000; omega) | (show S.1 + 1 + 6 + 1 + 6 < 1000000; omega)) rfl ?_
  refine AW.putF 12 (.array .int) dX1_init_9 pX1_9 rfl rfl (by repeat (first | exact hk | with_reducible (apply z_is.sR) | with_reducible (apply z_is.nw) | with_reducible (apply z_is.mS))) (fun _ => ⟨rfl, rfl⟩) rfl ?_
  refine AW.aload_n 13 dX1_init_12 rfl rfl ?_
  refine AW.iconst 14 (nI 0) dX1_init_13 (by decide) rfl ?_
  refine AW.putI 17 .int dX1_init_14 pX1_15 rfl (by repeat (first | exact hk | with_reducible (apply z_is.sR) | with_reducible (apply z_is.nw) | with_reducible (apply z_is.mS))) rfl rfl rfl ?_
  refine AW.vret dX1_init_17 rfl rfl ⟨rfl, ?_⟩
  exact hQ
theorem C_X2_init (hk : z_is S k 2) (hS : S.1 < 800000) {Q : zS → zM → Prop} (hQ : Q (z_fm (z_fa (z_fa (z_fa S k 0 11 8) k 1 11 8) k 2 11 8) k 3 8 4) (z_st (z_mM (z_fa (z_fa (z_fa S k 0 11 8) k 1 11 8) k 2 11 8) (z_nM (z_fa (z_fa S k 0 11 8) k 1 11 8) (z_nM (z_fa S k 0 11 8) (z_nM S M))) 8) k 4 (nI 0))) : AMet l g yX2_init cX2_init 1 none (d + 1) 12 64 [.ref k] S M (z_Qv Q) := by
  refine AMet.of (ini := true) rfl (fun h => by first | rfl | cases h) (Nat.le_of_ble_eq_true rfl) ?_
  show AW l g RX2 cX2_init 1 none true _ _ _ 0 [some (.ref k)] [] _ _ _
  refine AW.aload_n 1 dX2_init_0 rfl rfl ?_
  refine AW.objI 4 dX2_init_1 qX2_3 (Nat.le_of_ble_eq_true rfl) rfl ?_
  refine AW.aload_n 5 dX2_init_4 rfl rfl ?_
  refine AW.bipush 7 (nI 8) dX2_init_5 (by decide) rfl ?_
  refine AW.newarr 9 11 56 dX2_init_7 (Or.inl ⟨rfl, rfl⟩) rfl (by decide) rfl rfl (by first | omega | (show S.1 < 1000000; omega) | (show S.1 < 900000; omega) | (show S.1 + 1 < 1000000; omega) | (show S.1 + 1 + 1 < 1000000; omega) | (show S.1 + 1 + 1 + 1 < 1000000; omega) | (show S.1 + 1 + 1 + 1 + 1 < 1000000; omega) | (show S.1 + 1 + 1 + 1 < 900000; omega) | (show S.1 + 1 + 6 < 900000; omega) | (show S.1 + 1 + 6 + 1 + 6 < 1000000; omega)) rfl ?_
  refine AW.putF 12 (.array .int) dX2_init_9 pX2_9 rfl rfl (by repeat (first | exact hk | with_reducible (apply z_is.sR) | with_reducible (apply z_is.nw) | with_reducible (apply z_is.mS))) (fun _ => ⟨rfl, rfl⟩) rfl ?_
  refine AW.aload_n 13 dX2_init_12 rfl rfl ?_
  refine AW.bipush 15 (nI 8) dX2_init_13 (by decide) rfl ?_
  refine AW.newarr 17 10 48 dX2_init_15 (Or.inl ⟨rfl, rfl⟩) rfl (by decide) rfl rfl (by first | omega | (show S.1 < 1000000; omega) | (show S.1 < 900000; omega) | (show S.1 + 1 < 1000000; omega) | (show S.1 + 1 + 1 < 1000000; omega) | (show S.1 + 1 + 1 + 1 < 1000000; omega) | (show S.1 + 1 + 1 + 1 + 1 < 1000000; omega) | (show S.1 + 1 + 1 + 1 < 900000; omega) | (show S.1 + 1 + 6 < 900000; omega) | (show S.1 + 1 + 6 + 1 + 6 < 1000000; omega)) rfl ?_
  refine AW.putF 20 (.array .int) dX2_init_17 pX2_15 rfl rfl (by repeat (first | exact hk | with_reducible (apply z_is.sR) | with_reducible (apply z_is.nw) | with_reducible (apply z_is.mS))) (fun _ => ⟨rfl, rfl⟩) rfl ?_
  refine AW.aload_n 21 dX2_init_20 rfl rfl ?_
  refine AW.bipush 23 (nI 8) dX2_init_21 (by decide) rfl ?_
  refine AW.newarr 25 9 40 dX2_init_23 (Or.inl ⟨rfl, rfl⟩) rfl (by decide) rfl rfl (by first | omega | (show S.1 < 1000000; omega) | (show S.1 < 900000; omega) | (show S.1 + 1 < 1000000; omega) | (show S.1 + 1 + 1 < 1000000; omega) | (show S.1 + 1 + 1 + 1 < 1000000; omega) | (show S.1 + 1 + 1 + 1 + 1 < 1000000; omega) | (show S.1 + 1 + 1 + 1 < 900000; omega) | (show S.1 + 1 + 6 < 900000; omega) | (show S.1 + 1 + 6 + 1 + 6 < 1000000; omega)) rfl ?_
  refine AW.putF 28 (.array .int) dX2_init_25 pX2_18 rfl rfl (by repeat (first | exact hk | with_reducible (apply z_is.sR) | with_reducible (apply z_is.nw) | with_reducible (apply z_is.mS))) (fun _ => ⟨rfl, rfl⟩) rfl ?_
  refine AW.aload_n 29 dX2_init_28 rfl rfl ?_
  refine AW.bipush 31 (nI 8) dX2_init_29 (by decide) rfl ?_
  refine AW.iconst 32 (nI 4) dX2_init_31 (by decide) rfl ?_
  refine AW.mna 36 0 0 dX2_init_32 (by rw [z_mnaS]; exact qX2_21) rfl rfl (by decide) (by decide) rfl rfl (by first | omega | (show S.1 < 1000000; omega) | (show S.1 < 900000; omega) | (show S.1 + 1 < 1000000; omega) | (show S.1 + 1 + 1 < 1000000; omega) | (show S.1 + 1 + 1 + 1 < 1000000; omega) | (show S.1 + 1 + 1 + 1 + 1 < 1000000; omega) | (show S.1 + 1 + 1 + 1 < 900000; omega) | (show S.1 + 1 + 6 < 900000; omega) | (show S.1 + 1 + 6 + 1 + 6 < 1000000; omega)) rfl ?_
  refine AW.putF 39 (.array (.array .int)) dX2_init_36 pX2_23 rfl rfl (by repeat (first | exact hk | with_reducible (apply z_is.sR) | with_reducible (apply z_is.nw) | with_reducible (apply z_is.mS))) (fun _ => ⟨rfl, rfl⟩) rfl ?_
  refine AW.aload_n 40 dX2_init_39 rfl rfl ?_
  refine AW.iconst 41 (nI 0) dX2_init_40 (by decide) rfl ?_
  refine AW.putI 44 .int dX2_init_41 pX2_26 rfl (by repeat (first | exact hk | with_reducible (apply z_is.sR) | with_reducible (apply z_is.nw) | with_reducible (apply z_is.mS))) rfl rfl rfl ?_
  refine AW.vret dX2_init_44 rfl rfl ⟨rfl, ?_⟩
  exact hQ
theorem C_X3_init (hk : z_is S k 3) (hS : S.1 < 800000) {Q : zS → zM → Prop} (hQ : Q (z_fa (z_fa (z_fa (z_fa (z_fa S k 0 11 12) k 1 11 12) k 2 11 12) k 3 11 12) k 4 11 12) (z_nM (z_fa (z_fa (z_fa (z_fa S k 0 11 12) k 1 11 12) k 2 11 12) k 3 11 12) (z_nM (z_fa (z_fa (z_fa S k 0 11 12) k 1 11 12) k 2 11 12) (z_nM (z_fa (z_fa S k 0 11 12) k 1 11 12) (z_nM (z_fa S k 0 11 12) (z_nM S M)))))) : AMet l g yX3_init cX3_init 1 none (d + 1) 5 60 [.ref k] S M (z_Qv Q) := by
  refine AMet.of (ini := true) rfl (fun h => by first | rfl | cases h) (Nat.le_of_ble_eq_true rfl) ?_
  show AW l g RX3 cX3_init 1 none true _ _ _ 0 [some (.ref k)] [] _ _ _
  refine AW.aload_n 1 dX3_init_0 rfl rfl ?_
  refine AW.objI 4 dX3_init_1 qX3_3 (Nat.le_of_ble_eq_true rfl) rfl ?_
  refine AW.aload_n 5 dX3_init_4 rfl rfl ?_
  refine AW.bipush 7 (nI 12) dX3_init_5 (by decide) rfl ?_
  refine AW.newarr 9 4 48 dX3_init_7 (Or.inl ⟨rfl, rfl⟩) rfl (by decide) rfl rfl (by first | omega | (show S.1 < 1000000; omega) | (show S.1 < 900000; omega) | (show S.1 + 1 < 1000000; omega) | (show S.1 + 1 + 1 < 1000000; omega) | (show S.1 + 1 + 1 + 1 < 1000000; omega) | (show S.1 + 1 + 1 + 1 + 1 < 1000000; omega) | (show S.1 + 1 + 1 + 1 < 900000; omega) | (show S.1 + 1 + 6 < 900000; omega) | (show S.1 + 1 + 6 + 1 + 6 < 1000000; omega)) rfl ?_
  refine AW.putF 12 (.array .int) dX3_init_9 pX3_9 rfl rfl (by repeat (first | exact hk | with_reducible (apply z_is.sR) | with_reducible (apply z_is.nw) | with_reducible (apply z_is.mS))) (fun _ => ⟨rfl, rfl⟩) rfl ?_
  refine AW.aload_n 13 dX3_init_12 rfl rfl ?_
  refine AW.bipush 15 (nI 12) dX3_init_13 (by decide) rfl ?_
  refine AW.newarr 17 3 36 dX3_init_15 (Or.inl ⟨rfl, rfl⟩) rfl (by decide) rfl rfl (by first | omega | (show S.1 < 1000000; omega) | (show S.1 < 900000; omega) | (show S.1 + 1 < 1000000; omega) | (show S.1 + 1 + 1 < 1000000; omega) | (show S.1 + 1 + 1 + 1 < 1000000; omega) | (show S.1 + 1 + 1 + 1 + 1 < 1000000; omega) | (show S.1 + 1 + 1 + 1 < 900000; omega) | (show S.1 + 1 + 6 < 900000; omega) | (show S.1 + 1 + 6 + 1 + 6 < 1000000; omega)) rfl ?_
  refine AW.putF 20 (.array .int) dX3_init_17 pX3_15 rfl rfl (by repeat (first | exact hk | with_reducible (apply z_is.sR) | with_reducible (apply z_is.nw) | with_reducible (apply z_is.mS))) (fun _ => ⟨rfl, rfl⟩) rfl ?_
  refine AW.aload_n 21 dX3_init_20 rfl rfl ?_
  refine AW.bipush 23 (nI 12) dX3_init_21 (by decide) rfl ?_
  refine AW.newarr 25 2 24 dX3_init_23 (Or.inl ⟨rfl, rfl⟩) rfl (by decide) rfl rfl (by first | omega | (show S.1 < 1000000; omega) | (show S.1 < 900000; omega) | (show S.1 + 1 < 1000000; omega) | (show S.1 + 1 + 1 < 1000000; omega) | (show S.1 + 1 + 1 + 1 < 1000000; omega) | (show S.1 + 1 + 1 + 1 + 1 < 1000000; omega) | (show S.1 + 1 + 1 + 1 < 900000; omega) | (show S.1 + 1 + 6 < 900000; omega) | (show S.1 + 1 + 6 + 1 + 6 < 1000000; omega)) rfl ?_
  refine AW.putF 28 (.array .int) dX3_init_25 pX3_18 rfl rfl (by repeat (first | exact hk | with_reducible (apply z_is.sR) | with_reducible (apply z_is.nw) | with_reducible (apply z_is.mS))) (fun _ => ⟨rfl, rfl⟩) rfl ?_
  refine AW.aload_n 29 dX3_init_28 rfl rfl ?_
  refine AW.bipush 31 (nI 12) dX3_init_29 (by decide) rfl ?_
  refine AW.newarr 33 1 12 dX3_init_31 (Or.inl ⟨rfl, rfl⟩) rfl (by decide) rfl rfl (by first | omega | (show S.1 < 1000000; omega) | (show S.1 < 900000; omega) | (show S.1 + 1 < 1000000; omega) | (show S.1 + 1 + 1 < 1000000; omega) | (show S.1 + 1 + 1 + 1 < 1000000; omega) | (show S.1 + 1 + 1 + 1 + 1 < 1000000; omega) | (show S.1 + 1 + 1 + 1 < 900000; omega) | (show S.1 + 1 + 6 < 900000; omega) | (show S.1 + 1 + 6 + 1 + 6 < 1000000; omega)) rfl ?_
  refine AW.putF 36 (.array .int) dX3_init_33 pX3_21 rfl rfl (by repeat (first | exact hk | with_reducible (apply z_is.sR) | with_reducible (apply z_is.nw) | with_reducible (apply z_is.mS))) (fun _ => ⟨rfl, rfl⟩) rfl ?_
  refine AW.aload_n 37 dX3_init_36 rfl rfl ?_
  refine AW.bipush 39 (nI 12) dX3_init_37 (by decide) rfl ?_
  refine AW.newarr 41 0 0 dX3_init_39 (Or.inl ⟨rfl, rfl⟩) rfl (by decide) rfl rfl (by first | omega | (show S.1 < 1000000; omega) | (show S.1 < 900000; omega) | (show S.1 + 1 < 1000000; omega) | (show S.1 + 1 + 1 < 1000000; omega) | (show S.1 + 1 + 1 + 1 < 1000000; omega) | (show S.1 + 1 + 1 + 1 + 1 < 1000000; omega) | (show S.1 + 1 + 1 + 1 < 900000; omega) | (show S.1 + 1 + 6 < 900000; omega) | (show S.1 + 1 + 6 + 1 + 6 < 1000000; omega)) rfl ?_
  refine AW.putF 44 (.array .int) dX3_init_41 pX3_24 rfl rfl (by repeat (first | exact hk | with_reducible (apply z_is.sR) | with_reducible (apply z_is.nw) | with_reducible (apply z_is.mS))) (fun _ => ⟨rfl, rfl⟩) rfl ?_
  refine AW.vret dX3_init_44 rfl rfl ⟨rfl, ?_⟩
  exact hQ
theorem C_X4_init (hk : z_is S k 4) (hS : S.1 < 800000) {t : Nat} {Q : zS → zM → Prop} (hQ : Q (z_sR (z_fa (z_fm (z_fm S k 1 6 16) k 2 6 16) k 3 11 16) k 0 t) (z_st (z_st (z_st (z_nM (z_fm (z_fm S k 1 6 16) k 2 6 16) (z_mM (z_fm S k 1 6 16) (z_mM S M 6) 6)) k 4 (nI 0)) k 5 (nI 0)) k 6 (nI 0))) : AMet l g yX4_init cX4_init 2 none (d + 1) 15 220 [.ref k, .ref t] S M (z_Qv Q) := by
  refine AMet.of (ini := true) rfl (fun h => by first | rfl | cases h) (Nat.le_of_ble_eq_true rfl) ?_
  show AW l g RX4 cX4_init 2 none true _ _ _ 0 [some (.ref k), some (.ref t)] [] _ _ _
  refine AW.aload_n 1 dX4_init_0 rfl rfl ?_
  refine AW.objI 4 dX4_init_1 qX4_3 (Nat.le_of_ble_eq_true rfl) rfl ?_
  refine AW.aload_n 5 dX4_init_4 rfl rfl ?_
  refine AW.bipush 7 (nI 6) dX4_init_5 (by decide) rfl ?_
  refine AW.bipush 9 (nI 16) dX4_init_7 (by decide) rfl ?_
  refine AW.mna 13 8 118 dX4_init_9 (by rw [z_mnaS]; exact qX4_9) rfl rfl (by decide) (by decide) rfl rfl (by first | omega | (show S.1 < 1000000; omega) | (show S.1 < 900000; omega) | (show S.1 + 1 < 1000000; omega) | (show S.1 + 1 + 1 < 1000000; omega) | (show S.1 + 1 + 1 + 1 < 1000000; omega) | (show S.1 + 1 + 1 + 1 + 1 < 1000000; omega) | (show S.1 + 1 + 1 + 1 < 900000; omega) | (show S.1 + 1 + 6 < 900000; omega) | (show S.1 + 1 + 6 + 1 + 6 < 1000000; omega)) rfl ?_
  refine AW.putF 16 (.array (.array .int)) dX4_init_13 pX4_11 rfl rfl (by repeat (first | exact hk | with_reducible (apply z_is.sR) | with_reducible (apply z_is.nw) | with_reducible (apply z_is.mS))) (fun _ => ⟨rfl, rfl⟩) rfl ?_
  refine AW.aload_n 17 dX4_init_16 rfl rfl ?_
  refine AW.bipush 19 (nI 6) dX4_init_17 (by decide) rfl ?_
  refine AW.bipush 21 (nI 16) dX4_init_19 (by decide) rfl ?_
  refine AW.mna 25 1 16 dX4_init_21 (by rw [z_mnaS]; exact qX4_9) rfl rfl (by decide) (by decide) rfl rfl (by first | omega | (show S.1 < 1000000; omega) | (show S.1 < 900000; omega) | (show S.1 + 1 < 1000000; omega) | (show S.1 + 1 + 1 < 1000000; omega) | (show S.1 + 1 + 1 + 1 < 1000000; omega) | (show S.1 + 1 + 1 + 1 + 1 < 1000000; omega) | (show S.1 + 1 + 1 + 1 < 900000; omega) | (show S.1 + 1 + 6 < 900000; omega) | (show S.1 + 1 + 6 + 1 + 6 < 1000000; omega)) rfl ?_
  refine AW.putF 28 (.array (.array .int)) dX4_init_25 pX4_16 rfl rfl (by repeat (first | exact hk | with_reducible (apply z_is.sR) | with_reducible (apply z_is.nw) | with_reducible (apply z_is.mS))) (fun _ => ⟨rfl, rfl⟩) rfl ?_
  refine AW.aload_n 29 dX4_init_28 rfl rfl ?_
  refine AW.bipush 31 (nI 16) dX4_init_29 (by decide) rfl ?_
  refine AW.newarr 33 0 0 dX4_init_31 (Or.inl ⟨rfl, rfl⟩) rfl (by decide) rfl rfl (by first | omega | (show S.1 < 1000000; omega) | (show S.1 < 900000; omega) | (show S.1 + 1 < 1000000; omega) | (show S.1 + 1 + 1 < 1000000; omega) | (show S.1 + 1 + 1 + 1 < 1000000; omega) | (show S.1 + 1 + 1 + 1 + 1 < 1000000; omega) | (show S.1 + 1 + 1 + 1 < 900000; omega) | (show S.1 + 1 + 6 < 900000; omega) | (show S.1 + 1 + 6 + 1 + 6 < 1000000; omega)) rfl ?_
  refine AW.putF 36 (.array .int) dX4_init_33 pX4_19 rfl rfl (by repeat (first | exact hk | with_reducible (apply z_is.sR) | with_reducible (apply z_is.nw) | with_reducible (apply z_is.mS))) (fun _ => ⟨rfl, rfl⟩) rfl ?_
  refine AW.aload_n 37 dX4_init_36 rfl rfl ?_
  refine AW.iconst 38 (nI 0) dX4_init_37 (by decide) rfl ?_
  refine AW.putI 41 .boolean dX4_init_38 pX4_23 rfl (by repeat (first | exact hk | with_reducible (apply z_is.sR) | with_reducible (apply z_is.nw) | with_reducible (apply z_is.mS))) rfl rfl rfl ?_
  refine AW.aload_n 42 dX4_init_41 rfl rfl ?_
  refine AW.iconst 43 (nI 0) dX4_init_42 (by decide) rfl ?_
  refine AW.putI 46 .boolean dX4_init_43 pX4_27 rfl (by repeat (first | exact hk | with_reducible (apply z_is.sR) | with_reducible (apply z_is.nw) | with_reducible (apply z_is.mS))) rfl rfl rfl ?_
  refine AW.aload_n 47 dX4_init_46 rfl rfl ?_
  refine AW.iconst 48 (nI 0) dX4_init_47 (by decide) rfl ?_
  refine AW.putI 51 .int dX4_init_48 pX4_30 rfl (by repeat (first | exact hk | with_reducible (apply z_is.sR) | with_reducible (apply z_is.nw) | with_reducible (apply z_is.mS))) rfl rfl rfl ?_
  refine AW.aload_n 52 dX4_init_51 rfl rfl ?_
  refine AW.aload_n 53 dX4_init_52 rfl rfl ?_
  refine AW.putF 56 (.object "MachineBench$Tape") dX4_init_53 pX4_34 rfl rfl (by repeat (first | exact hk | with_reducible (apply z_is.sR) | with_reducible (apply z_is.nw) | with_reducible (apply z_is.mS))) (fun _ => ⟨rfl, rfl⟩) rfl ?_
  refine AW.vret dX4_init_56 rfl rfl ⟨rfl, ?_⟩
  exact hQ
theorem C_X5_init (hk : z_is S k 5) (hS : S.1 < 800000) {Q : zS → zM → Prop} (hQ : Q (z_fa S k 0 11 48) (z_st (z_st (z_nM S M) k 1 (-4)) k 2 (nI 0))) : AMet l g yX5_init cX5_init 1 none (d + 1) 1 48 [.ref k] S M (z_Qv Q) := by
  refine AMet.of (ini := true) rfl (fun h => by first | rfl | cases h) (Nat.le_of_ble_eq_true rfl) ?_
  show AW l g RX5 cX5_init 1 none true _ _ _ 0 [some (.ref k)] [] _ _ _
  refine AW.aload_n 1 dX5_init_0 rfl rfl ?_
  refine AW.objI 4 dX5_init_1 qX5_3 (Nat.le_of_ble_eq_true rfl) rfl ?_
  refine AW.aload_n 5 dX5_init_4 rfl rfl ?_
  refine AW.bipush 7 (nI 48) dX5_init_5 (by decide) rfl ?_
  refine AW.newarr 9 0 0 dX5_init_7 (Or.inl ⟨rfl, rfl⟩) rfl (by decide) rfl rfl (by first | omega | (show S.1 < 1000000; omega) | (show S.1 < 900000; omega) | (show S.1 + 1 < 1000000; omega) | (show S.1 + 1 + 1 < 1000000; omega) | (show S.1 + 1 + 1 + 1 < 1000000; omega) | (show S.1 + 1 + 1 + 1 + 1 < 1000000; omega) | (show S.1 + 1 + 1 + 1 < 900000; omega) | (show S.1 + 1 + 6 < 900000; omega) | (show S.1 + 1 + 6 + 1 + 6 < 1000000; omega)) rfl ?_
  refine AW.putF 12 (.array .int) dX5_init_9 pX5_9 rfl rfl (by repeat (first | exact hk | with_reducible (apply z_is.sR) | with_reducible (apply z_is.nw) | with_reducible (apply z_is.mS))) (fun _ => ⟨rfl, rfl⟩) rfl ?_
  refine AW.aload_n 13 dX5_init_12 rfl rfl ?_
  refine AW.bipush 15 (-4) dX5_init_13 (by decide) rfl ?_
  refine AW.putI 18 .int dX5_init_15 pX5_15 rfl (by repeat (first | exact hk | with_reducible (apply z_is.sR) | with_reducible (apply z_is.nw) | with_reducible (apply z_is.mS))) rfl rfl rfl ?_
  refine AW.aload_n 19 dX5_init_18 rfl rfl ?_
  refine AW.iconst 20 (nI 0) dX5_init_19 (by decide) rfl ?_
  refine AW.putI 23 .int dX5_init_20 pX5_19 rfl (by repeat (first | exact hk | with_reducible (apply z_is.sR) | with_reducible (apply z_is.nw) | with_reducible (apply z_is.mS))) rfl rfl rfl ?_
  refine AW.vret dX5_init_23 rfl rfl ⟨rfl, ?_⟩
  exact hQ
theorem C_X6_init (hk : z_is S k 6) (hS : S.1 < 800000) {Q : zS → zM → Prop} (hQ : Q (z_fa S k 0 11 120) (z_st (z_nM S M) k 1 (nI 0))) : AMet l g yX6_init cX6_init 1 none (d + 1) 1 120 [.ref k] S M (z_Qv Q) := by
  refine AMet.of (ini := true) rfl (fun h => by first | rfl | cases h) (Nat.le_of_ble_eq_true rfl) ?_
  show AW l g RX6 cX6_init 1 none true _ _ _ 0 [some (.ref k)] [] _ _ _
  refine AW.aload_n 1 dX6_init_0 rfl rfl ?_
  refine AW.objI 4 dX6_init_1 qX6_3 (Nat.le_of_ble_eq_true rfl) rfl ?_
  refine AW.aload_n 5 dX6_init_4 rfl rfl ?_
  refine AW.bipush 7 (nI 120) dX6_init_5 (by decide) rfl ?_
  refine AW.newarr 9 0 0 dX6_init_7 (Or.inl ⟨rfl, rfl⟩) rfl (by decide) rfl rfl (by first | omega | (show S.1 < 1000000; omega) | (show S.1 < 900000; omega) | (show S.1 + 1 < 1000000; omega) | (show S.1 + 1 + 1 < 1000000; omega) | (show S.1 + 1 + 1 + 1 < 1000000; omega) | (show S.1 + 1 + 1 + 1 + 1 < 1000000; omega) | (show S.1 + 1 + 1 + 1 < 900000; omega) | (show S.1 + 1 + 6 < 900000; omega) | (show S.1 + 1 + 6 + 1 + 6 < 1000000; omega)) rfl ?_
  refine AW.putF 12 (.array .int) dX6_init_9 pX6_9 rfl rfl (by repeat (first | exact hk | with_reducible (apply z_is.sR) | with_reducible (apply z_is.nw) | with_reducible (apply z_is.mS))) (fun _ => ⟨rfl, rfl⟩) rfl ?_
  refine AW.aload_n 13 dX6_init_12 rfl rfl ?_
  refine AW.iconst 14 (nI 0) dX6_init_13 (by decide) rfl ?_
  refine AW.putI 17 .int dX6_init_14 pX6_15 rfl (by repeat (first | exact hk | with_reducible (apply z_is.sR) | with_reducible (apply z_is.nw) | with_reducible (apply z_is.mS))) rfl rfl rfl ?_
  refine AW.vret dX6_init_17 rfl rfl ⟨rfl, ?_⟩
  exact hQ
theorem C_X7_init (hk : z_is S k 7) (hS : S.1 < 800000) {Q : zS → zM → Prop} (hQ : Q (z_fa (z_fa (z_fa S k 0 11 6) k 1 11 6) k 2 11 6) (z_st (z_nM (z_fa (z_fa S k 0 11 6) k 1 11 6) (z_nM (z_fa S k 0 11 6) (z_nM S M))) k 3 (nI 0))) : AMet l g yX7_init cX7_init 1 none (d + 1) 3 18 [.ref k] S M (z_Qv Q) := by
  refine AMet.of (ini := true) rfl (fun h => by first | rfl | cases h) (Nat.le_of_ble_eq_true rfl) ?_
  show AW l g RX7 cX7_init 1 none true _ _ _ 0 [some (.ref k)] [] _ _ _
  refine AW.aload_n 1 dX7_init_0 rfl rfl ?_
  refine AW.objI 4 dX7_init_1 qX7_3 (Nat.le_of_ble_eq_true rfl) rfl ?_
  refine AW.aload_n 5 dX7_init_4 rfl rfl ?_
  refine AW.bipush 7 (nI 6) dX7_init_5 (by decide) rfl ?_
  refine AW.newarr 9 2 12 dX7_init_7 (Or.inl ⟨rfl, rfl⟩) rfl (by decide) rfl rfl (by first | omega | (show S.1 < 1000000; omega) | (show S.1 < 900000; omega) | (show S.1 + 1 < 1000000; omega) | (show S.1 + 1 + 1 < 1000000; omega) | (show S.1 + 1 + 1 + 1 < 1000000; omega) | (show S.1 + 1 + 1 + 1 + 1 < 1000000; omega) | (show S.1 + 1 + 1 + 1 < 900000; omega) | (show S.1 + 1 + 6 < 900000; omega) | (show S.1 + 1 + 6 + 1 + 6 < 1000000; omega)) rfl ?_
  refine AW.putF 12 (.array .int) dX7_init_9 pX7_9 rfl rfl (by repeat (first | exact hk | with_reducible (apply z_is.sR) | with_reducible (apply z_is.nw) | with_reducible (apply z_is.mS))) (fun _ => ⟨rfl, rfl⟩) rfl ?_
  refine AW.aload_n 13 dX7_init_12 rfl rfl ?_
  refine AW.bipush 15 (nI 6) dX7_init_13 (by decide) rfl ?_
  refine AW.newarr 17 1 6 dX7_init_15 (Or.inl ⟨rfl, rfl⟩) rfl (by decide) rfl rfl (by first | omega | (show S.1 < 1000000; omega) | (show S.1 < 900000; omega) | (show S.1 + 1 < 1000000; omega) | (show S.1 + 1 + 1 < 1000000; omega) | (show S.1 + 1 + 1 + 1 < 1000000; omega) | (show S.1 + 1 + 1 + 1 + 1 < 1000000; omega) | (show S.1 + 1 + 1 + 1 < 900000; omega) | (show S.1 + 1 + 6 < 900000; omega) | (show S.1 + 1 + 6 + 1 + 6 < 1000000; omega)) rfl ?_
  refine AW.putF 20 (.array .int) dX7_init_17 pX7_15 rfl rfl (by repeat (first | exact hk | with_reducible (apply z_is.sR) | with_reducible (apply z_is.nw) | with_reducible (apply z_is.mS))) (fun _ => ⟨rfl, rfl⟩) rfl ?_
  refine AW.aload_n 21 dX7_init_20 rfl rfl ?_
  refine AW.bipush 23 (nI 6) dX7_init_21 (by decide) rfl ?_
  refine AW.newarr 25 0 0 dX7_init_23 (Or.inl ⟨rfl, rfl⟩) rfl (by decide) rfl rfl (by first | omega | (show S.1 < 1000000; omega) | (show S.1 < 900000; omega) | (show S.1 + 1 < 1000000; omega) | (show S.1 + 1 + 1 < 1000000; omega) | (show S.1 + 1 + 1 + 1 < 1000000; omega) | (show S.1 + 1 + 1 + 1 + 1 < 1000000; omega) | (show S.1 + 1 + 1 + 1 < 900000; omega) | (show S.1 + 1 + 6 < 900000; omega) | (show S.1 + 1 + 6 + 1 + 6 < 1000000; omega)) rfl ?_
  refine AW.putF 28 (.array .int) dX7_init_25 pX7_18 rfl rfl (by repeat (first | exact hk | with_reducible (apply z_is.sR) | with_reducible (apply z_is.nw) | with_reducible (apply z_is.mS))) (fun _ => ⟨rfl, rfl⟩) rfl ?_
  refine AW.aload_n 29 dX7_init_28 rfl rfl ?_
  refine AW.iconst 30 (nI 0) dX7_init_29 (by decide) rfl ?_
  refine AW.putI 33 .int dX7_init_30 pX7_21 rfl (by repeat (first | exact hk | with_reducible (apply z_is.sR) | with_reducible (apply z_is.nw) | with_reducible (apply z_is.mS))) rfl rfl rfl ?_
  refine AW.vret dX7_init_33 rfl rfl ⟨rfl, ?_⟩
  exact hQ
theorem C_X8_init (hk : z_is S k 8) (hS : S.1 < 800000) {Q : zS → zM → Prop} (hQ : Q (z_fm S k 0 3 12) (z_row (z_st (z_mM S M 3) k 1 (nI 4)) (S.1 + 1 + 2) (z_fill (z_st (z_mM S M 3) k 1 (nI 4) (S.1 + 1 + 2)) 12 (nI 15)))) : AMet l g yX8_init cX8_init 1 none (d + 1) 4 39 [.ref k] S M (z_Qv Q) := by
  refine AMet.of (ini := true) rfl (fun h => by first | rfl | cases h) (Nat.le_of_ble_eq_true rfl) ?_
  show AW l g RX8 cX8_init 1 none true _ _ _ 0 [some (.ref k)] [] _ _ _
  refine AW.aload_n 1 dX8_init_0 rfl rfl ?_
  refine AW.objI 4 dX8_init_1 qX8_3 (Nat.le_of_ble_eq_true rfl) rfl ?_
  refine AW.aload_n 5 dX8_init_4 rfl rfl ?_
  refine AW.iconst 6 (nI 3) dX8_init_5 (by decide) rfl ?_
  refine AW.bipush 8 (nI 12) dX8_init_6 (by decide) rfl ?_
  refine AW.mna 12 0 0 dX8_init_8 (by rw [z_mnaS]; exact qX8_9) rfl rfl (by decide) (by decide) rfl rfl (by first | omega | (show S.1 < 1000000; omega) | (show S.1 < 900000; omega) | (show S.1 + 1 < 1000000; omega) | (show S.1 + 1 + 1 < 1000000; omega) | (show S.1 + 1 + 1 + 1 < 1000000; omega) | (show S.1 + 1 + 1 + 1 + 1 < 1000000; omega) | (show S.1 + 1 + 1 + 1 < 900000; omega) | (show S.1 + 1 + 6 < 900000; omega) | (show S.1 + 1 + 6 + 1 + 6 < 1000000; omega)) rfl ?_
  refine AW.putF 15 (.array (.array .int)) dX8_init_12 pX8_11 rfl rfl (by repeat (first | exact hk | with_reducible (apply z_is.sR) | with_reducible (apply z_is.nw) | with_reducible (apply z_is.mS))) (fun _ => ⟨rfl, rfl⟩) rfl ?_
  refine AW.aload_n 16 dX8_init_15 rfl rfl ?_
  refine AW.iconst 17 (nI 4) dX8_init_16 (by decide) rfl ?_
  refine AW.putI 20 .int dX8_init_17 pX8_16 rfl (by repeat (first | exact hk | with_reducible (apply z_is.sR) | with_reducible (apply z_is.nw) | with_reducible (apply z_is.mS))) rfl rfl rfl ?_
  refine AW.aload_n 21 dX8_init_20 rfl rfl ?_
  refine AW.getR 24 dX8_init_21 fX8_11 rfl (by repeat (first | exact hk | with_reducible (apply z_is.sR) | with_reducible (apply z_is.nw) | with_reducible (apply z_is.mS))) (by show va_up (z_mS S 3 12).2.2 k (va_up ((z_mS S 3 12).2.2 k) 0 (some S.1)) k 0 = some S.1; rw [va_up_self, va_up_self]) rfl ?_
  refine AW.iconst 25 (nI 2) dX8_init_24 (by decide) rfl ?_
  refine AW.aald 26 dX8_init_25 ⟨z_blt (by show S.1 < S.1 + 1 + 3; omega), by show (if S.1 = S.1 then (16, 3) else _) = (16, 3); rw [if_pos rfl]⟩ (by decide) rfl (by omega) (by decide) (by show va_up (z_mS S 3 12).2.2 k _ S.1 2 = some (S.1 + 1 + 2); rw [va_up_ne _ _ (Nat.ne_of_gt (z_tlb hk.1))]; show (if S.1 = S.1 then (fun j => if j < 3 then some (S.1 + 1 + j) else none) else _) 2 = some (S.1 + 1 + 2); rw [if_pos rfl]; rfl) rfl ?_
  refine AW.bipush 28 (nI 15) dX8_init_26 (by decide) rfl ?_
  refine AW.cSv2 31 dX8_init_28 kX8_20 (Nat.le_of_ble_eq_true rfl) rfl (C_fill (M := z_st (z_mM S M 3) k 1 (nI 4)) (k := S.1 + 1 + 2) (n := 12) ⟨z_blt (by show S.1 + 1 + 2 < S.1 + 1 + 3; omega), by show (if S.1 + 1 + 2 = S.1 then (16, 3) else if S.1 < S.1 + 1 + 2 ∧ S.1 + 1 + 2 < S.1 + 1 + 3 then (11, 12) else _) = (11, 12); rw [if_neg (by omega), if_pos (by omega)]⟩ (by decide) ?_)
  refine AW.vret dX8_init_31 rfl rfl ⟨rfl, ?_⟩
  exact hQ
end SUBS
