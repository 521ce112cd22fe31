section MNA
variable {E : CtlPost} {e : Env} {d : Bool} {acts : List Action}
/-- a loop that makes row behind row -/
theorem z_rows {T : State} {cA cI : ClassId} {N L : Nat} {f : Nat → PUnit → Sem (ForInStep PUnit)} {Q : PUnit → Pre} (hf : ∀ i, i < N → ∀ (Q1 : ForInStep PUnit → Pre) (d1 : Bool) (a1 : List Action), (∀ d2 a2, Q1 (.yield PUnit.unit) d2 a2 (z_mk T cA cI N L (i + 1))) → wp (f i PUnit.unit) Q1 E e d1 a1 (z_mk T cA cI N L i)) (hq : ∀ d1 a1, Q PUnit.unit d1 a1 (z_mk T cA cI N L N)) : ∀ (r i : Nat) (d1 : Bool) (a1 : List Action), i + r = N → wp (forIn (List.range' i r) PUnit.unit f) Q E e d1 a1 (z_mk T cA cI N L i) := by
  intro r
  induction r with
  | zero =>
    intro i d1 a1 h
    have h0 : i = N := h
    rw [List.range'_zero, List.forIn_nil, wp_pure', h0]
    exact hq _ _
  | succ r ih =>
    intro i d1 a1 h
    rw [List.range'_succ, List.forIn_cons, wp_bind']
    exact hf i (by omega) _ _ _ (fun d2 a2 => ih (i + 1) d2 a2 (by omega))
/-- one row of ints -/
theorem z_make1 {U : State} {cI c0 : ClassId} {kI : Class} {k : Int32} {L : Nat} (hL : k.toNatClampNeg = L) (h1 : U.vm.classes[cI]? = some kI) (h2 : kI.kind = .array c0 .int) (hk : ¬ k < 0) (hl : ¬ L > e.platform.arrayLengthLimit) (hb : ¬ L * 4 > e.platform.maxHeapBytes) (hc : U.heap.size < e.platform.maxCells) (hs : U.slotsUsed + L ≤ e.platform.maxSlots) {Q : Addr → Pre} (hq : ∀ a1, Q U.heap.size d a1 (U.pushCell (z_mi cI L))) : wp (Jvm.Op.multianewarray.make cI [k]) Q E e d acts U := by
  subst hL
  rw [Jvm.Op.multianewarray.make]
  simp only [wp_bind', W.ite, if_neg hk, wp_pure', W.theClass, h1, h2, Option.some.injEq, exists_eq_left']
  refine W.newArray_of h1 h2 hl hb hc hs rfl (fun a1 => ?_)
  have := hq a1
  unfold z_mi at this
  rw [← arrV_new] at this
  exact this
/-- and all of them -/
theorem z_make2 {T : State} {cA cI c0 : ClassId} {kA kI : Class} {n k : Int32} {N L : Nat} (hN : n.toNatClampNeg = N) (hL : k.toNatClampNeg = L) (h1 : T.vm.classes[cA]? = some kA) (h2 : kA.kind = .array cI (.array .int)) (h3 : T.vm.classes[cI]? = some kI) (h4 : kI.kind = .array c0 .int) (hn : ¬ n < 0) (hk : ¬ k < 0) (hl : ¬ L > e.platform.arrayLengthLimit) (hb : ¬ L * 4 > e.platform.maxHeapBytes) (hl' : ¬ N > e.platform.arrayLengthLimit) (hb' : ¬ N * 4 > e.platform.maxHeapBytes) (hc : T.heap.size + (1 + N) ≤ e.platform.maxCells) (hs : T.slotsUsed + (N + N * L) ≤ e.platform.maxSlots) {Q : Addr → Pre} (hq : ∀ d1 a1, Q T.heap.size d1 a1 (z_mk T cA cI N L N)) : wp (Jvm.Op.multianewarray.make cA [n, k]) Q E e d acts T := by
  subst hN
  have hf : [k].find? (· < 0) = none := List.find?_eq_none.mpr (fun x hx => by rw [List.mem_singleton.mp hx]; simpa using hk)
  rw [Jvm.Op.multianewarray.make]
  simp only [wp_bind', W.ite, if_neg hn, wp_pure', W.theClass, h1, h2, Option.some.injEq, exists_eq_left']
  refine W.newArray_of h1 h2 hl' hb' (by omega) (by omega) rfl (fun a1 => ?_)
  rw [show T.pushCell { cls := cA, slots := Array.replicate n.toNatClampNeg .null } = z_mk T cA cI n.toNatClampNeg L 0 from congrArg T.pushCell (z_mo_0 cA n.toNatClampNeg T.heap.size)]
  simp only [hf, ite_self, wp_bind']
  rw [Std.Legacy.Range.forIn_eq_forIn_range']
  rw [show ([:n.toNatClampNeg] : Std.Legacy.Range).size = n.toNatClampNeg by simp [Std.Legacy.Range.size]]
  refine z_rows (fun i hi Q1 d1 a2 h => ?_) (fun d1 a2 => ?_) n.toNatClampNeg 0 _ _ (Nat.zero_add _)
  · obtain ⟨v, z, u, o, -⟩ := z_mk_is T cA cI n.toNatClampNeg L i
    have hm : (i + 1) * L ≤ n.toNatClampNeg * L := Nat.mul_le_mul_right _ hi
    rw [Nat.succ_mul] at hm
    simp only [wp_bind']
    refine z_make1 hL (by rw [v]; exact h3) h4 hk hl hb (by rw [z]; omega) (by rw [u]; omega) (fun a3 => ?_)
    simp only [wp_bind', W.writeLoc, wp_pure']
    refine ⟨z_mo cA n.toNatClampNeg T.heap.size i, ?_, ?_, ?_, ?_, ?_⟩
    · exact (State.heap_pushCell_of_lt _ _ (show T.heap.size < (z_mk T cA cI n.toNatClampNeg L i).heap.size by rw [z]; omega)).trans o
    · intro h0; cases h0
    · rw [show (z_mo cA n.toNatClampNeg T.heap.size i).slots.size = n.toNatClampNeg from arrV_size ..]; exact hi
    · show State.fitsSlot _ cA .none i _ = true
      simp [State.fitsSlot, State.slotType?, v, h1, h2, fits]
    · rw [z, ← Nat.add_assoc, z_mo_s]
      exact h _ _
  · simp only [wp_pure']
    exact hq _ _
end MNA
