section MNS
variable {p : Program} {l : Launch} {e : Env} {R : Room} {s : State} {m : MethodId} {args : Array Value} {below : List Frame} {meth : Method} {c : Code} {T : State} {locs : List Loc} {cells slots : Nat}
/-- the walk stands behind i rows: all that they wrote is new -/
theorem z_mk_stand (X : Stand p l e R s m args below meth c T locs cells slots) (cA cI : ClassId) (N L : Nat) : ∀ i : Nat, Stand p l e R s m args below meth c (z_mk T cA cI N L i) locs (cells + (1 + i)) (slots + (N + i * L)) := by
  intro i
  induction i with
  | zero =>
    have h := X.pushed (z_mo cA N T.heap.size 0)
    rw [show (z_mo cA N T.heap.size 0).slots.size = N from arrV_size ..] at h
    rw [Nat.zero_mul]
    exact h
  | succ i ih =>
    obtain ⟨-, z, -, o, -⟩ := z_mk_is T cA cI N L i
    have h := ih.pushed (z_mi cI L)
    rw [show (z_mi cI L).slots.size = L from arrV_size ..] at h
    have ho : ((z_mk T cA cI N L i).pushCell (z_mi cI L)).heap[T.heap.size]? = some (z_mo cA N T.heap.size i) := (State.heap_pushCell_of_lt _ _ (show T.heap.size < (z_mk T cA cI N L i).heap.size by rw [z]; omega)).trans o
    have h2 := (h.stored ho i (.ref (T.heap.size + 1 + i))).dropFresh (fun x hx => by rw [List.mem_singleton.mp hx]; exact X.heapGrown)
    rw [z_mo_s] at h2
    rw [show slots + (N + (i + 1) * L) = slots + (N + i * L) + L by rw [Nat.succ_mul]; omega]
    exact h2
/-- the instruction -/
theorem z_mna (X : Stand p l e R s m args below meth c T locs cells slots) (hx : p.tables.exec = Jvm.exec) {own : String} {ix pc N L : Nat} {n k : Int32} {la : Array Slot} {st : List Value} (hown : s.vm.findClass own = some m.cls) (hw : (Cond.classLink own ix ("[" ++ (FieldType.array .int).toString)).before args s = true) (hA : (Cond.arrayOver (.array .int)).before args s = true) (hI : (Cond.arrayClass .int).before args s = true) (hd : decode c.code pc = .ok (.multianewarray ix 2, 4)) (hN : n.toNatClampNeg = N) (hL : k.toNatClampNeg = L) (hn : ¬ n < 0) (hk : ¬ k < 0) (bN : N < 10000) (bL : L < 10000) (hcells : cells + (1 + N) ≤ R.cells) (hslots : slots + (N + N * L) ≤ R.slots) :
    ∃ (vm1 : Vm) (cA cI : ClassId), s.vm.findClass ("[" ++ (FieldType.array .int).toString) = some cA ∧ s.vm.findClass (FieldType.array .int).toString = some cI ∧ Stand p l e R s m args below meth c (z_mk (T.setVm vm1) cA cI N L N) locs (cells + (1 + N)) (slots + (N + N * L)) ∧ ∀ t, Steps p.tables e below ((z_mk (T.setVm vm1) cA cI N L N).setTop (F0 m (pc + 4) la (.ref T.heap.size :: st))) t → Steps p.tables e below (T.setTop (F0 m pc la (.int k :: .int n :: st))) t := by
  obtain ⟨cI, cA, kA, a1, a2, a3, a4⟩ := z_over hA
  obtain ⟨cI', kI, c0, b1, b2, b3⟩ := Cond.arrayClass_spec hI
  obtain rfl : cI = cI' := Option.some.inj (a1.symm.trans b1)
  obtain ⟨cA', d1, d2⟩ := Cond.classLink_spec hown hw e.platform (by rw [X.admits.platform])
  obtain rfl : cA = cA' := Option.some.inj (a2.symm.trans d1)
  obtain ⟨e1, e2, -⟩ := State.classEntry (e := e) X.warmed d2
  generalize T.vm.noted m.cls ix (.cls cA) = vm1 at e1 e2
  obtain ⟨kA1, f1, f2⟩ := e2.alike.2.2 _ _ a3
  obtain ⟨kI1, f3, f4⟩ := e2.alike.2.2 _ _ b2
  have X1 := z_mk_stand (X.noted e2) cA cI N L N
  refine ⟨vm1, cA, cI, a2, a1, X1, fun t ht => ?_⟩
  obtain ⟨r1, r2⟩ := X.roomAbove hcells hslots
  have lim := Launch.admits_arrayLengthLimit X.admits
  have hbt := Launch.admits_maxHeapBytes X.admits
  jvm_step X.here [hx, hd]
  simp only [Jvm.Op.multianewarray.sem, wp_bind', W.resolveClassAt_links (State.method?_setTop (F0 m pc la (.int k :: .int n :: st)) X.here.top) e1]
  rw [W.popN, if_neg (by decide)]
  refine ⟨_, State.topJava?_setTop' (s := T.setVm vm1) _ X.here.top, [.int n, .int k], st, rfl, rfl, ?_⟩
  simp only [List.mapM_cons, List.mapM_nil, wp_bind', wp_pure']
  refine z_make2 (kA := kA1) (kI := kI1) (cI := cI) (c0 := c0) (N := N) (L := L) hN hL f1 (by rw [f2]; exact a4) f3 (by rw [f4]; exact b3) hn hk (by rw [lim]; omega) (by rw [hbt]; omega) (by rw [lim]; omega) (by rw [hbt]; omega) (by show T.heap.size + _ ≤ _; omega) (by show T.slotsUsed + _ ≤ _; omega) (fun d1 a1 => ?_)
  have hz : ((T.setTop (F0 m pc la (.int k :: .int n :: st))).setVm vm1).setTop (F0 m pc la st) = (T.setVm vm1).setTop (F0 m pc la st) := State.setTop_setTop (T.setVm vm1) (F0 m pc la (.int k :: .int n :: st)) (F0 m pc la st)
  rw [hz]
  rw [z_mk_top]
  simp only [wp_bind', W.mark, W.pushRef, State.topJava?_setTop' _ X1.here.top, Option.some.injEq, exists_eq_left', State.setTop_setTop, State.heap_setTop]
  intro acts
  simp [jvm, X1.here.top]
  exact ht
end MNS
