/-! ===== rows of rows: new int[N][L], held against the machine itself ===== -/
/-- the outer cell when i of its rows hang in it, and a row of zeros -/
def z_mo (cA : ClassId) (N h0 i : Nat) : Cell := arrV cA N (fun j => va_rf (if j < i then some (h0 + 1 + j) else none))
def z_mi (cI : ClassId) (L : Nat) : Cell := arrV cI L (fun _ => .int 0)
/-- the machine's state behind i rows -/
def z_mk (T : State) (cA cI : ClassId) (N L : Nat) : Nat → State
  | 0 => T.pushCell (z_mo cA N T.heap.size 0)
  | i + 1 => ((z_mk T cA cI N L i).pushCell (z_mi cI L)).setCell T.heap.size (z_mo cA N T.heap.size (i + 1))
theorem z_mo_0 (cA : ClassId) (N h0 : Nat) : ({ cls := cA, slots := Array.replicate N .null, vm := .none } : Cell) = z_mo cA N h0 0 := by
  rw [arrV_new]
  exact congrArg (arrV cA N) (funext fun j => by rw [if_neg (Nat.not_lt_zero j)]; rfl)
theorem z_mo_s (cA : ClassId) (N h0 i : Nat) : (z_mo cA N h0 i).setSlot i (.ref (h0 + 1 + i)) = z_mo cA N h0 (i + 1) := by
  unfold z_mo
  rw [arrV_store]
  refine congrArg (arrV cA N) (funext fun j => ?_)
  show (if j = i then Value.ref (h0 + 1 + i) else va_rf (if j < i then some (h0 + 1 + j) else none)) = va_rf (if j < i + 1 then some (h0 + 1 + j) else none)
  rcases Nat.lt_trichotomy j i with h | h | h
  · rw [if_neg (Nat.ne_of_lt h), if_pos h, if_pos (Nat.lt_succ_of_lt h)]
  · rw [if_pos h, if_pos (show j < i + 1 by omega), h]; rfl
  · rw [if_neg (Nat.ne_of_gt h), if_neg (Nat.not_lt.mpr (Nat.le_of_lt h)), if_neg (show ¬ j < i + 1 by omega)]
/-- all that is known of that state's cells -/
theorem z_mk_is (T : State) (cA cI : ClassId) (N L : Nat) : ∀ i : Nat, (z_mk T cA cI N L i).vm = T.vm ∧ (z_mk T cA cI N L i).heap.size = T.heap.size + (1 + i) ∧ (z_mk T cA cI N L i).slotsUsed = T.slotsUsed + (N + i * L) ∧ (z_mk T cA cI N L i).heap[T.heap.size]? = some (z_mo cA N T.heap.size i) ∧ ∀ q : Nat, ((q < T.heap.size → (z_mk T cA cI N L i).heap[q]? = T.heap[q]?) ∧ (T.heap.size < q → q < T.heap.size + (1 + i) → (z_mk T cA cI N L i).heap[q]? = some (z_mi cI L))) := by
  intro i
  induction i with
  | zero =>
    refine ⟨rfl, by simp [z_mk], by simp [z_mk, z_mo, arrV], by simp [z_mk], fun q => ⟨fun h => State.heap_pushCell_of_lt _ _ h, fun h1 h2 => by omega⟩⟩
  | succ i ih =>
    obtain ⟨v, z, u, o, r⟩ := ih
    have hs : ∀ q : Nat, q < T.heap.size + (1 + i) → ((z_mk T cA cI N L i).pushCell (z_mi cI L)).heap[q]? = (z_mk T cA cI N L i).heap[q]? := fun q hq => State.heap_pushCell_of_lt _ _ (show q < (z_mk T cA cI N L i).heap.size by rw [z]; exact hq)
    have ho : ((z_mk T cA cI N L i).pushCell (z_mi cI L)).heap[T.heap.size]? = some (z_mo cA N T.heap.size i) := (hs _ (by omega)).trans o
    refine ⟨by simp [z_mk, v], by simp [z_mk, State.setCell, z]; omega, by simp [z_mk, u, z_mi, arrV, Nat.succ_mul]; omega, State.heap_setCell_self ho, fun q => ⟨fun h => ?_, fun h1 h2 => ?_⟩⟩
    · exact (State.heap_setCell_other (Nat.ne_of_gt h)).trans ((hs q (by omega)).trans ((r q).1 h))
    · refine (State.heap_setCell_other (Nat.ne_of_lt h1)).trans ?_
      by_cases e0 : q < T.heap.size + (1 + i)
      · exact (hs q e0).trans ((r q).2 h1 e0)
      · have e1 : q = (z_mk T cA cI N L i).heap.size := by rw [z]; omega
        rw [e1]
        exact State.heap_pushCell_size _ _
theorem z_mk_top (T : State) (f : JFrame) (cA cI : ClassId) (N L : Nat) : ∀ i : Nat, z_mk (T.setTop f) cA cI N L i = (z_mk T cA cI N L i).setTop f := by
  intro i
  induction i with
  | zero => rfl
  | succ i ih =>
    show ((z_mk (T.setTop f) cA cI N L i).pushCell _).setCell T.heap.size _ = _
    rw [ih]
    rfl
/-- what 'arrayOver' says of an array of arrays -/
theorem z_over {s : State} {args : Array Value} {t : FieldType} (h : (Cond.arrayOver (.array t)).before args s = true) : ∃ (cI cA : ClassId) (k : Class), s.vm.findClass (FieldType.array t).toString = some cI ∧ s.vm.findClass ("[" ++ (FieldType.array t).toString) = some cA ∧ s.vm.classes[cA]? = some k ∧ k.kind = .array cI (.array t) := by
  have h0 := eq_of_beq (show ((Cond.arrayOver (.array t)).value args s none s [] == some true) = true from h)
  have h1 : ((s.vm.findClass (FieldType.array t).toString).bind fun comp => (s.vm.classes.findIdx? fun (x : Class) => match x.kind with | .array component _ => component == comp | _ => false).bind fun c => (s.vm.classes[c]?).map fun (k : Class) => match k.kind with
      | .array _ ty => decide (ty = .array t) && decide (s.vm.findClass ("[" ++ (FieldType.array t).toString) = some c)
      | _ => false) = some true := h0
  obtain ⟨cI, a1, a2⟩ := Option.bind_eq_some_iff.mp h1
  obtain ⟨cA, a3, a4⟩ := Option.bind_eq_some_iff.mp a2
  obtain ⟨k, a5, a6⟩ := Option.map_eq_some_iff.mp a4
  have a7 := (Array.findIdx?_eq_some_iff_getElem.mp a3).2.1
  rw [(Array.getElem?_eq_some_iff.mp a5).2] at a7
  refine ⟨cI, cA, k, a1, ?_, a5, ?_⟩
  · split at a6
    · exact of_decide_eq_true (Bool.and_eq_true_iff.mp a6).2
    · cases a6
  · split at a6
    · rename_i x ty hk
      rw [hk] at a7 ⊢
      rw [eq_of_beq a7, of_decide_eq_true (Bool.and_eq_true_iff.mp a6).1]
    · cases a6
