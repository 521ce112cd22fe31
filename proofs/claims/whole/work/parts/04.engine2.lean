theorem z_AOA {t : FieldType} {u U : State} (hvm : u.vm.Alike U.vm) (h : (Cond.arrayOver (.array t)).before #[] u = true) : (Cond.arrayOver (.array t)).before #[] U = true := by
  unfold Cond.before Cond.holds at h ⊢
  simp only [Cond.value] at h ⊢
  rw [hvm.findClass]
  cases hc : u.vm.findClass (FieldType.array t).toString with
  | none => rw [hc] at h; cases h
  | some comp =>
    rw [hc, Option.bind_some] at h
    rw [Option.bind_some]
    have hi : (U.vm.classes.findIdx? fun (x : Class) => match x.kind with | .array component _ => component == comp | _ => false) = (u.vm.classes.findIdx? fun (x : Class) => match x.kind with | .array component _ => component == comp | _ => false) := by
      have e : U.vm.bare = u.vm.bare := by first | exact hvm.bare_eq | exact hvm.bare_eq.symm
      exact (va_idx_bare U.vm comp).symm.trans ((congrArg (fun v : Vm => v.classes.findIdx? fun (x : Class) => match x.kind with | .array component _ => component == comp | _ => false) e).trans (va_idx_bare u.vm comp))
    refine (congrArg (fun o : Option Nat => (o.bind (fun c => (U.vm.classes[c]?).map fun (k : Class) => match k.kind with | .array _ ty => decide (ty = FieldType.array t) && decide (U.vm.findClass ("[" ++ (FieldType.array t).toString) = some c) | _ => false) == some true)) hi).trans ?_
    cases hd : (u.vm.classes.findIdx? fun (x : Class) => match x.kind with | .array component _ => component == comp | _ => false) with
    | none =>
      exfalso
      have h2 := (congrArg (fun o : Option Nat => (o.bind (fun c => (u.vm.classes[c]?).map fun (k : Class) => match k.kind with | .array _ ty => decide (ty = FieldType.array t) && decide (u.vm.findClass ("[" ++ (FieldType.array t).toString) = some c) | _ => false) == some true)) hd).symm.trans h
      cases h2
    | some c =>
      have h2 := (congrArg (fun o : Option Nat => (o.bind (fun c => (u.vm.classes[c]?).map fun (k : Class) => match k.kind with | .array _ ty => decide (ty = FieldType.array t) && decide (u.vm.findClass ("[" ++ (FieldType.array t).toString) = some c) | _ => false) == some true)) hd).symm.trans h
      dsimp only [Option.bind_some] at h2 ⊢
      cases hk : u.vm.classes[c]? with
      | none => rw [hk] at h2; cases h2
      | some k =>
        obtain ⟨k', hk', he⟩ := hvm.2.2 _ _ hk
        rw [hk] at h2
        rw [hk', hvm.findClass]
        have hkk : k'.kind = k.kind := by rw [he]
        dsimp only [Option.map_some] at h2 ⊢
        rw [hkk]
        exact h2
/-- the types of the array classes, by kind 11 .. 16 -/
def z_tys (g : zG) : List (ClassId × FieldType) := [(gY g 11, .int), (gY g 12, .boolean), (gY g 13, .object RX1), (gY g 14, .object RX2), (gY g 15, .object RX5), (gY g 16, .array .int)]
/-- what holds of every state of the run, at a method's start -/
def z_Amb (g : zG) (s : State) : Prop := (∀ w ∈ z_U, w.before #[] s = true) ∧ va_K (gD g) vwCl (z_tys g) s ∧ gB g ≤ s.heap.size ∧
  (∀ i, i < 4 → va_Z "MachineBench" (z_sn i) "[I" (.ref (gE g i)) (gA g) s s.heap) ∧ (∀ i, i < 5 → va_T .int (gE g i) (z_el g i) (fun j => .int (z_ev g i j)) (gA g) s s.heap) ∧
  (∀ C : String, Cond.arrayOver (.object C) ∈ lw_tbl → va_AO C s) ∧ (Cond.arrayOver (.array .int)).before #[] s = true
theorem z_Amb.moved {g : zG} {s U : State} (h : z_Amb g s) (hW : s.WarmedH U.vm) (hz : s.heap.size ≤ U.heap.size) (hq : ∀ q : Nat, q < s.heap.size → ¬ gA g q → U.heap[q]? = s.heap[q]?) : z_Amb g U :=
  ⟨fun w hw => z_word (z_U_in hw).2 hW (h.1 w hw), va_K.moved hW.alike h.2.1, Nat.le_trans h.2.2.1 hz, fun i hi => ((h.2.2.2.1 i hi).kept hq).moved hW.alike, fun i hi => ((h.2.2.2.2.1 i hi).kept hq).moved hW.alike, fun C hC => va_AO.moved hW.alike (h.2.2.2.2.2.1 C hC), z_AOA hW.alike h.2.2.2.2.2.2⟩
theorem z_Amb.calling {g : zG} {U : State} {f : JFrame} {mk : MethodId} {a : Array Value} (h : z_Amb g U) : z_Amb g (U.calling f mk a) :=
  z_Amb.moved h (State.WarmedH.refl U) (Nat.le_refl _) (fun _ _ _ => rfl)
theorem z_Amb.word {g : zG} {s : State} (h : z_Amb g s) {args : Array Value} : ∀ w ∈ z_U, w.before args s = true := fun w hw => z_word (z_U_in hw).2 (State.WarmedH.refl s) (h.1 w hw)
/-- locals by place -/
def z_lp (g : zG) (ls : List (Option Value)) : List (Nat × Value) := (List.range ls.length).filterMap (fun k => match ls[k]? with | some (some v) => some (k, zc g v) | _ => none)
theorem z_lp_mem {g : zG} {ls : List (Option Value)} {k : Nat} {v : Value} (h : ls[k]? = some (some v)) : (k, zc g v) ∈ z_lp g ls :=
  List.mem_filterMap.mpr ⟨k, List.mem_range.mpr (List.getElem?_eq_some_iff.mp h).1, by rw [h]⟩
theorem z_lp_of {g : zG} {ls : List (Option Value)} {q : Nat × Value} (h : q ∈ z_lp g ls) : ∃ v, ls[q.1]? = some (some v) ∧ q.2 = zc g v := by
  obtain ⟨k, -, hk⟩ := List.mem_filterMap.mp h
  split at hk
  · rename_i v hv
    cases hk
    exact ⟨v, hv, rfl⟩
  · cases hk
def z_has (g : zG) (la : Array Slot) (nL : Nat) (ls : List (Option Value)) : Prop := ls.length = nL ∧ lv_has la nL (z_lp g ls)
theorem z_has.at {g : zG} {la : Array Slot} {nL : Nat} {ls : List (Option Value)} (h : z_has g la nL ls) {k : Nat} {v : Value} (hk : ls[k]? = some (some v)) : la[k]? = some (.val (zc g v)) := h.2.2.2 _ (z_lp_mem hk)
/-- no long stands just ahead of a place that is stored to -/
def z_ok (ls : List (Option Value)) (i : Nat) : Bool := match i with
  | 0 => true
  | j + 1 => match ls[j]? with | some (some v) => v.category == 1 | _ => true
theorem z_has.set {g : zG} {la' : Array Slot} {nL i : Nat} {ls : List (Option Value)} {v : Value} (hl : ls.length = nL) (hok : z_ok ls i = true)
    (h : lv_has la' nL ((i, zc g v) :: (z_lp g ls).filter (fun q => !(q.1 == i) && !(q.1 + 1 == i && q.2.category == 2)))) : z_has g la' nL (ls.set i (some v)) := by
  refine ⟨by rw [List.length_set]; exact hl, h.1, h.2.1, fun q hq => ?_⟩
  obtain ⟨w, h1, h2⟩ := z_lp_of hq
  refine h.2.2 q ?_
  obtain ⟨k, x⟩ := q
  dsimp only at h1 h2
  subst h2
  by_cases hk : k = i
  · subst hk
    have hlt : k < ls.length := by have := (List.getElem?_eq_some_iff.mp h1).1; rwa [List.length_set] at this
    rw [List.getElem?_set_self hlt] at h1
    cases h1
    exact List.mem_cons_self
  · rw [List.getElem?_set_ne (Ne.symm hk)] at h1
    refine List.mem_cons_of_mem _ (List.mem_filter.mpr ⟨z_lp_mem h1, ?_⟩)
    by_cases h3 : k + 1 = i
    · subst h3
      have h4 : z_ok ls (k + 1) = (w.category == 1) := by simp only [z_ok, h1]
      rw [h4] at hok
      have h5 : w.category = 1 := eq_of_beq hok
      simp [zc_cat, h5]
    · simp [hk, h3]
/-- what a method leaves behind -/
def z_Q (g : zG) (mc : Nat) (Q : Option Value → zS → zM → Prop) : Array Value → State → Outcome → State → Prop := fun _ st o t =>
  (∃ (v : Option Value) (S : zS) (M : zM), o = .returned (v.map (zc g)) ∧ Q v S M ∧ gB g + S.1 = st.heap.size + mc ∧ S.1 ≤ 1000000 ∧ gB g + S.1 ≤ t.heap.size ∧ va_P (gD g) vwCl (z_w g S M) t.heap) ∧ va_F (gA g) st t
/-- THE JUDGEMENT: the method (own, cc, nL, rt) comes from pc with these locals, stack, shape and memory to its end with Q; d: frames that are left, bc, bs: cells and slots that it still makes -/
def AW (l : Launch) (g : zG) (own : String) (cc : ByteArray) (nL : Nat) (rt : Option FieldType) (ini : Bool) (d bc bs pc : Nat) (ls : List (Option Value)) (st : List Value) (S : zS) (M : zM) (Q : Option Value → zS → zM → Prop) : Prop :=
  ∀ (p : Program) (e : Env) (R : Room) (s : State) (m : MethodId) (args : Array Value) (below : List Frame) (meth : Method) (c : Code) (H : Heap) (locs : List Loc) (cells slots mc ms : Nat),
    p.tables.exec = Jvm.exec → c.code = cc → meth.sig.returnType = rt → c.maxLocals = nL → s.vm.findClass own = some m.cls → meth.locks = false → (ini = true → meth.name = "<init>") → z_Amb g s →
    d ≤ R.frames → 40 * d ≤ R.locals → cells + bc = mc → slots + bs ≤ ms → mc ≤ R.cells → ms ≤ R.slots → s.heap.size + cells = gB g + S.1 → gB g + S.1 ≤ H.size → S.1 ≤ 1000000 →
    va_P (gD g) vwCl (z_w g S M) H → va_S (gA g) s.heap H locs → ∀ la : Array Slot, z_has g la nL ls →
    W p l e R s m args below meth c H locs cells slots (MQ below (z_Q g mc Q) args s mc ms (gA g)) (F0 m pc la (st.map (zc g)))
section AWR
variable {l : Launch} {g : zG} {own : String} {cc : ByteArray} {nL : Nat} {rt : Option FieldType} {ini : Bool} {d bc bs pc : Nat} {ls : List (Option Value)} {st : List Value} {S : zS} {M : zM} {Q : Option Value → zS → zM → Prop}
theorem AW.iconst (pc' : Nat) {n : Int} (v : Int32) (hd : decode cc pc = .ok (.iconst n, 1)) (hv : Int32.ofInt n = v) (hp : pc + 1 = pc') (k : AW l g own cc nL rt ini d bc bs pc' ls (.int v :: st) S M Q) : AW l g own cc nL rt ini d bc bs pc ls st S M Q := by
  subst hp
  intro p e R s m args below meth c H locs cells slots mc ms hx hb hr hml hown hlk hin hA h1 h2 h3 h4 h5 h6 h7 h8 h9 hP hS la hl
  exact lv_iconst hx hb hd hv (k p e R s m args below meth c H locs cells slots mc ms hx hb hr hml hown hlk hin hA h1 h2 h3 h4 h5 h6 h7 h8 h9 hP hS la hl)
end AWR
