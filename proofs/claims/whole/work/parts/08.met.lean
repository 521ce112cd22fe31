theorem z_ent_mem {g : zG} : ∀ (av : List Value) (i k : Nat) (v : Value), (av.flatMap z_sl1)[k]? = some (some v) → (i + k, zc g v) ∈ lv_args i (av.map (zc g))
  | [], i, k, v, h => by simp at h
  | w :: av, i, k, v, h => by
    rw [List.flatMap_cons] at h
    rcases lv_cat w with hw | hw
    · have e1 : z_sl1 w = [some w] := by unfold z_sl1; rw [if_neg (by omega)]
      rw [e1] at h
      cases k with
      | zero =>
        simp at h
        subst h
        simp [lv_args]
      | succ k =>
        rw [List.cons_append, List.getElem?_cons_succ, List.nil_append] at h
        have := z_ent_mem (g := g) av (i + 1) k v h
        rw [show i + 1 + k = i + (k + 1) by omega] at this
        simp only [List.map_cons, lv_args, zc_cat, hw]
        exact List.mem_cons_of_mem _ this
    · have e1 : z_sl1 w = [some w, none] := by unfold z_sl1; rw [if_pos hw]
      rw [e1] at h
      match k, h with
      | 0, h =>
        simp at h
        subst h
        simp [lv_args]
      | 1, h => simp at h
      | k + 2, h =>
        rw [List.cons_append, List.getElem?_cons_succ, List.cons_append, List.getElem?_cons_succ, List.nil_append] at h
        have := z_ent_mem (g := g) av (i + 2) k v h
        rw [show i + 2 + k = i + (k + 2) by omega] at this
        simp only [List.map_cons, lv_args, zc_cat, hw]
        exact List.mem_cons_of_mem _ this
theorem z_ent_len (av : List Value) (g : zG) : (lg_sl (av.map (zc g))).length = (av.flatMap z_sl1).length := by
  induction av with
  | nil => rfl
  | cons w av ih =>
    simp only [lg_sl, List.map_cons, List.flatMap_cons, List.length_append] at ih ⊢
    rw [ih, zc_cat]
    unfold z_sl1
    split <;> rfl
theorem AMet.of {l : Launch} {g : zG} {y : MethodName} {cc : ByteArray} {nL : Nat} {rt : Option FieldType} {ini : Bool} {d bc bs : Nat} {av : List Value} {S : zS} {M : zM} {Q : Option Value → zS → zM → Prop}
    (hy : plainName y.cls = true) (hini : ini = true → y.name = "<init>") (hlen : (av.flatMap z_sl1).length ≤ nL) (k : AW l g y.cls cc nL rt ini d bc bs 0 (z_ent av nL) [] S M Q) : AMet l g y cc nL rt d bc bs av S M Q := by
  refine Met.ofW (cc := cc) (maxL := nL) (ret := rt) hy rfl ?_
  intro p e s m args below meth c s₁ B hml hv
  obtain ⟨rfl, hA, hsz, h9, hP⟩ := hv
  have hown : s.vm.findClass y.cls = some m.cls := findClass_of_methodNamed B.named
  have hin : ini = true → meth.name = "<init>" := fun h => by
    have := (name_of_methodNamed B.named B.method).1
    rw [this]; exact hini h
  have hl := lv_entry (av.map (zc g)) (n := nL) (by rw [z_ent_len]; exact hlen)
  rw [lg_entry_eq]
  generalize (lg_sl (av.map (zc g)) ++ List.replicate (nL - (lg_sl (av.map (zc g))).length) Slot.unset).toArray = la at hl ⊢
  refine k p e _ s m _ below meth c s.heap [] 0 0 bc bs B.exec B.bytes B.returns hml hown B.notSynchronized hin hA (Nat.le_refl _) (Nat.le_refl _) (Nat.zero_add _) (by omega) (Nat.le_refl _) (Nat.le_refl _) (by omega) (by omega) h9 hP va_S.rf la ⟨?_, hl.1, hl.2.1, fun q hq => ?_⟩
  · unfold z_ent; simp only [List.length_append, List.length_replicate]; omega
  · obtain ⟨v, h1, h2⟩ := z_lp_of hq
    obtain ⟨i, x⟩ := q
    dsimp only at h1 h2
    subst h2
    refine hl.2.2 _ ?_
    have h3 : (av.flatMap z_sl1)[i]? = some (some v) := by
      unfold z_ent at h1
      dsimp only at h1
      by_cases hi : i < (av.flatMap z_sl1).length
      · rwa [List.getElem?_append_left hi] at h1
      · rw [List.getElem?_append_right (by omega), List.getElem?_replicate] at h1
        split at h1 <;> cases h1
    have := z_ent_mem (g := g) av 0 i v h3
    rwa [Nat.zero_add] at this
theorem z_Pre.calling {g : zG} {S : zS} {M : zM} {U : State} {f : JFrame} {mk : MethodId} {a : Array Value} (h : z_Pre g S M U) : z_Pre g S M (U.calling f mk a) := ⟨h.1.calling, h.2⟩
theorem z_blind {g : zG} {S : zS} {M : zM} {av : List Value} : FrameBlind (fun v U => v = (av.map (zc g)).toArray ∧ z_Pre g S M U) := fun _ _ _ _ h => ⟨h.1, h.2.calling⟩
section AWK
variable {l : Launch} {g : zG} {own : String} {cc : ByteArray} {nL : Nat} {rt : Option FieldType} {ini : Bool} {d bc bs pc : Nat} {ls : List (Option Value)} {st : List Value} {S : zS} {M : zM} {Q : Option Value → zS → zM → Prop}
/-- behind a call -/
theorem z_back {p : Program} {e : Env} {R : Room} {s : State} {m : MethodId} {args : Array Value} {below : List Frame} {meth : Method} {c : Code} {H : Heap} {locs : List Loc} {cells slots mc ms b2 s2 : Nat} {la : Array Slot} {st0 : List Value} {a : Array Value} {Qk : Option Value → zS → zM → Prop}
    (hx : p.tables.exec = Jvm.exec) (hb : c.code = cc) (hr : meth.sig.returnType = rt) (hml : c.maxLocals = nL) (hown : s.vm.findClass own = some m.cls) (hlk : meth.locks = false) (hin : ini = true → meth.name = "<init>") (hA : z_Amb g s)
    (h1 : d ≤ R.frames) (h2 : 40 * d ≤ R.locals) (h3 : cells + (b2 + bc) = mc) (h4 : slots + (s2 + bs) ≤ ms) (h5 : mc ≤ R.cells) (h6 : ms ≤ R.slots) (h7 : s.heap.size + cells = gB g + S.1) (h8 : gB g + S.1 = H.size) (hS : va_S (gA g) s.heap H locs) (hl : z_has g la nL ls)
    (hrun : va_Run p l e R s m args below meth c H locs cells slots b2 s2 (F0 m pc la st0) (st.map (zc g)) (z_Q g b2 Qk a) (gA g))
    (kk : ∀ v S' M', Qk v S' M' → AW l g own cc nL rt ini d bc bs (pc + 3) ls (v.toList ++ st) S' M' Q) :
    W p l e R s m args below meth c H locs cells slots (MQ below (z_Q g mc Q) args s mc ms (gA g)) (F0 m pc la st0) := by
  intro T hT X
  obtain ⟨v, st₀, t, T', L, h0, X', hL, e1, e2, ⟨⟨v', S', M', hv, hq, hz, h9, hz2, hP1⟩, hF⟩, stp⟩ := hrun T hT X
  cases hv
  rw [h0] at hz
  have hF2 := hF.2
  have hF1 := hF.1
  rw [h0] at hF1 hF2
  obtain ⟨t2, a1, b1⟩ := kk v' S' M' hq p e R s m args below meth c T'.heap (locs ++ L) (cells + b2) (slots + s2) mc ms hx hb hr hml hown hlk hin hA h1 h2 (by omega) (by omega) h5 h6 (by omega) (by rw [e1]; exact hz2) h9 (by rw [e1]; exact hP1)
    ⟨Nat.le_trans hS.1 (by rw [e1]; exact hF1), fun q q1 q2 => by rw [e1, hF2 q (Nat.lt_of_lt_of_le q1 hS.1) q2]; exact hS.2.1 q q1 q2, fun q hq => by
      rcases List.mem_append.mp hq with h | h
      · exact hS.2.2 q h
      · exact hL q h⟩ la hl T' rfl X'
  refine ⟨t2, stp t2 ?_, b1⟩
  have e3 : (v'.map (zc g)).toList ++ st.map (zc g) = (v'.toList ++ st).map (zc g) := by cases v' <;> rfl
  show Steps p.tables e below (T'.setTop (F0 m (pc + 3) la ((v'.map (zc g)).toList ++ st.map (zc g)))) t2
  rw [e3]
  exact a1
/-- the heap's size is known -/
theorem z_size {p : Program} {e : Env} {R : Room} {s : State} {m : MethodId} {args : Array Value} {below : List Frame} {meth : Method} {c : Code} {H : Heap} {locs : List Loc} {cells slots : Nat} {Qw : State → Prop} {f : JFrame} (h7 : s.heap.size + cells = gB g + S.1) (h8 : gB g + S.1 ≤ H.size)
    (kk : gB g + S.1 = H.size → W p l e R s m args below meth c H locs cells slots Qw f) : W p l e R s m args below meth c H locs cells slots Qw f := by
  intro T hT X
  have := X.heapSize
  rw [hT] at this
  exact kk (by omega) T hT X
def z_cvB (own : String) (ix ci : Nat) (y : MethodName) (c2 : ByteArray) (n2 : Nat) (r2 : Option FieldType) (n : Nat) : Bool := match vwCl[ci]? with
  | some q => (wsV own ix q.1 y [Cond.code y c2 n2 r2]).all (fun w => decide (w ∈ z_U) && goodWord w) && decide (y.cls = q.1 ∧ y.cls ≠ "java/lang/invoke/MethodHandle" ∧ y.cls ≠ "java/lang/invoke/VarHandle" ∧ (parseMethodDescriptor y.desc).map (fun d => d.parameters.length) = some n) && Nat.ble n2 21
  | none => false
theorem z_goodIn {ws : List Cond} (h : ws.all (fun w => decide (w ∈ z_U) && goodWord w) = true) : GoodIn z_U ws := fun w hw => by
  have := List.all_eq_true.mp h w hw
  simp only [Bool.and_eq_true, decide_eq_true_eq] at this
  exact ⟨this.1, good_of_word this.2⟩
/-- a call of a method of an object -/
theorem AW.invV {ix ci k n n2 b2 s2 : Nat} {y : MethodName} {c2 : ByteArray} {r2 : Option FieldType} {av st0 : List Value} {Qk : Option Value → zS → zM → Prop} (hd : decode cc pc = .ok (.invokevirtual ix, 3)) (hw : z_cvB own ix ci y c2 n2 r2 n = true) (hc : z_is S k ci) (hn : av.length = n) (hst : av.reverse ++ .ref k :: st = st0) (hcat : (st.map fun v => v.category).sum ≤ 8)
    (hM : AMet l g y c2 n2 r2 d b2 s2 (.ref k :: av) S M Qk) (kk : ∀ v S' M', Qk v S' M' → AW l g own cc nL rt ini (d + 1) bc bs (pc + 3) ls (v.toList ++ st) S' M' Q) : AW l g own cc nL rt ini (d + 1) (b2 + bc) (s2 + bs) pc ls st0 S M Q := by
  subst hst
  intro p e R s m args below meth c H locs cells slots mc ms hx hb hr hml hown hlk hin hA h1 h2 h3 h4 h5 h6 h7 h8 h9 hP hS la hl
  refine z_size h7 h8 (fun h8 => ?_)
  unfold z_cvB at hw
  split at hw
  · rename_i q hq
    obtain ⟨-, -, -, -, c5⟩ := z_cls ci q hq
    simp only [Bool.and_eq_true, decide_eq_true_eq] at hw
    refine z_back (a := (Value.ref (gB g + k) :: av.map (zc g)).toArray) hx hb hr hml hown hlk hin hA h1 h2 h3 h4 h5 h6 h7 h8 hS hl ?_ kk
    refine va_runV (Ts := z_U) (nL := nL) (C := q.1) (y := y) (bytes := c2) (maxL := n2) (ret := r2) (b := gB g + k) (As := av.map (zc g)) (rest := st.map (zc g)) (own := own) (index := ix) ⟨hx, hb, hml, hown, hA.word⟩ hM (cwV n hA.word (z_goodIn hw.1.1) rfl rfl rfl hw.1.2 ⟨h1, ?_⟩) ⟨z_blind, va_recv hA.2.1 hP hq (z_at_obj hc c5), fun U hU hW => ⟨?_, hA.moved hW (by rw [hU]; exact hS.1) (fun q a b => by rw [hU]; exact hS.2.1 q a b), by rw [hU]; exact h8.symm, h9, by rw [hU]; exact hP⟩⟩ rfl (by rw [List.length_map]; exact hn) hl.2.1 ?_ (lv_room (by rw [zc_cats]; exact hcat)) hd ⟨by omega, by omega⟩
    · have := Nat.le_of_ble_eq_true hw.2
      show 8 + (n2 + 11) + 40 * d ≤ R.locals
      omega
    · rw [List.map_cons]; show _ = (Value.ref (z_ad g k) :: _).toArray; rw [z_ad_in hc.lt h9]
    · show (av.reverse ++ .ref k :: st).map (zc g) = _
      rw [List.map_append, List.map_cons, List.map_reverse]
      show _ ++ Value.ref (z_ad g k) :: _ = _
      rw [z_ad_in hc.lt h9]
  · cases hw
/-- static: of any class; of a nest mate (private); constructors: of any class, of a nest mate -/
def z_csB (own : String) (ix : Nat) (y : MethodName) (c2 : ByteArray) (n2 : Nat) (r2 : Option FieldType) (n : Nat) : Bool := (va_wsS own ix y [Cond.code y c2 n2 r2]).all (fun w => decide (w ∈ z_U) && goodWord w) && decide (y.cls ≠ "java/lang/invoke/MethodHandle" ∧ y.cls ≠ "java/lang/invoke/VarHandle" ∧ (parseMethodDescriptor y.desc).map (fun d => d.parameters.length) = some n) && Nat.ble n2 21
def z_csNB (own : String) (ix : Nat) (y : MethodName) (c2 : ByteArray) (n2 : Nat) (r2 : Option FieldType) (n : Nat) : Bool := ([Cond.code y c2 n2 r2]).all (fun w => decide (w ∈ z_U) && goodWord w) && decide (Cond.methodLinkNest own ix y "MachineBench" ∈ z_U) && decide (Cond.initialized y.cls ∈ z_U) && decide (Cond.static y ∈ z_U) && decide (y.cls ≠ "java/lang/invoke/MethodHandle" ∧ y.cls ≠ "java/lang/invoke/VarHandle" ∧ (parseMethodDescriptor y.desc).map (fun d => d.parameters.length) = some n) && Nat.ble n2 21
def z_ciB (own : String) (ix : Nat) (y : MethodName) (c2 : ByteArray) (n2 : Nat) (n : Nat) : Bool := ([Cond.code y c2 n2 none]).all (fun w => decide (w ∈ z_U) && goodWord w) && decide (Cond.methodLink own ix y ∈ z_U) && decide (Cond.initialized y.cls ∈ z_U) && decide (Cond.instanceMethod y ∈ z_U) && decide (y.name = "<init>") && decide (y.cls ≠ "java/lang/invoke/MethodHandle" ∧ y.cls ≠ "java/lang/invoke/VarHandle" ∧ (parseMethodDescriptor y.desc).map (fun d => d.parameters.length) = some n) && Nat.ble n2 21
def z_ciNB (own : String) (ix : Nat) (y : MethodName) (c2 : ByteArray) (n2 : Nat) (n : Nat) : Bool := ([Cond.code y c2 n2 none]).all (fun w => decide (w ∈ z_U) && goodWord w) && decide (Cond.methodLinkNest own ix y "MachineBench" ∈ z_U) && decide (Cond.initialized y.cls ∈ z_U) && decide (Cond.instanceMethod y ∈ z_U) && decide (y.name = "<init>") && decide (y.cls ≠ "java/lang/invoke/MethodHandle" ∧ y.cls ≠ "java/lang/invoke/VarHandle" ∧ (parseMethodDescriptor y.desc).map (fun d => d.parameters.length) = some n) && Nat.ble n2 21
theorem AW.invS {ix n n2 b2 s2 : Nat} {y : MethodName} {c2 : ByteArray} {r2 : Option FieldType} {av st0 : List Value} {Qk : Option Value → zS → zM → Prop} (hd : decode cc pc = .ok (.invokestatic ix, 3)) (hw : z_csB own ix y c2 n2 r2 n = true) (hn : av.length = n) (hst : av.reverse ++ st = st0) (hcat : (st.map fun v => v.category).sum ≤ 8)
    (hM : AMet l g y c2 n2 r2 d b2 s2 av S M Qk) (kk : ∀ v S' M', Qk v S' M' → AW l g own cc nL rt ini (d + 1) bc bs (pc + 3) ls (v.toList ++ st) S' M' Q) : AW l g own cc nL rt ini (d + 1) (b2 + bc) (s2 + bs) pc ls st0 S M Q := by
  subst hst
  intro p e R s m args below meth c H locs cells slots mc ms hx hb hr hml hown hlk hin hA h1 h2 h3 h4 h5 h6 h7 h8 h9 hP hS la hl
  refine z_size h7 h8 (fun h8 => ?_)
  unfold z_csB at hw
  simp only [Bool.and_eq_true, decide_eq_true_eq] at hw
  have h40 : 8 + (n2 + 11) + 40 * d ≤ R.locals := by
    have := Nat.le_of_ble_eq_true hw.2
    omega
  refine z_back (a := (av.map (zc g)).toArray) hx hb hr hml hown hlk hin hA h1 h2 h3 h4 h5 h6 h7 h8 hS hl ?_ kk
  refine va_runS (Ts := z_U) (nL := nL) (y := y) (bytes := c2) (maxL := n2) (ret := r2) (As := av.map (zc g)) (rest := st.map (zc g)) (own := own) (index := ix) ⟨hx, hb, hml, hown, hA.word⟩ hM (va_cwS n hA.word (z_goodIn hw.1.1) rfl rfl rfl hw.1.2 ⟨h1, h40⟩) ⟨z_blind, fun U hU hW => ⟨?_, hA.moved hW (by rw [hU]; exact hS.1) (fun q a b => by rw [hU]; exact hS.2.1 q a b), by rw [hU]; exact h8.symm, h9, by rw [hU]; exact hP⟩⟩ rfl (by rw [List.length_map]; exact hn) hl.2.1 ?_ (lv_room (by rw [zc_cats]; exact hcat)) hd ⟨by omega, by omega⟩
  · rfl
  · show (av.reverse ++ st).map (zc g) = _
    rw [List.map_append, List.map_reverse]
theorem AW.invSN {ix n n2 b2 s2 : Nat} {y : MethodName} {c2 : ByteArray} {r2 : Option FieldType} {av st0 : List Value} {Qk : Option Value → zS → zM → Prop} (hd : decode cc pc = .ok (.invokestatic ix, 3)) (hw : z_csNB own ix y c2 n2 r2 n = true) (hn : av.length = n) (hst : av.reverse ++ st = st0) (hcat : (st.map fun v => v.category).sum ≤ 8)
    (hM : AMet l g y c2 n2 r2 d b2 s2 av S M Qk) (kk : ∀ v S' M', Qk v S' M' → AW l g own cc nL rt ini (d + 1) bc bs (pc + 3) ls (v.toList ++ st) S' M' Q) : AW l g own cc nL rt ini (d + 1) (b2 + bc) (s2 + bs) pc ls st0 S M Q := by
  subst hst
  intro p e R s m args below meth c H locs cells slots mc ms hx hb hr hml hown hlk hin hA h1 h2 h3 h4 h5 h6 h7 h8 h9 hP hS la hl
  refine z_size h7 h8 (fun h8 => ?_)
  unfold z_csNB at hw
  simp only [Bool.and_eq_true, decide_eq_true_eq] at hw
  have h40 : 8 + (n2 + 11) + 40 * d ≤ R.locals := by
    have := Nat.le_of_ble_eq_true hw.2
    omega
  refine z_back (a := (av.map (zc g)).toArray) hx hb hr hml hown hlk hin hA h1 h2 h3 h4 h5 h6 h7 h8 hS hl ?_ kk
  refine va_runSN (Ts := z_U) (nL := nL) (y := y) (bytes := c2) (maxL := n2) (ret := r2) (As := av.map (zc g)) (rest := st.map (zc g)) (own := own) (index := ix) ⟨hx, hb, hml, hown, hA.word⟩ hM ⟨va_cnB n hA.word (z_goodIn hw.1.1.1.1.1) rfl rfl rfl (va_Nw.of rfl (hA.1 _ hw.1.1.1.1.2)) (hA.word _ hw.1.1.1.2) hw.1.2 ⟨h1, h40⟩, hA.word _ hw.1.1.2, trivial⟩ ⟨z_blind, fun U hU hW => ⟨?_, hA.moved hW (by rw [hU]; exact hS.1) (fun q a b => by rw [hU]; exact hS.2.1 q a b), by rw [hU]; exact h8.symm, h9, by rw [hU]; exact hP⟩⟩ rfl (by rw [List.length_map]; exact hn) hl.2.1 ?_ (lv_room (by rw [zc_cats]; exact hcat)) hd ⟨by omega, by omega⟩
  · rfl
  · show (av.reverse ++ st).map (zc g) = _
    rw [List.map_append, List.map_reverse]
theorem AW.invI {ix n n2 b2 s2 k : Nat} {y : MethodName} {c2 : ByteArray} {av st0 : List Value} {Qk : Option Value → zS → zM → Prop} (hd : decode cc pc = .ok (.invokespecial ix, 3)) (hw : z_ciB own ix y c2 n2 n = true) (hk : k < S.1) (hn : av.length = n) (hst : av.reverse ++ .ref k :: st = st0) (hcat : (st.map fun v => v.category).sum ≤ 8)
    (hM : AMet l g y c2 n2 none d b2 s2 (.ref k :: av) S M Qk) (kk : ∀ v S' M', Qk v S' M' → AW l g own cc nL rt ini (d + 1) bc bs (pc + 3) ls (v.toList ++ st) S' M' Q) : AW l g own cc nL rt ini (d + 1) (b2 + bc) (s2 + bs) pc ls st0 S M Q := by
  subst hst
  intro p e R s m args below meth c H locs cells slots mc ms hx hb hr hml hown hlk hin hA h1 h2 h3 h4 h5 h6 h7 h8 h9 hP hS la hl
  refine z_size h7 h8 (fun h8 => ?_)
  unfold z_ciB at hw
  simp only [Bool.and_eq_true, decide_eq_true_eq] at hw
  have h40 : 8 + (n2 + 11) + 40 * d ≤ R.locals := by
    have := Nat.le_of_ble_eq_true hw.2
    omega
  refine z_back (a := (Value.ref (gB g + k) :: av.map (zc g)).toArray) hx hb hr hml hown hlk hin hA h1 h2 h3 h4 h5 h6 h7 h8 hS hl ?_ kk
  refine va_runI (Ts := z_U) (nL := nL) (y := y) (bytes := c2) (maxL := n2) (b := gB g + k) (As := av.map (zc g)) (rest := st.map (zc g)) (own := own) (index := ix) ⟨hx, hb, hml, hown, hA.word⟩ hM (cwI n hA.word (z_goodIn hw.1.1.1.1.1.1) rfl rfl rfl (hA.word _ hw.1.1.1.1.2) (hA.word _ hw.1.1.1.1.1.2) (hA.word _ hw.1.1.1.2) hw.1.1.2 hw.1.2 ⟨h1, h40⟩) ⟨z_blind, fun U hU hW => ⟨?_, hA.moved hW (by rw [hU]; exact hS.1) (fun q a b => by rw [hU]; exact hS.2.1 q a b), by rw [hU]; exact h8.symm, h9, by rw [hU]; exact hP⟩⟩ rfl (by rw [List.length_map]; exact hn) hl.2.1 ?_ (lv_room (by rw [zc_cats]; exact hcat)) hd ⟨by omega, by omega⟩
  · rw [List.map_cons]; show _ = (Value.ref (z_ad g k) :: _).toArray; rw [z_ad_in hk h9]
  · show (av.reverse ++ .ref k :: st).map (zc g) = _
    rw [List.map_append, List.map_cons, List.map_reverse]
    show _ ++ Value.ref (z_ad g k) :: _ = _
    rw [z_ad_in hk h9]
theorem AW.invIN {ix n n2 b2 s2 k : Nat} {y : MethodName} {c2 : ByteArray} {av st0 : List Value} {Qk : Option Value → zS → zM → Prop} (hd : decode cc pc = .ok (.invokespecial ix, 3)) (hw : z_ciNB own ix y c2 n2 n = true) (hk : k < S.1) (hn : av.length = n) (hst : av.reverse ++ .ref k :: st = st0) (hcat : (st.map fun v => v.category).sum ≤ 8)
    (hM : AMet l g y c2 n2 none d b2 s2 (.ref k :: av) S M Qk) (kk : ∀ v S' M', Qk v S' M' → AW l g own cc nL rt ini (d + 1) bc bs (pc + 3) ls (v.toList ++ st) S' M' Q) : AW l g own cc nL rt ini (d + 1) (b2 + bc) (s2 + bs) pc ls st0 S M Q := by
  subst hst
  intro p e R s m args below meth c H locs cells slots mc ms hx hb hr hml hown hlk hin hA h1 h2 h3 h4 h5 h6 h7 h8 h9 hP hS la hl
  refine z_size h7 h8 (fun h8 => ?_)
  unfold z_ciNB at hw
  simp only [Bool.and_eq_true, decide_eq_true_eq] at hw
  have h40 : 8 + (n2 + 11) + 40 * d ≤ R.locals := by
    have := Nat.le_of_ble_eq_true hw.2
    omega
  refine z_back (a := (Value.ref (gB g + k) :: av.map (zc g)).toArray) hx hb hr hml hown hlk hin hA h1 h2 h3 h4 h5 h6 h7 h8 hS hl ?_ kk
  refine va_runIN (Ts := z_U) (nL := nL) (y := y) (bytes := c2) (maxL := n2) (b := gB g + k) (As := av.map (zc g)) (rest := st.map (zc g)) (own := own) (index := ix) ⟨hx, hb, hml, hown, hA.word⟩ hM ⟨va_cnB n hA.word (z_goodIn hw.1.1.1.1.1.1) rfl rfl rfl (va_Nw.of rfl (hA.1 _ hw.1.1.1.1.1.2)) (hA.word _ hw.1.1.1.1.2) hw.1.2 ⟨h1, h40⟩, hw.1.1.2, hA.word _ hw.1.1.1.2⟩ ⟨z_blind, fun U hU hW => ⟨?_, hA.moved hW (by rw [hU]; exact hS.1) (fun q a b => by rw [hU]; exact hS.2.1 q a b), by rw [hU]; exact h8.symm, h9, by rw [hU]; exact hP⟩⟩ rfl (by rw [List.length_map]; exact hn) hl.2.1 ?_ (lv_room (by rw [zc_cats]; exact hcat)) hd ⟨by omega, by omega⟩
  · rw [List.map_cons]; show _ = (Value.ref (z_ad g k) :: _).toArray; rw [z_ad_in hk h9]
  · show (av.reverse ++ .ref k :: st).map (zc g) = _
    rw [List.map_append, List.map_cons, List.map_reverse]
    show _ ++ Value.ref (z_ad g k) :: _ = _
    rw [z_ad_in hk h9]
end AWK
