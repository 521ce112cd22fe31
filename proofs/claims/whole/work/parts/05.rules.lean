section AWR
variable {l : Launch} {g : zG} {own : String} {cc : ByteArray} {nL : Nat} {rt : Option FieldType} {ini : Bool} {d bc bs pc : Nat} {ls : List (Option Value)} {st : List Value} {S : zS} {M : zM} {Q : Option Value → zS → zM → Prop}
theorem AW.bipush (pc' : Nat) {n : Int} (v : Int32) (hd : decode cc pc = .ok (.bipush n, 2)) (hv : (Int8.ofInt n).toInt32 = v) (hp : pc + 2 = pc') (k : AW l g own cc nL rt ini d bc bs pc' ls (.int v :: st) S M Q) : AW l g own cc nL rt ini d bc bs pc ls (st) S M Q := by
  subst hp
  intro p e R s m args below meth c H locs cells slots mc ms hx hb hr hml hown hlk hin hA h1 h2 h3 h4 h5 h6 h7 h8 h9 hP hS la hl
  exact lv_bipush hx hb hd hv (k p e R s m args below meth c H locs cells slots mc ms hx hb hr hml hown hlk hin hA h1 h2 h3 h4 h5 h6 h7 h8 h9 hP hS la hl)
theorem AW.sipush (pc' : Nat) {n : Int} (v : Int32) (hd : decode cc pc = .ok (.sipush n, 3)) (hv : (Int16.ofInt n).toInt32 = v) (hp : pc + 3 = pc') (k : AW l g own cc nL rt ini d bc bs pc' ls (.int v :: st) S M Q) : AW l g own cc nL rt ini d bc bs pc ls (st) S M Q := by
  subst hp
  intro p e R s m args below meth c H locs cells slots mc ms hx hb hr hml hown hlk hin hA h1 h2 h3 h4 h5 h6 h7 h8 h9 hP hS la hl
  exact lv_sipush hx hb hd hv (k p e R s m args below meth c H locs cells slots mc ms hx hb hr hml hown hlk hin hA h1 h2 h3 h4 h5 h6 h7 h8 h9 hP hS la hl)
theorem AW.lconst (pc' : Nat) {n : Fin 2} (v : Int64) (hd : decode cc pc = .ok (.lconst n, 1)) (hv : Int64.ofNat (n : Nat) = v) (hp : pc + 1 = pc') (k : AW l g own cc nL rt ini d bc bs pc' ls (.long v :: st) S M Q) : AW l g own cc nL rt ini d bc bs pc ls (st) S M Q := by
  subst hp
  intro p e R s m args below meth c H locs cells slots mc ms hx hb hr hml hown hlk hin hA h1 h2 h3 h4 h5 h6 h7 h8 h9 hP hS la hl
  exact lv_lconst hx hb hd hv (k p e R s m args below meth c H locs cells slots mc ms hx hb hr hml hown hlk hin hA h1 h2 h3 h4 h5 h6 h7 h8 h9 hP hS la hl)
theorem AW.ldc (pc' : Nat) {ix : Nat} (v : Int32) (hd : decode cc pc = .ok (.ldc ix, 2)) (hw : Cond.constant own ix v ∈ z_U) (hp : pc + 2 = pc') (k : AW l g own cc nL rt ini d bc bs pc' ls (.int v :: st) S M Q) : AW l g own cc nL rt ini d bc bs pc ls (st) S M Q := by
  subst hp
  intro p e R s m args below meth c H locs cells slots mc ms hx hb hr hml hown hlk hin hA h1 h2 h3 h4 h5 h6 h7 h8 h9 hP hS la hl
  exact lv_ldc hx hb hown (hA.word _ hw) hd (k p e R s m args below meth c H locs cells slots mc ms hx hb hr hml hown hlk hin hA h1 h2 h3 h4 h5 h6 h7 h8 h9 hP hS la hl)
theorem AW.ldc2 (pc' : Nat) {ix : Nat} (v : Int64) (hd : decode cc pc = .ok (.ldc2_w ix, 3)) (hw : Cond.constantLong own ix v ∈ z_U) (hp : pc + 3 = pc') (k : AW l g own cc nL rt ini d bc bs pc' ls (.long v :: st) S M Q) : AW l g own cc nL rt ini d bc bs pc ls (st) S M Q := by
  subst hp
  intro p e R s m args below meth c H locs cells slots mc ms hx hb hr hml hown hlk hin hA h1 h2 h3 h4 h5 h6 h7 h8 h9 hP hS la hl
  exact lv_ldc2 hx hb hown (hA.word _ hw) hd (k p e R s m args below meth c H locs cells slots mc ms hx hb hr hml hown hlk hin hA h1 h2 h3 h4 h5 h6 h7 h8 h9 hP hS la hl)
theorem AW.iload_n (pc' : Nat) {k0 : Fin 4} {x : Int32} (hd : decode cc pc = .ok (.iload_n k0, 1)) (hv : ls[(k0 : Nat)]? = some (some (.int x))) (hp : pc + 1 = pc') (k : AW l g own cc nL rt ini d bc bs pc' ls (.int x :: st) S M Q) : AW l g own cc nL rt ini d bc bs pc ls (st) S M Q := by
  subst hp
  intro p e R s m args below meth c H locs cells slots mc ms hx hb hr hml hown hlk hin hA h1 h2 h3 h4 h5 h6 h7 h8 h9 hP hS la hl
  exact lv_iload_n hx hb hd rfl (hl.at hv) (k p e R s m args below meth c H locs cells slots mc ms hx hb hr hml hown hlk hin hA h1 h2 h3 h4 h5 h6 h7 h8 h9 hP hS la hl)
theorem AW.iload (pc' : Nat) {i : Nat} {x : Int32} (hd : decode cc pc = .ok (.iload i, 2)) (hv : ls[i]? = some (some (.int x))) (hp : pc + 2 = pc') (k : AW l g own cc nL rt ini d bc bs pc' ls (.int x :: st) S M Q) : AW l g own cc nL rt ini d bc bs pc ls (st) S M Q := by
  subst hp
  intro p e R s m args below meth c H locs cells slots mc ms hx hb hr hml hown hlk hin hA h1 h2 h3 h4 h5 h6 h7 h8 h9 hP hS la hl
  exact lv_iload hx hb hd (hl.at hv) (k p e R s m args below meth c H locs cells slots mc ms hx hb hr hml hown hlk hin hA h1 h2 h3 h4 h5 h6 h7 h8 h9 hP hS la hl)
theorem AW.lload_n (pc' : Nat) {k0 : Fin 4} {x : Int64} (hd : decode cc pc = .ok (.lload_n k0, 1)) (hv : ls[(k0 : Nat)]? = some (some (.long x))) (hp : pc + 1 = pc') (k : AW l g own cc nL rt ini d bc bs pc' ls (.long x :: st) S M Q) : AW l g own cc nL rt ini d bc bs pc ls (st) S M Q := by
  subst hp
  intro p e R s m args below meth c H locs cells slots mc ms hx hb hr hml hown hlk hin hA h1 h2 h3 h4 h5 h6 h7 h8 h9 hP hS la hl
  exact lv_lload_n hx hb hd rfl (hl.at hv) (k p e R s m args below meth c H locs cells slots mc ms hx hb hr hml hown hlk hin hA h1 h2 h3 h4 h5 h6 h7 h8 h9 hP hS la hl)
theorem AW.lload (pc' : Nat) {i : Nat} {x : Int64} (hd : decode cc pc = .ok (.lload i, 2)) (hv : ls[i]? = some (some (.long x))) (hp : pc + 2 = pc') (k : AW l g own cc nL rt ini d bc bs pc' ls (.long x :: st) S M Q) : AW l g own cc nL rt ini d bc bs pc ls (st) S M Q := by
  subst hp
  intro p e R s m args below meth c H locs cells slots mc ms hx hb hr hml hown hlk hin hA h1 h2 h3 h4 h5 h6 h7 h8 h9 hP hS la hl
  exact lv_lload hx hb hd (hl.at hv) (k p e R s m args below meth c H locs cells slots mc ms hx hb hr hml hown hlk hin hA h1 h2 h3 h4 h5 h6 h7 h8 h9 hP hS la hl)
theorem AW.aload_n (pc' : Nat) {k0 : Fin 4} {x : Nat} (hd : decode cc pc = .ok (.aload_n k0, 1)) (hv : ls[(k0 : Nat)]? = some (some (.ref x))) (hp : pc + 1 = pc') (k : AW l g own cc nL rt ini d bc bs pc' ls (.ref x :: st) S M Q) : AW l g own cc nL rt ini d bc bs pc ls (st) S M Q := by
  subst hp
  intro p e R s m args below meth c H locs cells slots mc ms hx hb hr hml hown hlk hin hA h1 h2 h3 h4 h5 h6 h7 h8 h9 hP hS la hl
  exact lv_aload_n hx hb hd rfl (hl.at hv) (k p e R s m args below meth c H locs cells slots mc ms hx hb hr hml hown hlk hin hA h1 h2 h3 h4 h5 h6 h7 h8 h9 hP hS la hl)
theorem AW.aload (pc' : Nat) {i : Nat} {x : Nat} (hd : decode cc pc = .ok (.aload i, 2)) (hv : ls[i]? = some (some (.ref x))) (hp : pc + 2 = pc') (k : AW l g own cc nL rt ini d bc bs pc' ls (.ref x :: st) S M Q) : AW l g own cc nL rt ini d bc bs pc ls (st) S M Q := by
  subst hp
  intro p e R s m args below meth c H locs cells slots mc ms hx hb hr hml hown hlk hin hA h1 h2 h3 h4 h5 h6 h7 h8 h9 hP hS la hl
  exact lv_aload hx hb hd (hl.at hv) (k p e R s m args below meth c H locs cells slots mc ms hx hb hr hml hown hlk hin hA h1 h2 h3 h4 h5 h6 h7 h8 h9 hP hS la hl)
theorem AW.istore_n (pc' : Nat) {k0 : Fin 4} {x : Int32} {ls' : List (Option Value)} (hd : decode cc pc = .ok (.istore_n k0, 1)) (hi : (k0 : Nat) < nL) (hok : z_ok ls (k0 : Nat) = true) (hp : pc + 1 = pc') (hls : ls.set (k0 : Nat) (some (.int x)) = ls') (k : AW l g own cc nL rt ini d bc bs pc' ls' st S M Q) : AW l g own cc nL rt ini d bc bs pc ls (.int x :: st) S M Q := by
  subst hp; subst hls
  intro p e R s m args below meth c H locs cells slots mc ms hx hb hr hml hown hlk hin hA h1 h2 h3 h4 h5 h6 h7 h8 h9 hP hS la hl
  exact lv_istore_n hx hb hd rfl hl.2 hi rfl (fun la' hl' => k p e R s m args below meth c H locs cells slots mc ms hx hb hr hml hown hlk hin hA h1 h2 h3 h4 h5 h6 h7 h8 h9 hP hS la' (z_has.set (v := .int x) hl.1 hok hl'))
theorem AW.istore (pc' : Nat) {i : Nat} {x : Int32} {ls' : List (Option Value)} (hd : decode cc pc = .ok (.istore i, 2)) (hi : i < nL) (hok : z_ok ls i = true) (hp : pc + 2 = pc') (hls : ls.set i (some (.int x)) = ls') (k : AW l g own cc nL rt ini d bc bs pc' ls' st S M Q) : AW l g own cc nL rt ini d bc bs pc ls (.int x :: st) S M Q := by
  subst hp; subst hls
  intro p e R s m args below meth c H locs cells slots mc ms hx hb hr hml hown hlk hin hA h1 h2 h3 h4 h5 h6 h7 h8 h9 hP hS la hl
  exact lv_istore hx hb hd hl.2 hi rfl (fun la' hl' => k p e R s m args below meth c H locs cells slots mc ms hx hb hr hml hown hlk hin hA h1 h2 h3 h4 h5 h6 h7 h8 h9 hP hS la' (z_has.set (v := .int x) hl.1 hok hl'))
theorem AW.astore_n (pc' : Nat) {k0 : Fin 4} {x : Nat} {ls' : List (Option Value)} (hd : decode cc pc = .ok (.astore_n k0, 1)) (hi : (k0 : Nat) < nL) (hok : z_ok ls (k0 : Nat) = true) (hp : pc + 1 = pc') (hls : ls.set (k0 : Nat) (some (.ref x)) = ls') (k : AW l g own cc nL rt ini d bc bs pc' ls' st S M Q) : AW l g own cc nL rt ini d bc bs pc ls (.ref x :: st) S M Q := by
  subst hp; subst hls
  intro p e R s m args below meth c H locs cells slots mc ms hx hb hr hml hown hlk hin hA h1 h2 h3 h4 h5 h6 h7 h8 h9 hP hS la hl
  exact lv_astore_n hx hb hd rfl hl.2 hi rfl (fun la' hl' => k p e R s m args below meth c H locs cells slots mc ms hx hb hr hml hown hlk hin hA h1 h2 h3 h4 h5 h6 h7 h8 h9 hP hS la' (z_has.set (v := .ref x) hl.1 hok hl'))
theorem AW.astore (pc' : Nat) {i : Nat} {x : Nat} {ls' : List (Option Value)} (hd : decode cc pc = .ok (.astore i, 2)) (hi : i < nL) (hok : z_ok ls i = true) (hp : pc + 2 = pc') (hls : ls.set i (some (.ref x)) = ls') (k : AW l g own cc nL rt ini d bc bs pc' ls' st S M Q) : AW l g own cc nL rt ini d bc bs pc ls (.ref x :: st) S M Q := by
  subst hp; subst hls
  intro p e R s m args below meth c H locs cells slots mc ms hx hb hr hml hown hlk hin hA h1 h2 h3 h4 h5 h6 h7 h8 h9 hP hS la hl
  exact lv_astore hx hb hd hl.2 hi rfl (fun la' hl' => k p e R s m args below meth c H locs cells slots mc ms hx hb hr hml hown hlk hin hA h1 h2 h3 h4 h5 h6 h7 h8 h9 hP hS la' (z_has.set (v := .ref x) hl.1 hok hl'))
theorem z_lp_get {ls : List (Option Value)} {i : Nat} {v : Value} (h : ls[i]? = some (some v)) : ∃ k : Nat, (z_lp g ls)[k]? = some (i, zc g v) := List.getElem?_of_mem (z_lp_mem h)
theorem AW.iinc (pc' : Nat) {i : Nat} {n : Int} {x : Int32} (v : Int32) {ls' : List (Option Value)} (hd : decode cc pc = .ok (.iinc i n, 3)) (hx0 : ls[i]? = some (some (.int x))) (hv : x + Int32.ofInt n = v) (hi : i < nL) (hok : z_ok ls i = true) (hp : pc + 3 = pc') (hls : ls.set i (some (.int v)) = ls') (k : AW l g own cc nL rt ini d bc bs pc' ls' st S M Q) : AW l g own cc nL rt ini d bc bs pc ls st S M Q := by
  subst hp; subst hls
  intro p e R s m args below meth c H locs cells slots mc ms hx hb hr hml hown hlk hin hA h1 h2 h3 h4 h5 h6 h7 h8 h9 hP hS la hl
  obtain ⟨k0, hk0⟩ := z_lp_get (g := g) hx0
  exact lv_iinc hx hb hd hl.2 hk0 hv hi rfl (fun la' hl' => k p e R s m args below meth c H locs cells slots mc ms hx hb hr hml hown hlk hin hA h1 h2 h3 h4 h5 h6 h7 h8 h9 hP hS la' (z_has.set (v := .int v) hl.1 hok hl'))
theorem AW.iadd (pc' : Nat) {x y : Int32} (hd : decode cc pc = .ok (.iadd, 1))  (hp : pc + 1 = pc') (k : AW l g own cc nL rt ini d bc bs pc' ls (.int (x + y) :: st) S M Q) : AW l g own cc nL rt ini d bc bs pc ls (.int y :: .int x :: st) S M Q := by
  subst hp
  intro p e R s m args below meth c H locs cells slots mc ms hx hb hr hml hown hlk hin hA h1 h2 h3 h4 h5 h6 h7 h8 h9 hP hS la hl
  exact lv_iadd hx hb hd (k p e R s m args below meth c H locs cells slots mc ms hx hb hr hml hown hlk hin hA h1 h2 h3 h4 h5 h6 h7 h8 h9 hP hS la hl)
theorem AW.isub (pc' : Nat) {x y : Int32} (hd : decode cc pc = .ok (.isub, 1))  (hp : pc + 1 = pc') (k : AW l g own cc nL rt ini d bc bs pc' ls (.int (x - y) :: st) S M Q) : AW l g own cc nL rt ini d bc bs pc ls (.int y :: .int x :: st) S M Q := by
  subst hp
  intro p e R s m args below meth c H locs cells slots mc ms hx hb hr hml hown hlk hin hA h1 h2 h3 h4 h5 h6 h7 h8 h9 hP hS la hl
  exact lv_isub hx hb hd (k p e R s m args below meth c H locs cells slots mc ms hx hb hr hml hown hlk hin hA h1 h2 h3 h4 h5 h6 h7 h8 h9 hP hS la hl)
theorem AW.imul (pc' : Nat) {x y : Int32} (hd : decode cc pc = .ok (.imul, 1))  (hp : pc + 1 = pc') (k : AW l g own cc nL rt ini d bc bs pc' ls (.int (x * y) :: st) S M Q) : AW l g own cc nL rt ini d bc bs pc ls (.int y :: .int x :: st) S M Q := by
  subst hp
  intro p e R s m args below meth c H locs cells slots mc ms hx hb hr hml hown hlk hin hA h1 h2 h3 h4 h5 h6 h7 h8 h9 hP hS la hl
  exact lv_imul hx hb hd (k p e R s m args below meth c H locs cells slots mc ms hx hb hr hml hown hlk hin hA h1 h2 h3 h4 h5 h6 h7 h8 h9 hP hS la hl)
theorem AW.iand (pc' : Nat) {x y : Int32} (hd : decode cc pc = .ok (.iand, 1))  (hp : pc + 1 = pc') (k : AW l g own cc nL rt ini d bc bs pc' ls (.int (x &&& y) :: st) S M Q) : AW l g own cc nL rt ini d bc bs pc ls (.int y :: .int x :: st) S M Q := by
  subst hp
  intro p e R s m args below meth c H locs cells slots mc ms hx hb hr hml hown hlk hin hA h1 h2 h3 h4 h5 h6 h7 h8 h9 hP hS la hl
  exact lv_iand hx hb hd (k p e R s m args below meth c H locs cells slots mc ms hx hb hr hml hown hlk hin hA h1 h2 h3 h4 h5 h6 h7 h8 h9 hP hS la hl)
theorem AW.ior (pc' : Nat) {x y : Int32} (hd : decode cc pc = .ok (.ior, 1))  (hp : pc + 1 = pc') (k : AW l g own cc nL rt ini d bc bs pc' ls (.int (x ||| y) :: st) S M Q) : AW l g own cc nL rt ini d bc bs pc ls (.int y :: .int x :: st) S M Q := by
  subst hp
  intro p e R s m args below meth c H locs cells slots mc ms hx hb hr hml hown hlk hin hA h1 h2 h3 h4 h5 h6 h7 h8 h9 hP hS la hl
  exact lv_ior hx hb hd (k p e R s m args below meth c H locs cells slots mc ms hx hb hr hml hown hlk hin hA h1 h2 h3 h4 h5 h6 h7 h8 h9 hP hS la hl)
theorem AW.ixor (pc' : Nat) {x y : Int32} (hd : decode cc pc = .ok (.ixor, 1))  (hp : pc + 1 = pc') (k : AW l g own cc nL rt ini d bc bs pc' ls (.int (x ^^^ y) :: st) S M Q) : AW l g own cc nL rt ini d bc bs pc ls (.int y :: .int x :: st) S M Q := by
  subst hp
  intro p e R s m args below meth c H locs cells slots mc ms hx hb hr hml hown hlk hin hA h1 h2 h3 h4 h5 h6 h7 h8 h9 hP hS la hl
  exact lv_ixor hx hb hd (k p e R s m args below meth c H locs cells slots mc ms hx hb hr hml hown hlk hin hA h1 h2 h3 h4 h5 h6 h7 h8 h9 hP hS la hl)
theorem AW.ishl (pc' : Nat) {x y : Int32} (hd : decode cc pc = .ok (.ishl, 1))  (hp : pc + 1 = pc') (k : AW l g own cc nL rt ini d bc bs pc' ls (.int (x <<< (y &&& 31)) :: st) S M Q) : AW l g own cc nL rt ini d bc bs pc ls (.int y :: .int x :: st) S M Q := by
  subst hp
  intro p e R s m args below meth c H locs cells slots mc ms hx hb hr hml hown hlk hin hA h1 h2 h3 h4 h5 h6 h7 h8 h9 hP hS la hl
  exact lv_ishl hx hb hd (k p e R s m args below meth c H locs cells slots mc ms hx hb hr hml hown hlk hin hA h1 h2 h3 h4 h5 h6 h7 h8 h9 hP hS la hl)
theorem AW.ishr (pc' : Nat) {x y : Int32} (hd : decode cc pc = .ok (.ishr, 1))  (hp : pc + 1 = pc') (k : AW l g own cc nL rt ini d bc bs pc' ls (.int (x >>> (y &&& 31)) :: st) S M Q) : AW l g own cc nL rt ini d bc bs pc ls (.int y :: .int x :: st) S M Q := by
  subst hp
  intro p e R s m args below meth c H locs cells slots mc ms hx hb hr hml hown hlk hin hA h1 h2 h3 h4 h5 h6 h7 h8 h9 hP hS la hl
  exact lv_ishr hx hb hd (k p e R s m args below meth c H locs cells slots mc ms hx hb hr hml hown hlk hin hA h1 h2 h3 h4 h5 h6 h7 h8 h9 hP hS la hl)
theorem AW.iushr (pc' : Nat) {x y : Int32} (hd : decode cc pc = .ok (.iushr, 1))  (hp : pc + 1 = pc') (k : AW l g own cc nL rt ini d bc bs pc' ls (.int (x.toUInt32 >>> (y.toUInt32 &&& Int32.toUInt32 31)).toInt32 :: st) S M Q) : AW l g own cc nL rt ini d bc bs pc ls (.int y :: .int x :: st) S M Q := by
  subst hp
  intro p e R s m args below meth c H locs cells slots mc ms hx hb hr hml hown hlk hin hA h1 h2 h3 h4 h5 h6 h7 h8 h9 hP hS la hl
  exact lv_iushr hx hb hd rfl (k p e R s m args below meth c H locs cells slots mc ms hx hb hr hml hown hlk hin hA h1 h2 h3 h4 h5 h6 h7 h8 h9 hP hS la hl)
theorem AW.idiv (pc' : Nat) {x y : Int32} (hd : decode cc pc = .ok (.idiv, 1)) (hne : ¬ y = 0) (hp : pc + 1 = pc') (k : AW l g own cc nL rt ini d bc bs pc' ls (.int (x / y) :: st) S M Q) : AW l g own cc nL rt ini d bc bs pc ls (.int y :: .int x :: st) S M Q := by
  subst hp
  intro p e R s m args below meth c H locs cells slots mc ms hx hb hr hml hown hlk hin hA h1 h2 h3 h4 h5 h6 h7 h8 h9 hP hS la hl
  exact lv_idiv hx hb hd hne (k p e R s m args below meth c H locs cells slots mc ms hx hb hr hml hown hlk hin hA h1 h2 h3 h4 h5 h6 h7 h8 h9 hP hS la hl)
theorem AW.irem (pc' : Nat) {x y : Int32} (hd : decode cc pc = .ok (.irem, 1)) (hne : ¬ y = 0) (hp : pc + 1 = pc') (k : AW l g own cc nL rt ini d bc bs pc' ls (.int (x - x / y * y) :: st) S M Q) : AW l g own cc nL rt ini d bc bs pc ls (.int y :: .int x :: st) S M Q := by
  subst hp
  intro p e R s m args below meth c H locs cells slots mc ms hx hb hr hml hown hlk hin hA h1 h2 h3 h4 h5 h6 h7 h8 h9 hP hS la hl
  exact lv_irem hx hb hd hne (k p e R s m args below meth c H locs cells slots mc ms hx hb hr hml hown hlk hin hA h1 h2 h3 h4 h5 h6 h7 h8 h9 hP hS la hl)
theorem AW.ladd (pc' : Nat) {x y : Int64} (hd : decode cc pc = .ok (.ladd, 1))  (hp : pc + 1 = pc') (k : AW l g own cc nL rt ini d bc bs pc' ls (.long (x + y) :: st) S M Q) : AW l g own cc nL rt ini d bc bs pc ls (.long y :: .long x :: st) S M Q := by
  subst hp
  intro p e R s m args below meth c H locs cells slots mc ms hx hb hr hml hown hlk hin hA h1 h2 h3 h4 h5 h6 h7 h8 h9 hP hS la hl
  exact lv_ladd hx hb hd (k p e R s m args below meth c H locs cells slots mc ms hx hb hr hml hown hlk hin hA h1 h2 h3 h4 h5 h6 h7 h8 h9 hP hS la hl)
theorem AW.land (pc' : Nat) {x y : Int64} (hd : decode cc pc = .ok (.land, 1))  (hp : pc + 1 = pc') (k : AW l g own cc nL rt ini d bc bs pc' ls (.long (x &&& y) :: st) S M Q) : AW l g own cc nL rt ini d bc bs pc ls (.long y :: .long x :: st) S M Q := by
  subst hp
  intro p e R s m args below meth c H locs cells slots mc ms hx hb hr hml hown hlk hin hA h1 h2 h3 h4 h5 h6 h7 h8 h9 hP hS la hl
  exact lv_land hx hb hd (k p e R s m args below meth c H locs cells slots mc ms hx hb hr hml hown hlk hin hA h1 h2 h3 h4 h5 h6 h7 h8 h9 hP hS la hl)
theorem AW.lor (pc' : Nat) {x y : Int64} (hd : decode cc pc = .ok (.lor, 1))  (hp : pc + 1 = pc') (k : AW l g own cc nL rt ini d bc bs pc' ls (.long (x ||| y) :: st) S M Q) : AW l g own cc nL rt ini d bc bs pc ls (.long y :: .long x :: st) S M Q := by
  subst hp
  intro p e R s m args below meth c H locs cells slots mc ms hx hb hr hml hown hlk hin hA h1 h2 h3 h4 h5 h6 h7 h8 h9 hP hS la hl
  exact lv_lor hx hb hd (k p e R s m args below meth c H locs cells slots mc ms hx hb hr hml hown hlk hin hA h1 h2 h3 h4 h5 h6 h7 h8 h9 hP hS la hl)
theorem AW.lshl (pc' : Nat) {x : Int64} {y : Int32} (hd : decode cc pc = .ok (.lshl, 1))  (hp : pc + 1 = pc') (k : AW l g own cc nL rt ini d bc bs pc' ls (.long (x <<< (y.toInt64 &&& 63)) :: st) S M Q) : AW l g own cc nL rt ini d bc bs pc ls (.int y :: .long x :: st) S M Q := by
  subst hp
  intro p e R s m args below meth c H locs cells slots mc ms hx hb hr hml hown hlk hin hA h1 h2 h3 h4 h5 h6 h7 h8 h9 hP hS la hl
  exact lv_lshl hx hb hd rfl (k p e R s m args below meth c H locs cells slots mc ms hx hb hr hml hown hlk hin hA h1 h2 h3 h4 h5 h6 h7 h8 h9 hP hS la hl)
theorem AW.lshr (pc' : Nat) {x : Int64} {y : Int32} (hd : decode cc pc = .ok (.lshr, 1))  (hp : pc + 1 = pc') (k : AW l g own cc nL rt ini d bc bs pc' ls (.long (x >>> (y.toInt64 &&& 63)) :: st) S M Q) : AW l g own cc nL rt ini d bc bs pc ls (.int y :: .long x :: st) S M Q := by
  subst hp
  intro p e R s m args below meth c H locs cells slots mc ms hx hb hr hml hown hlk hin hA h1 h2 h3 h4 h5 h6 h7 h8 h9 hP hS la hl
  exact lv_lshr hx hb hd rfl (k p e R s m args below meth c H locs cells slots mc ms hx hb hr hml hown hlk hin hA h1 h2 h3 h4 h5 h6 h7 h8 h9 hP hS la hl)
theorem AW.lushr (pc' : Nat) {x : Int64} {y : Int32} (hd : decode cc pc = .ok (.lushr, 1))  (hp : pc + 1 = pc') (k : AW l g own cc nL rt ini d bc bs pc' ls (.long ((x.toUInt64 >>> (y.toInt64.toUInt64 &&& Int64.toUInt64 63)).toInt64) :: st) S M Q) : AW l g own cc nL rt ini d bc bs pc ls (.int y :: .long x :: st) S M Q := by
  subst hp
  intro p e R s m args below meth c H locs cells slots mc ms hx hb hr hml hown hlk hin hA h1 h2 h3 h4 h5 h6 h7 h8 h9 hP hS la hl
  exact lv_lushr hx hb hd rfl (k p e R s m args below meth c H locs cells slots mc ms hx hb hr hml hown hlk hin hA h1 h2 h3 h4 h5 h6 h7 h8 h9 hP hS la hl)
theorem AW.i2l (pc' : Nat) {x : Int32} (hd : decode cc pc = .ok (.i2l, 1))  (hp : pc + 1 = pc') (k : AW l g own cc nL rt ini d bc bs pc' ls (.long x.toInt64 :: st) S M Q) : AW l g own cc nL rt ini d bc bs pc ls (.int x :: st) S M Q := by
  subst hp
  intro p e R s m args below meth c H locs cells slots mc ms hx hb hr hml hown hlk hin hA h1 h2 h3 h4 h5 h6 h7 h8 h9 hP hS la hl
  exact lv_i2l hx hb hd rfl (k p e R s m args below meth c H locs cells slots mc ms hx hb hr hml hown hlk hin hA h1 h2 h3 h4 h5 h6 h7 h8 h9 hP hS la hl)
theorem AW.l2i (pc' : Nat) {x : Int64} (hd : decode cc pc = .ok (.l2i, 1))  (hp : pc + 1 = pc') (k : AW l g own cc nL rt ini d bc bs pc' ls (.int x.toInt32 :: st) S M Q) : AW l g own cc nL rt ini d bc bs pc ls (.long x :: st) S M Q := by
  subst hp
  intro p e R s m args below meth c H locs cells slots mc ms hx hb hr hml hown hlk hin hA h1 h2 h3 h4 h5 h6 h7 h8 h9 hP hS la hl
  exact lv_l2i hx hb hd rfl (k p e R s m args below meth c H locs cells slots mc ms hx hb hr hml hown hlk hin hA h1 h2 h3 h4 h5 h6 h7 h8 h9 hP hS la hl)
theorem AW.i2b (pc' : Nat) {x : Int32} (hd : decode cc pc = .ok (.i2b, 1))  (hp : pc + 1 = pc') (k : AW l g own cc nL rt ini d bc bs pc' ls (.int x.toInt8.toInt32 :: st) S M Q) : AW l g own cc nL rt ini d bc bs pc ls (.int x :: st) S M Q := by
  subst hp
  intro p e R s m args below meth c H locs cells slots mc ms hx hb hr hml hown hlk hin hA h1 h2 h3 h4 h5 h6 h7 h8 h9 hP hS la hl
  exact lv_i2b hx hb hd rfl (k p e R s m args below meth c H locs cells slots mc ms hx hb hr hml hown hlk hin hA h1 h2 h3 h4 h5 h6 h7 h8 h9 hP hS la hl)
theorem AW.lcmp (pc' : Nat) {x y : Int64} (hd : decode cc pc = .ok (.lcmp, 1))  (hp : pc + 1 = pc') (k : AW l g own cc nL rt ini d bc bs pc' ls (.int (lg_cmp x y) :: st) S M Q) : AW l g own cc nL rt ini d bc bs pc ls (.long y :: .long x :: st) S M Q := by
  subst hp
  intro p e R s m args below meth c H locs cells slots mc ms hx hb hr hml hown hlk hin hA h1 h2 h3 h4 h5 h6 h7 h8 h9 hP hS la hl
  exact W.lcmp hx hb hd (k p e R s m args below meth c H locs cells slots mc ms hx hb hr hml hown hlk hin hA h1 h2 h3 h4 h5 h6 h7 h8 h9 hP hS la hl)
theorem AW.dup (pc' : Nat) {v : Value} (hd : decode cc pc = .ok (.dup, 1)) (hc : v.category = 1) (hp : pc + 1 = pc') (k : AW l g own cc nL rt ini d bc bs pc' ls (v :: v :: st) S M Q) : AW l g own cc nL rt ini d bc bs pc ls (v :: st) S M Q := by
  subst hp
  intro p e R s m args below meth c H locs cells slots mc ms hx hb hr hml hown hlk hin hA h1 h2 h3 h4 h5 h6 h7 h8 h9 hP hS la hl
  exact lv_dup hx hb hd (by rw [zc_cat]; exact hc) (k p e R s m args below meth c H locs cells slots mc ms hx hb hr hml hown hlk hin hA h1 h2 h3 h4 h5 h6 h7 h8 h9 hP hS la hl)
theorem AW.dup2 (pc' : Nat) {v w : Value} (hd : decode cc pc = .ok (.dup2, 1)) (hc : v.category = 1) (hc2 : w.category = 1) (hp : pc + 1 = pc') (k : AW l g own cc nL rt ini d bc bs pc' ls (v :: w :: v :: w :: st) S M Q) : AW l g own cc nL rt ini d bc bs pc ls (v :: w :: st) S M Q := by
  subst hp
  intro p e R s m args below meth c H locs cells slots mc ms hx hb hr hml hown hlk hin hA h1 h2 h3 h4 h5 h6 h7 h8 h9 hP hS la hl
  exact lv_dup2_11 hx hb hd (by rw [zc_cat]; exact hc) (by rw [zc_cat]; exact hc2) (k p e R s m args below meth c H locs cells slots mc ms hx hb hr hml hown hlk hin hA h1 h2 h3 h4 h5 h6 h7 h8 h9 hP hS la hl)
theorem AW.if_eq (pc' tgt : Nat) {x : Int32} {off : Int} (hd : decode cc pc = .ok (.ifCond .eq off, 3)) (ht : (pc : Int) + off = (tgt : Int)) (hp : pc + 3 = pc') (kt : x = 0 → AW l g own cc nL rt ini d bc bs tgt ls st S M Q) (kf : ¬ x = 0 → AW l g own cc nL rt ini d bc bs pc' ls st S M Q) : AW l g own cc nL rt ini d bc bs pc ls (.int x :: st) S M Q := by
  subst hp
  intro p e R s m args below meth c H locs cells slots mc ms hx hb hr hml hown hlk hin hA h1 h2 h3 h4 h5 h6 h7 h8 h9 hP hS la hl
  exact lv_if_eq hx hb hd ht (fun q => kt q p e R s m args below meth c H locs cells slots mc ms hx hb hr hml hown hlk hin hA h1 h2 h3 h4 h5 h6 h7 h8 h9 hP hS la hl) (fun q => kf q p e R s m args below meth c H locs cells slots mc ms hx hb hr hml hown hlk hin hA h1 h2 h3 h4 h5 h6 h7 h8 h9 hP hS la hl)
theorem AW.icmp_eq (pc' tgt : Nat) {x y : Int32} {off : Int} (hd : decode cc pc = .ok (.if_icmp .eq off, 3)) (ht : (pc : Int) + off = (tgt : Int)) (hp : pc + 3 = pc') (kt : x = y → AW l g own cc nL rt ini d bc bs tgt ls st S M Q) (kf : ¬ x = y → AW l g own cc nL rt ini d bc bs pc' ls st S M Q) : AW l g own cc nL rt ini d bc bs pc ls (.int y :: .int x :: st) S M Q := by
  subst hp
  intro p e R s m args below meth c H locs cells slots mc ms hx hb hr hml hown hlk hin hA h1 h2 h3 h4 h5 h6 h7 h8 h9 hP hS la hl
  exact lv_icmp_eq hx hb hd ht (fun q => kt q p e R s m args below meth c H locs cells slots mc ms hx hb hr hml hown hlk hin hA h1 h2 h3 h4 h5 h6 h7 h8 h9 hP hS la hl) (fun q => kf q p e R s m args below meth c H locs cells slots mc ms hx hb hr hml hown hlk hin hA h1 h2 h3 h4 h5 h6 h7 h8 h9 hP hS la hl)
theorem AW.if_ne (pc' tgt : Nat) {x : Int32} {off : Int} (hd : decode cc pc = .ok (.ifCond .ne off, 3)) (ht : (pc : Int) + off = (tgt : Int)) (hp : pc + 3 = pc') (kt : ¬ x = 0 → AW l g own cc nL rt ini d bc bs tgt ls st S M Q) (kf : x = 0 → AW l g own cc nL rt ini d bc bs pc' ls st S M Q) : AW l g own cc nL rt ini d bc bs pc ls (.int x :: st) S M Q := by
  subst hp
  intro p e R s m args below meth c H locs cells slots mc ms hx hb hr hml hown hlk hin hA h1 h2 h3 h4 h5 h6 h7 h8 h9 hP hS la hl
  exact lv_if_ne hx hb hd ht (fun q => kt q p e R s m args below meth c H locs cells slots mc ms hx hb hr hml hown hlk hin hA h1 h2 h3 h4 h5 h6 h7 h8 h9 hP hS la hl) (fun q => kf q p e R s m args below meth c H locs cells slots mc ms hx hb hr hml hown hlk hin hA h1 h2 h3 h4 h5 h6 h7 h8 h9 hP hS la hl)
theorem AW.icmp_ne (pc' tgt : Nat) {x y : Int32} {off : Int} (hd : decode cc pc = .ok (.if_icmp .ne off, 3)) (ht : (pc : Int) + off = (tgt : Int)) (hp : pc + 3 = pc') (kt : ¬ x = y → AW l g own cc nL rt ini d bc bs tgt ls st S M Q) (kf : x = y → AW l g own cc nL rt ini d bc bs pc' ls st S M Q) : AW l g own cc nL rt ini d bc bs pc ls (.int y :: .int x :: st) S M Q := by
  subst hp
  intro p e R s m args below meth c H locs cells slots mc ms hx hb hr hml hown hlk hin hA h1 h2 h3 h4 h5 h6 h7 h8 h9 hP hS la hl
  exact lv_icmp_ne hx hb hd ht (fun q => kt q p e R s m args below meth c H locs cells slots mc ms hx hb hr hml hown hlk hin hA h1 h2 h3 h4 h5 h6 h7 h8 h9 hP hS la hl) (fun q => kf q p e R s m args below meth c H locs cells slots mc ms hx hb hr hml hown hlk hin hA h1 h2 h3 h4 h5 h6 h7 h8 h9 hP hS la hl)
theorem AW.if_lt (pc' tgt : Nat) {x : Int32} {off : Int} (hd : decode cc pc = .ok (.ifCond .lt off, 3)) (ht : (pc : Int) + off = (tgt : Int)) (hp : pc + 3 = pc') (kt : x < 0 → AW l g own cc nL rt ini d bc bs tgt ls st S M Q) (kf : ¬ x < 0 → AW l g own cc nL rt ini d bc bs pc' ls st S M Q) : AW l g own cc nL rt ini d bc bs pc ls (.int x :: st) S M Q := by
  subst hp
  intro p e R s m args below meth c H locs cells slots mc ms hx hb hr hml hown hlk hin hA h1 h2 h3 h4 h5 h6 h7 h8 h9 hP hS la hl
  exact lv_if_lt hx hb hd ht (fun q => kt q p e R s m args below meth c H locs cells slots mc ms hx hb hr hml hown hlk hin hA h1 h2 h3 h4 h5 h6 h7 h8 h9 hP hS la hl) (fun q => kf q p e R s m args below meth c H locs cells slots mc ms hx hb hr hml hown hlk hin hA h1 h2 h3 h4 h5 h6 h7 h8 h9 hP hS la hl)
theorem AW.icmp_lt (pc' tgt : Nat) {x y : Int32} {off : Int} (hd : decode cc pc = .ok (.if_icmp .lt off, 3)) (ht : (pc : Int) + off = (tgt : Int)) (hp : pc + 3 = pc') (kt : x < y → AW l g own cc nL rt ini d bc bs tgt ls st S M Q) (kf : ¬ x < y → AW l g own cc nL rt ini d bc bs pc' ls st S M Q) : AW l g own cc nL rt ini d bc bs pc ls (.int y :: .int x :: st) S M Q := by
  subst hp
  intro p e R s m args below meth c H locs cells slots mc ms hx hb hr hml hown hlk hin hA h1 h2 h3 h4 h5 h6 h7 h8 h9 hP hS la hl
  exact lv_icmp_lt hx hb hd ht (fun q => kt q p e R s m args below meth c H locs cells slots mc ms hx hb hr hml hown hlk hin hA h1 h2 h3 h4 h5 h6 h7 h8 h9 hP hS la hl) (fun q => kf q p e R s m args below meth c H locs cells slots mc ms hx hb hr hml hown hlk hin hA h1 h2 h3 h4 h5 h6 h7 h8 h9 hP hS la hl)
theorem AW.if_ge (pc' tgt : Nat) {x : Int32} {off : Int} (hd : decode cc pc = .ok (.ifCond .ge off, 3)) (ht : (pc : Int) + off = (tgt : Int)) (hp : pc + 3 = pc') (kt : 0 ≤ x → AW l g own cc nL rt ini d bc bs tgt ls st S M Q) (kf : ¬ 0 ≤ x → AW l g own cc nL rt ini d bc bs pc' ls st S M Q) : AW l g own cc nL rt ini d bc bs pc ls (.int x :: st) S M Q := by
  subst hp
  intro p e R s m args below meth c H locs cells slots mc ms hx hb hr hml hown hlk hin hA h1 h2 h3 h4 h5 h6 h7 h8 h9 hP hS la hl
  exact lv_if_ge hx hb hd ht (fun q => kt q p e R s m args below meth c H locs cells slots mc ms hx hb hr hml hown hlk hin hA h1 h2 h3 h4 h5 h6 h7 h8 h9 hP hS la hl) (fun q => kf q p e R s m args below meth c H locs cells slots mc ms hx hb hr hml hown hlk hin hA h1 h2 h3 h4 h5 h6 h7 h8 h9 hP hS la hl)
theorem AW.icmp_ge (pc' tgt : Nat) {x y : Int32} {off : Int} (hd : decode cc pc = .ok (.if_icmp .ge off, 3)) (ht : (pc : Int) + off = (tgt : Int)) (hp : pc + 3 = pc') (kt : y ≤ x → AW l g own cc nL rt ini d bc bs tgt ls st S M Q) (kf : ¬ y ≤ x → AW l g own cc nL rt ini d bc bs pc' ls st S M Q) : AW l g own cc nL rt ini d bc bs pc ls (.int y :: .int x :: st) S M Q := by
  subst hp
  intro p e R s m args below meth c H locs cells slots mc ms hx hb hr hml hown hlk hin hA h1 h2 h3 h4 h5 h6 h7 h8 h9 hP hS la hl
  exact lv_icmp_ge hx hb hd ht (fun q => kt q p e R s m args below meth c H locs cells slots mc ms hx hb hr hml hown hlk hin hA h1 h2 h3 h4 h5 h6 h7 h8 h9 hP hS la hl) (fun q => kf q p e R s m args below meth c H locs cells slots mc ms hx hb hr hml hown hlk hin hA h1 h2 h3 h4 h5 h6 h7 h8 h9 hP hS la hl)
theorem AW.if_gt (pc' tgt : Nat) {x : Int32} {off : Int} (hd : decode cc pc = .ok (.ifCond .gt off, 3)) (ht : (pc : Int) + off = (tgt : Int)) (hp : pc + 3 = pc') (kt : 0 < x → AW l g own cc nL rt ini d bc bs tgt ls st S M Q) (kf : ¬ 0 < x → AW l g own cc nL rt ini d bc bs pc' ls st S M Q) : AW l g own cc nL rt ini d bc bs pc ls (.int x :: st) S M Q := by
  subst hp
  intro p e R s m args below meth c H locs cells slots mc ms hx hb hr hml hown hlk hin hA h1 h2 h3 h4 h5 h6 h7 h8 h9 hP hS la hl
  exact lv_if_gt hx hb hd ht (fun q => kt q p e R s m args below meth c H locs cells slots mc ms hx hb hr hml hown hlk hin hA h1 h2 h3 h4 h5 h6 h7 h8 h9 hP hS la hl) (fun q => kf q p e R s m args below meth c H locs cells slots mc ms hx hb hr hml hown hlk hin hA h1 h2 h3 h4 h5 h6 h7 h8 h9 hP hS la hl)
theorem AW.icmp_gt (pc' tgt : Nat) {x y : Int32} {off : Int} (hd : decode cc pc = .ok (.if_icmp .gt off, 3)) (ht : (pc : Int) + off = (tgt : Int)) (hp : pc + 3 = pc') (kt : y < x → AW l g own cc nL rt ini d bc bs tgt ls st S M Q) (kf : ¬ y < x → AW l g own cc nL rt ini d bc bs pc' ls st S M Q) : AW l g own cc nL rt ini d bc bs pc ls (.int y :: .int x :: st) S M Q := by
  subst hp
  intro p e R s m args below meth c H locs cells slots mc ms hx hb hr hml hown hlk hin hA h1 h2 h3 h4 h5 h6 h7 h8 h9 hP hS la hl
  exact lv_icmp_gt hx hb hd ht (fun q => kt q p e R s m args below meth c H locs cells slots mc ms hx hb hr hml hown hlk hin hA h1 h2 h3 h4 h5 h6 h7 h8 h9 hP hS la hl) (fun q => kf q p e R s m args below meth c H locs cells slots mc ms hx hb hr hml hown hlk hin hA h1 h2 h3 h4 h5 h6 h7 h8 h9 hP hS la hl)
theorem AW.if_le (pc' tgt : Nat) {x : Int32} {off : Int} (hd : decode cc pc = .ok (.ifCond .le off, 3)) (ht : (pc : Int) + off = (tgt : Int)) (hp : pc + 3 = pc') (kt : x ≤ 0 → AW l g own cc nL rt ini d bc bs tgt ls st S M Q) (kf : ¬ x ≤ 0 → AW l g own cc nL rt ini d bc bs pc' ls st S M Q) : AW l g own cc nL rt ini d bc bs pc ls (.int x :: st) S M Q := by
  subst hp
  intro p e R s m args below meth c H locs cells slots mc ms hx hb hr hml hown hlk hin hA h1 h2 h3 h4 h5 h6 h7 h8 h9 hP hS la hl
  exact lv_if_le hx hb hd ht (fun q => kt q p e R s m args below meth c H locs cells slots mc ms hx hb hr hml hown hlk hin hA h1 h2 h3 h4 h5 h6 h7 h8 h9 hP hS la hl) (fun q => kf q p e R s m args below meth c H locs cells slots mc ms hx hb hr hml hown hlk hin hA h1 h2 h3 h4 h5 h6 h7 h8 h9 hP hS la hl)
theorem AW.icmp_le (pc' tgt : Nat) {x y : Int32} {off : Int} (hd : decode cc pc = .ok (.if_icmp .le off, 3)) (ht : (pc : Int) + off = (tgt : Int)) (hp : pc + 3 = pc') (kt : x ≤ y → AW l g own cc nL rt ini d bc bs tgt ls st S M Q) (kf : ¬ x ≤ y → AW l g own cc nL rt ini d bc bs pc' ls st S M Q) : AW l g own cc nL rt ini d bc bs pc ls (.int y :: .int x :: st) S M Q := by
  subst hp
  intro p e R s m args below meth c H locs cells slots mc ms hx hb hr hml hown hlk hin hA h1 h2 h3 h4 h5 h6 h7 h8 h9 hP hS la hl
  exact lv_icmp_le hx hb hd ht (fun q => kt q p e R s m args below meth c H locs cells slots mc ms hx hb hr hml hown hlk hin hA h1 h2 h3 h4 h5 h6 h7 h8 h9 hP hS la hl) (fun q => kf q p e R s m args below meth c H locs cells slots mc ms hx hb hr hml hown hlk hin hA h1 h2 h3 h4 h5 h6 h7 h8 h9 hP hS la hl)
theorem AW.goto (tgt : Nat) {off : Int} (hd : decode cc pc = .ok (.goto off, 3)) (ht : (pc : Int) + off = (tgt : Int)) (k : AW l g own cc nL rt ini d bc bs tgt ls st S M Q) : AW l g own cc nL rt ini d bc bs pc ls st S M Q := by
  intro p e R s m args below meth c H locs cells slots mc ms hx hb hr hml hown hlk hin hA h1 h2 h3 h4 h5 h6 h7 h8 h9 hP hS la hl
  exact lv_goto hx hb hd ht (k p e R s m args below meth c H locs cells slots mc ms hx hb hr hml hown hlk hin hA h1 h2 h3 h4 h5 h6 h7 h8 h9 hP hS la hl)
theorem AW.tabIn (tgt : Nat) {dflt lo hi : Int} {offs : Array Int} {len : Nat} {x : Int32} {off : Int} (hd : decode cc pc = .ok (.tableswitch dflt lo hi offs, len)) (q1 : ¬ x.toInt < lo) (q2 : ¬ hi < x.toInt) (ho : offs[(x.toInt - lo).toNat]? = some off) (ht : (pc : Int) + off = (tgt : Int)) (k : AW l g own cc nL rt ini d bc bs tgt ls st S M Q) : AW l g own cc nL rt ini d bc bs pc ls (.int x :: st) S M Q := by
  intro p e R s m args below meth c H locs cells slots mc ms hx hb hr hml hown hlk hin hA h1 h2 h3 h4 h5 h6 h7 h8 h9 hP hS la hl
  exact lv_tableIn hx hb hd q1 q2 ho ht (k p e R s m args below meth c H locs cells slots mc ms hx hb hr hml hown hlk hin hA h1 h2 h3 h4 h5 h6 h7 h8 h9 hP hS la hl)
theorem AW.tabOut (tgt : Nat) {dflt lo hi : Int} {offs : Array Int} {len : Nat} {x : Int32} (hd : decode cc pc = .ok (.tableswitch dflt lo hi offs, len)) (q1 : x.toInt < lo ∨ hi < x.toInt) (ht : (pc : Int) + dflt = (tgt : Int)) (k : AW l g own cc nL rt ini d bc bs tgt ls st S M Q) : AW l g own cc nL rt ini d bc bs pc ls (.int x :: st) S M Q := by
  intro p e R s m args below meth c H locs cells slots mc ms hx hb hr hml hown hlk hin hA h1 h2 h3 h4 h5 h6 h7 h8 h9 hP hS la hl
  exact lv_tableOut hx hb hd q1 ht (k p e R s m args below meth c H locs cells slots mc ms hx hb hr hml hown hlk hin hA h1 h2 h3 h4 h5 h6 h7 h8 h9 hP hS la hl)
theorem AW.topi {x : Int32} (y : Int32) (h : x = y) (k : AW l g own cc nL rt ini d bc bs pc ls (.int y :: st) S M Q) : AW l g own cc nL rt ini d bc bs pc ls (.int x :: st) S M Q := h ▸ k
theorem AW.topn {x : Int32} (k : ∀ y : Int32, y = x → AW l g own cc nL rt ini d bc bs pc ls (.int y :: st) S M Q) : AW l g own cc nL rt ini d bc bs pc ls (.int x :: st) S M Q := k x rfl
end AWR
