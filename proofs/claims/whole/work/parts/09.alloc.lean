/-- answers: an int; nothing -/
abbrev z_Qi (Q : Int32 → zS → zM → Prop) : Option Value → zS → zM → Prop := fun v S M => ∃ r : Int32, v = some (.int r) ∧ Q r S M
abbrev z_Qv (Q : zS → zM → Prop) : Option Value → zS → zM → Prop := fun v S M => v = none ∧ Q S M
section AWX
variable {l : Launch} {g : zG} {own : String} {cc : ByteArray} {nL : Nat} {rt : Option FieldType} {ini : Bool} {d bc bs pc : Nat} {ls : List (Option Value)} {st : List Value} {S : zS} {M : zM} {Q : Option Value → zS → zM → Prop}

theorem AW.cVi (pc' : Nat) {ci k : Nat} {ix n n2 : Nat} {y : MethodName} {c2 : ByteArray} {r2 : Option FieldType} (av : List Value) {st0 : List Value} (hd : decode cc pc = .ok (.invokevirtual ix, 3)) (hw : z_cvB own ix ci y c2 n2 r2 n = true) (hc : z_is S k ci) (hn : av.length = n) (hst : av.reverse ++ .ref k :: st = st0) (hcat : (st.map fun v => v.category).sum ≤ 8) (hp : pc + 3 = pc')
    (hM : AMet l g y c2 n2 r2 d 0 0 (.ref k :: av) S M (z_Qi fun r S' M' => AW l g own cc nL rt ini (d + 1) 0 0 pc' ls (.int r :: st) S' M' Q)) : AW l g own cc nL rt ini (d + 1) 0 0 pc ls st0 S M Q := by
  subst hp
  exact AW.invV (b2 := 0) (s2 := 0) (bc := 0) (bs := 0) hd hw hc hn hst hcat hM (fun v S' M' h => by obtain ⟨r, rfl, h⟩ := h; exact h)
theorem AW.cVv (pc' : Nat) {ci k : Nat} {ix n n2 : Nat} {y : MethodName} {c2 : ByteArray} {r2 : Option FieldType} (av : List Value) {st0 : List Value} (hd : decode cc pc = .ok (.invokevirtual ix, 3)) (hw : z_cvB own ix ci y c2 n2 r2 n = true) (hc : z_is S k ci) (hn : av.length = n) (hst : av.reverse ++ .ref k :: st = st0) (hcat : (st.map fun v => v.category).sum ≤ 8) (hp : pc + 3 = pc')
    (hM : AMet l g y c2 n2 r2 d 0 0 (.ref k :: av) S M (z_Qv fun S' M' => AW l g own cc nL rt ini (d + 1) 0 0 pc' ls st S' M' Q)) : AW l g own cc nL rt ini (d + 1) 0 0 pc ls st0 S M Q := by
  subst hp
  exact AW.invV (b2 := 0) (s2 := 0) (bc := 0) (bs := 0) hd hw hc hn hst hcat hM (fun v S' M' h => by obtain ⟨rfl, h⟩ := h; exact h)
theorem AW.cSi (pc' : Nat) {ix n n2 : Nat} {y : MethodName} {c2 : ByteArray} {r2 : Option FieldType} (av : List Value) {st0 : List Value} (hd : decode cc pc = .ok (.invokestatic ix, 3)) (hw : z_csB own ix y c2 n2 r2 n = true) (hn : av.length = n) (hst : av.reverse ++ st = st0) (hcat : (st.map fun v => v.category).sum ≤ 8) (hp : pc + 3 = pc')
    (hM : AMet l g y c2 n2 r2 d 0 0 av S M (z_Qi fun r S' M' => AW l g own cc nL rt ini (d + 1) 0 0 pc' ls (.int r :: st) S' M' Q)) : AW l g own cc nL rt ini (d + 1) 0 0 pc ls st0 S M Q := by
  subst hp
  exact AW.invS (b2 := 0) (s2 := 0) (bc := 0) (bs := 0) hd hw hn hst hcat hM (fun v S' M' h => by obtain ⟨r, rfl, h⟩ := h; exact h)
theorem AW.cSv (pc' : Nat) {ix n n2 : Nat} {y : MethodName} {c2 : ByteArray} {r2 : Option FieldType} (av : List Value) {st0 : List Value} (hd : decode cc pc = .ok (.invokestatic ix, 3)) (hw : z_csB own ix y c2 n2 r2 n = true) (hn : av.length = n) (hst : av.reverse ++ st = st0) (hcat : (st.map fun v => v.category).sum ≤ 8) (hp : pc + 3 = pc')
    (hM : AMet l g y c2 n2 r2 d 0 0 av S M (z_Qv fun S' M' => AW l g own cc nL rt ini (d + 1) 0 0 pc' ls st S' M' Q)) : AW l g own cc nL rt ini (d + 1) 0 0 pc ls st0 S M Q := by
  subst hp
  exact AW.invS (b2 := 0) (s2 := 0) (bc := 0) (bs := 0) hd hw hn hst hcat hM (fun v S' M' h => by obtain ⟨rfl, h⟩ := h; exact h)
theorem AW.cNi (pc' : Nat) {ix n n2 : Nat} {y : MethodName} {c2 : ByteArray} {r2 : Option FieldType} (av : List Value) {st0 : List Value} (hd : decode cc pc = .ok (.invokestatic ix, 3)) (hw : z_csNB own ix y c2 n2 r2 n = true) (hn : av.length = n) (hst : av.reverse ++ st = st0) (hcat : (st.map fun v => v.category).sum ≤ 8) (hp : pc + 3 = pc')
    (hM : AMet l g y c2 n2 r2 d 0 0 av S M (z_Qi fun r S' M' => AW l g own cc nL rt ini (d + 1) 0 0 pc' ls (.int r :: st) S' M' Q)) : AW l g own cc nL rt ini (d + 1) 0 0 pc ls st0 S M Q := by
  subst hp
  exact AW.invSN (b2 := 0) (s2 := 0) (bc := 0) (bs := 0) hd hw hn hst hcat hM (fun v S' M' h => by obtain ⟨r, rfl, h⟩ := h; exact h)
theorem AW.cNv (pc' : Nat) {ix n n2 : Nat} {y : MethodName} {c2 : ByteArray} {r2 : Option FieldType} (av : List Value) {st0 : List Value} (hd : decode cc pc = .ok (.invokestatic ix, 3)) (hw : z_csNB own ix y c2 n2 r2 n = true) (hn : av.length = n) (hst : av.reverse ++ st = st0) (hcat : (st.map fun v => v.category).sum ≤ 8) (hp : pc + 3 = pc')
    (hM : AMet l g y c2 n2 r2 d 0 0 av S M (z_Qv fun S' M' => AW l g own cc nL rt ini (d + 1) 0 0 pc' ls st S' M' Q)) : AW l g own cc nL rt ini (d + 1) 0 0 pc ls st0 S M Q := by
  subst hp
  exact AW.invSN (b2 := 0) (s2 := 0) (bc := 0) (bs := 0) hd hw hn hst hcat hM (fun v S' M' h => by obtain ⟨rfl, h⟩ := h; exact h)
theorem AMet.mono {y : MethodName} {c2 : ByteArray} {n2 : Nat} {r2 : Option FieldType} {b2 s2 : Nat} {av : List Value} {Q1 Q2 : Option Value → zS → zM → Prop} (h : ∀ v S' M', Q1 v S' M' → Q2 v S' M') (hM : AMet l g y c2 n2 r2 d b2 s2 av S M Q1) : AMet l g y c2 n2 r2 d b2 s2 av S M Q2 := by
  unfold AMet Met at hM ⊢
  intro p e ha hc hk s m args below hf hfit hP hK
  obtain ⟨k, o, a1, a2, a3, ⟨⟨⟨v, S', M', e1, e2, e3⟩, hF⟩, hL⟩⟩ := hM p e ha hc hk s m args below hf hfit hP hK
  exact ⟨k, o, a1, a2, a3, ⟨⟨⟨v, S', M', e1, h v S' M' e2, e3⟩, hF⟩, hL⟩⟩
/-- System.arraycopy of int rows -/
theorem AW.copy (pc' : Nat) {ix k0 k1 n0 n1 a b n : Nat} {sp dp c0 : Int32} (hd : decode cc pc = .ok (.invokestatic ix, 3)) (hw : Cond.methodLink own ix arraycopyName ∈ z_U) (hc0 : z_ar S k0 11 n0) (hc1 : z_ar S k1 11 n1) (ea : sp = nI a) (eb : dp = nI b) (en : c0 = nI n) (ha : a + n ≤ n0) (hb0 : b + n ≤ n1) (hn0 : n0 < 2 ^ 31) (hn1 : n1 < 2 ^ 31) (hcat : (st.map fun v => v.category).sum ≤ 8) (hp : pc + 3 = pc')
    (kk : AW l g own cc nL rt ini (d + 1) bc bs pc' ls st S (z_row M k1 (va_cpy (M k0) (M k1) a b n)) Q) : AW l g own cc nL rt ini (d + 1) bc bs pc ls (.int c0 :: .int dp :: .ref k1 :: .int sp :: .ref k0 :: st) S M Q := by
  subst hp; subst ea; subst eb; subst en
  intro p e R s m args below meth c H locs cells slots mc ms hx hb hr hml hown hlk hin hA h1 h2 h3 h4 h5 h6 h7 h8 h9 hP hS la hl
  show W p l e R s m args below meth c H locs cells slots _ (F0 m pc la (.int (nI n) :: .int (nI b) :: .ref (z_ad g k1) :: .int (nI a) :: .ref (z_ad g k0) :: st.map (zc g)))
  rw [z_ad_in hc0.lt h9, z_ad_in hc1.lt h9]
  have ca : (nI a).toNatClampNeg = a := nI_clamp (by omega)
  have cb : (nI b).toNatClampNeg = b := nI_clamp (by omega)
  have cn : (nI n).toNatClampNeg = n := nI_clamp (by omega)
  refine va_copyi (D := gD g) (cl := vwCl) (tys := z_tys g) (ws := z_w g S M) (A := gA g) (H0 := H) (ty := .int) hx hb (hml.trans hl.2.1.symm) hown (hA.word _ hw) (hA.word _ (by decide +kernel)) (hA.word _ (by decide +kernel)) (hA.word _ (by decide +kernel)) hA.2.1 hP (z_w_D g S M) hS.self k0 k1 0 0 (z_at_arr hc0 (by decide) (by decide)) (z_at_arr hc1 (by decide) (by decide)) rfl rfl rfl (nI_pos (by omega)) (nI_pos (by omega)) (nI_pos (by omega)) (by rw [ca, cn]; exact ha) (by rw [cb, cn]; exact hb0) (fun _ _ => rfl) (by omega) ?_ hd (fun H1 locs1 hP1 _ hS1 => ?_)
  · rw [zc_cats]
    have : nativeFrameWords "java/lang/System" "arraycopy" 5 = 7 := by decide
    omega
  · rw [ca, cb, cn] at hP1
    have he := z_set_arr (g := g) (S := S) (M := M) (k := k1) (va_cpy (M k0) (M k1) a b n) hc1.lt (by rw [hc1.2]; show ¬ (11 : Nat) < 11; decide) (by rw [hc1.2]; show (11 : Nat) < 13; decide)
    rw [hc1.2] at he
    rw [he] at hP1
    exact kk p e R s m args below meth c H1 locs1 cells slots mc ms hx hb hr hml hown hlk hin hA h1 h2 h3 h4 h5 h6 h7 (Nat.le_trans h8 hS1.1) h9 hP1 (hS.tr hS1) la hl
/-- Object's constructor -/
theorem AW.objI (pc' : Nat) {ix k : Nat} (hd : decode cc pc = .ok (.invokespecial ix, 3)) (hw : Cond.methodLink own ix objectInit ∈ z_U) (hcat : (st.map fun v => v.category).sum ≤ 8) (hp : pc + 3 = pc') (kk : AW l g own cc nL rt ini (d + 1) bc bs pc' ls st S M Q) : AW l g own cc nL rt ini (d + 1) bc bs pc ls (.ref k :: st) S M Q := by
  subst hp
  intro p e R s m args below meth c H locs cells slots mc ms hx hb hr hml hown hlk hin hA h1 h2 h3 h4 h5 h6 h7 h8 h9 hP hS la hl
  refine W.objInit hx hb hown (hA.word _ hw) (hA.word _ (by decide +kernel)) (hA.word _ (by decide +kernel)) rfl (hl.2.1.trans hml.symm) rfl hd (by omega) ?_ (kk p e R s m args below meth c H locs cells slots mc ms hx hb hr hml hown hlk hin hA h1 h2 h3 h4 h5 h6 h7 h8 h9 hP hS la hl)
  have := lv_room (m := m) (pc := pc) (ls := la) (rest := (Value.ref k :: st).map (zc g)) (st := st.map (zc g)) (by rw [zc_cats]; exact hcat)
  omega
end AWX
