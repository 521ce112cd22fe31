section AWC
variable {l : Launch} {g : zG} {own : String} {cc : ByteArray} {nL : Nat} {rt : Option FieldType} {ini : Bool} {d bc bs pc : Nat} {ls : List (Option Value)} {st : List Value} {S : zS} {M : zM} {Q : Option Value → zS → zM → Prop}
/-- rows of references: of objects (kinds 13, 14, 15), of int rows (kind 16) -/
theorem AW.aald (pc' : Nat) {k t n a j : Nat} {i : Int32} (hd : decode cc pc = .ok (.aaload, 1)) (hc : z_ar S k t n) (ht : t = 13 ∨ t = 14 ∨ t = 15 ∨ t = 16) (hi : i = nI a) (ha : a < n) (hn : n < 2 ^ 31) (hv : S.2.2 k a = some j) (hp : pc + 1 = pc') (kk : AW l g own cc nL rt ini d bc bs pc' ls (.ref j :: st) S M Q) : AW l g own cc nL rt ini d bc bs pc ls (.int i :: .ref k :: st) S M Q := by
  subst hp
  intro p e R s m args below meth c H locs cells slots mc ms hx hb hr hml hown hlk hin hA h1 h2 h3 h4 h5 h6 h7 h8 h9 hP hS la hl
  show W p l e R s m args below meth c H locs cells slots _ (F0 m pc la (.int i :: .ref (z_ad g k) :: st.map (zc g)))
  rw [z_ad_in hc.lt h9]
  obtain ⟨q1, q2⟩ := z_in_nI hi ha hn
  have K := kk p e R s m args below meth c H locs cells slots mc ms hx hb hr hml hown hlk hin hA h1 h2 h3 h4 h5 h6 h7 h8 h9 hP hS la hl
  have hz : va_rf ((S.2.2 k i.toNatClampNeg).map (z_ad g)) = .ref (z_ad g j) := by rw [q2, hv]; rfl
  have hat := z_at_rarr (g := g) (M := M) hc (by rcases ht with rfl | rfl | rfl | rfl <;> decide)
  rcases ht with rfl | rfl | rfl | rfl
  · refine va_aldq (D := gD g) (cl := vwCl) (tys := z_tys g) (ws := z_w g S M) (C := RX1) hx hb hA.2.1 hP k 2 hat rfl q1 hd ?_
    rw [hz]; exact K
  · refine va_aldq (D := gD g) (cl := vwCl) (tys := z_tys g) (ws := z_w g S M) (C := RX2) hx hb hA.2.1 hP k 3 hat rfl q1 hd ?_
    rw [hz]; exact K
  · refine va_aldq (D := gD g) (cl := vwCl) (tys := z_tys g) (ws := z_w g S M) (C := RX5) hx hb hA.2.1 hP k 4 hat rfl q1 hd ?_
    rw [hz]; exact K
  · have hlt : i.toNatClampNeg < n := by rw [q2]; exact ha
    refine W.aald (v := .ref (z_ad g j)) (ty := .array .int) hx hb (hP k _ hat) ((hA.2.1.2 5 _ rfl).1 n (fun j => va_rf ((S.2.2 k j).map (z_ad g)))) rfl (fun q => by cases q) ?_ ?_ rfl rfl hd K
    · show ¬ (i < 0 ∨ (arrV _ _ _).slots.size ≤ _)
      rw [arrV_size]; exact q1
    · show (arrV _ _ _).slots[_]? = _
      rw [arrV_read _ _ hlt, hz]
theorem AW.aast (pc' : Nat) {k t n a j ci : Nat} {i : Int32} (hd : decode cc pc = .ok (.aastore, 1)) (hc : z_ar S k t n) (ht : (t = 13 ∧ ci = 1) ∨ (t = 14 ∧ ci = 2) ∨ (t = 15 ∧ ci = 5)) (hj : z_is S j ci) (hi : i = nI a) (ha : a < n) (hn : n < 2 ^ 31) (hp : pc + 1 = pc') (kk : AW l g own cc nL rt ini d bc bs pc' ls st (z_sR S k a j) M Q) : AW l g own cc nL rt ini d bc bs pc ls (.ref j :: .int i :: .ref k :: st) S M Q := by
  subst hp
  intro p e R s m args below meth c H locs cells slots mc ms hx hb hr hml hown hlk hin hA h1 h2 h3 h4 h5 h6 h7 h8 h9 hP hS la hl
  show W p l e R s m args below meth c H locs cells slots _ (F0 m pc la (.ref (z_ad g j) :: .int i :: .ref (z_ad g k) :: st.map (zc g)))
  rw [z_ad_in hc.lt h9]
  obtain ⟨q1, q2⟩ := z_in_nI hi ha hn
  have hat := z_at_rarr (g := g) (M := M) hc (by rcases ht with ⟨rfl, -⟩ | ⟨rfl, -⟩ | ⟨rfl, -⟩ <;> decide)
  have hatj := z_at_obj (g := g) (M := M) hj (by rcases ht with ⟨-, rfl⟩ | ⟨-, rfl⟩ | ⟨-, rfl⟩ <;> decide)
  have fin : ∀ (H1 : Heap) (locs1 : List Loc), va_P (gD g) vwCl ((z_w g S M).set k (gB g + k, .inl (gY g t, n, .inr (.inr (.inr (.inr (va_up (fun j => (S.2.2 k j).map (z_ad g)) i.toNatClampNeg (some (z_ad g j))))))))) H1 → va_S (gA g) H H1 locs1 → W p l e R s m args below meth c H1 locs1 cells slots (MQ below (z_Q g mc Q) args s mc ms (gA g)) (F0 m (pc + 1) la (st.map (zc g))) := by
    intro H1 locs1 hP1 hS1
    have he := z_set_rarr (g := g) (S := S) (M := M) (k := k) (j := a) (i := j) hc.lt (by rw [hc.2]; show ¬ t < 13; omega)
    rw [hc.2] at he
    rw [q2, he] at hP1
    exact kk p e R s m args below meth c H1 locs1 cells slots mc ms hx hb hr hml hown hlk hin hA h1 h2 h3 h4 h5 h6 h7 (Nat.le_trans h8 hS1.1) h9 hP1 (hS.tr hS1) la hl
  have e2 : z_ad g j = gB g + j := z_ad_in hj.lt h9
  rw [e2] at fin ⊢
  rcases ht with ⟨rfl, rfl⟩ | ⟨rfl, rfl⟩ | ⟨rfl, rfl⟩
  · exact va_astq (D := gD g) (cl := vwCl) (tys := z_tys g) (ws := z_w g S M) (A := gA g) (H0 := H) (r := (RX1, TX1, 2)) hx hb hA.2.1 hP (z_w_D g S M) hS.self k 2 j 1 hat rfl hatj rfl q1 hd (fun H1 locs1 hP1 _ hS1 => fin H1 locs1 hP1 hS1)
  · exact va_astq (D := gD g) (cl := vwCl) (tys := z_tys g) (ws := z_w g S M) (A := gA g) (H0 := H) (r := (RX2, TX2, 5)) hx hb hA.2.1 hP (z_w_D g S M) hS.self k 3 j 2 hat rfl hatj rfl q1 hd (fun H1 locs1 hP1 _ hS1 => fin H1 locs1 hP1 hS1)
  · exact va_astq (D := gD g) (cl := vwCl) (tys := z_tys g) (ws := z_w g S M) (A := gA g) (H0 := H) (r := (RX5, TX5, 3)) hx hb hA.2.1 hP (z_w_D g S M) hS.self k 4 j 5 hat rfl hatj rfl q1 hd (fun H1 locs1 hP1 _ hS1 => fin H1 locs1 hP1 hS1)
theorem z_tys_at (g : zG) {t : Nat} (h1 : ¬ t < 11) (h2 : t < 17) : ∃ ty, (z_tys g)[t - 11]? = some (gY g t, ty) := by
  rcases (show t = 11 ∨ t = 12 ∨ t = 13 ∨ t = 14 ∨ t = 15 ∨ t = 16 by omega) with rfl | rfl | rfl | rfl | rfl | rfl <;> exact ⟨_, rfl⟩
theorem AW.alen (pc' : Nat) {k t n : Nat} (hd : decode cc pc = .ok (.arraylength, 1)) (hc : z_ar S k t n) (h11 : ¬ t < 11) (h17 : t < 17) (hp : pc + 1 = pc') (kk : AW l g own cc nL rt ini d bc bs pc' ls (.int (nI n) :: st) S M Q) : AW l g own cc nL rt ini d bc bs pc ls (.ref k :: st) S M Q := by
  subst hp
  intro p e R s m args below meth c H locs cells slots mc ms hx hb hr hml hown hlk hin hA h1 h2 h3 h4 h5 h6 h7 h8 h9 hP hS la hl
  show W p l e R s m args below meth c H locs cells slots _ (F0 m pc la (.ref (z_ad g k) :: st.map (zc g)))
  rw [z_ad_in hc.lt h9]
  have K := kk p e R s m args below meth c H locs cells slots mc ms hx hb hr hml hown hlk hin hA h1 h2 h3 h4 h5 h6 h7 h8 h9 hP hS la hl
  obtain ⟨ty, hty⟩ := z_tys_at g h11 h17
  by_cases h13 : t < 13
  · exact va_alen (D := gD g) (cl := vwCl) (tys := z_tys g) (ws := z_w g S M) hx hb hA.2.1 hP k (t - 11) (z_at_arr hc h11 h13) hty rfl hd K
  · exact va_alen (D := gD g) (cl := vwCl) (tys := z_tys g) (ws := z_w g S M) hx hb hA.2.1 hP k (t - 11) (z_at_rarr hc h13) hty rfl hd K
/-- the ends -/
theorem AW.iret {v : Int32} (hd : decode cc pc = .ok (.ireturn, 1)) (ty : FieldType) (hrt : rt = some ty) (hn : narrow ty (.int v) = .int v) (hbc : bc = 0) (hQ : Q (some (.int v)) S M) : AW l g own cc nL rt ini d bc bs pc ls [.int v] S M Q := by
  subst hbc
  intro p e R s m args below meth c H locs cells slots mc ms hx hb hr hml hown hlk hin hA h1 h2 h3 h4 h5 h6 h7 h8 h9 hP hS la hl
  refine W.widen (k := mc) (n := ms) (by omega) (by omega) ?_
  exact W.zret (v := v) (ty := ty) hx hb (hr.trans hrt) hn (fun t ht hW => ⟨⟨some (.int v), S, M, rfl, hQ, by omega, h9, by rw [ht]; exact h8, by rw [ht]; exact hP⟩, hS.F ht⟩) hS.2.2 hd hlk
theorem AW.vret (hd : decode cc pc = .ok (.return_, 1)) (hrt : rt = none) (hbc : bc = 0) (hQ : Q none S M) : AW l g own cc nL rt ini d bc bs pc ls [] S M Q := by
  subst hbc
  intro p e R s m args below meth c H locs cells slots mc ms hx hb hr hml hown hlk hin hA h1 h2 h3 h4 h5 h6 h7 h8 h9 hP hS la hl
  refine W.widen (k := mc) (n := ms) (by omega) (by omega) ?_
  exact W.vret hx hb (hr.trans hrt) (fun t ht hW => ⟨⟨none, S, M, rfl, hQ, by omega, h9, by rw [ht]; exact h8, by rw [ht]; exact hP⟩, hS.F ht⟩) hS.2.2 hd hlk
end AWC
/-- a method's start -/
def z_Pre (g : zG) (S : zS) (M : zM) (U : State) : Prop := z_Amb g U ∧ U.heap.size = gB g + S.1 ∧ S.1 ≤ 1000000 ∧ va_P (gD g) vwCl (z_w g S M) U.heap
/-- A METHOD'S CONTRACT: from these arguments, shape and memory it comes back with Q -/
def AMet (l : Launch) (g : zG) (y : MethodName) (cc : ByteArray) (nL : Nat) (rt : Option FieldType) (d bc bs : Nat) (av : List Value) (S : zS) (M : zM) (Q : Option Value → zS → zM → Prop) : Prop :=
  Met l y [Cond.code y cc nL rt] { frames := d, cells := bc, slots := bs, locals := 40 * d } (fun v U => v = (av.map (zc g)).toArray ∧ z_Pre g S M U) (z_Q g bc Q) bc bs (gA g)
def z_sl1 (v : Value) : List (Option Value) := if v.category = 2 then [some v, none] else [some v]
/-- the locals at a method's start -/
def z_ent (av : List Value) (nL : Nat) : List (Option Value) := let q := av.flatMap z_sl1; q ++ List.replicate (nL - q.length) none
