/-- cell k is of kind t -/
def z_is (S : zS) (k t : Nat) : Prop := Nat.blt k S.1 = true ∧ (S.2.1 k).1 = t
/-- cell k is a row of kind t with n items -/
def z_ar (S : zS) (k t n : Nat) : Prop := Nat.blt k S.1 = true ∧ S.2.1 k = (t, n)
theorem z_is.lt {S : zS} {k t : Nat} (h : z_is S k t) : k < S.1 := Nat.blt_eq.mp h.1
theorem z_ar.lt {S : zS} {k t n : Nat} (h : z_ar S k t n) : k < S.1 := Nat.blt_eq.mp h.1
/-- entry ix of the class own is the field j of the class ci -/
def z_flB (own : String) (ix ci j : Nat) : Bool := match vwCl[ci]? with
  | some q => Nat.blt j q.2.2 && decide (Cond.fieldLink own ix (q.2.1 j).1 (q.2.1 j).2.1 (q.2.1 j).2.2.1 ∈ z_U)
  | none => false
/-- .. and may be written, of type ty (fin: in a constructor) -/
def z_fpB (own : String) (ix ci j : Nat) (fin : Bool) (ty : FieldType) : Bool := z_flB own ix ci j && (match vwCl[ci]? with
  | some q => (q.2.1 j).2.2.2 == fin && decide (parseFieldDescriptor (q.2.1 j).2.2.1 = some ty) && (!fin || (q.2.1 j).1 == own)
  | none => false)
theorem z_U_lays {L : List Cond} (h : ∀ w ∈ L, w ∈ lw_tbl) (hg : L.all z_good = true) : ∀ w ∈ L, w ∈ z_U := fun w hw => z_U_of (h w hw) (List.all_eq_true.mp hg w hw)
theorem z_cls : ∀ (ci : Nat) (q : vw_C), vwCl[ci]? = some q → (∀ w ∈ u_ws q.1 q.2.1 q.2.2, w ∈ z_U) ∧ (∃ ty0 : Nat → FieldType, ∀ k, k < q.2.2 → parseFieldDescriptor (q.2.1 k).2.2.1 = some (ty0 k)) ∧ (∀ a, a < q.2.2 → ∀ b, b < q.2.2 → a ≠ b → (q.2.1 a).2.1 ≠ (q.2.1 b).2.1) ∧ q.2.2 = z_n ci ∧ ci < 11 := by
  intro ci q h
  match ci, h with
  | 0, h => cases h; exact ⟨z_U_lays inX0 (by decide +kernel), ⟨_, tyX0_ok⟩, nmX0, rfl, by decide⟩
  | 1, h => cases h; exact ⟨z_U_lays inX1 (by decide +kernel), ⟨_, tyX1_ok⟩, nmX1, rfl, by decide⟩
  | 2, h => cases h; exact ⟨z_U_lays inX2 (by decide +kernel), ⟨_, tyX2_ok⟩, nmX2, rfl, by decide⟩
  | 3, h => cases h; exact ⟨z_U_lays inX3 (by decide +kernel), ⟨_, tyX3_ok⟩, nmX3, rfl, by decide⟩
  | 4, h => cases h; exact ⟨z_U_lays inX4 (by decide +kernel), ⟨_, tyX4_ok⟩, nmX4, rfl, by decide⟩
  | 5, h => cases h; exact ⟨z_U_lays inX5 (by decide +kernel), ⟨_, tyX5_ok⟩, nmX5, rfl, by decide⟩
  | 6, h => cases h; exact ⟨z_U_lays inX6 (by decide +kernel), ⟨_, tyX6_ok⟩, nmX6, rfl, by decide⟩
  | 7, h => cases h; exact ⟨z_U_lays inX7 (by decide +kernel), ⟨_, tyX7_ok⟩, nmX7, rfl, by decide⟩
  | 8, h => cases h; exact ⟨z_U_lays inX8 (by decide +kernel), ⟨_, tyX8_ok⟩, nmX8, rfl, by decide⟩
  | 9, h => cases h; exact ⟨z_U_lays inX9 (by decide +kernel), ⟨_, tyX9_ok⟩, nmX9, rfl, by decide⟩
  | 10, h => cases h; exact ⟨z_U_lays inX10 (by decide +kernel), ⟨_, tyX10_ok⟩, nmX10, rfl, by decide⟩
  | n + 11, h => simp [vwCl] at h
theorem z_fl_spec {own : String} {ix ci j : Nat} (h : z_flB own ix ci j = true) : ∃ q : vw_C, vwCl[ci]? = some q ∧ j < q.2.2 ∧ Cond.fieldLink own ix (q.2.1 j).1 (q.2.1 j).2.1 (q.2.1 j).2.2.1 ∈ z_U := by
  unfold z_flB at h
  split at h
  · rename_i q hq
    simp only [Bool.and_eq_true, decide_eq_true_eq] at h
    exact ⟨q, hq, Nat.blt_eq.mp h.1, h.2⟩
  · cases h
theorem z_fp_spec {own : String} {ix ci j : Nat} {fin : Bool} {ty : FieldType} (h : z_fpB own ix ci j fin ty = true) : ∃ q : vw_C, vwCl[ci]? = some q ∧ j < q.2.2 ∧ Cond.fieldLink own ix (q.2.1 j).1 (q.2.1 j).2.1 (q.2.1 j).2.2.1 ∈ z_U ∧ (q.2.1 j).2.2.2 = fin ∧ parseFieldDescriptor (q.2.1 j).2.2.1 = some ty ∧ (fin = true → (q.2.1 j).1 = own) := by
  unfold z_fpB at h
  obtain ⟨h1, h2⟩ := Bool.and_eq_true_iff.mp h
  obtain ⟨q, a, b, c⟩ := z_fl_spec h1
  rw [a] at h2
  simp only [Bool.and_eq_true, decide_eq_true_eq, Bool.or_eq_true, Bool.not_eq_true', beq_iff_eq] at h2
  refine ⟨q, a, b, c, h2.1.1, h2.1.2, fun hf => ?_⟩
  rcases h2.2 with z | z
  · rw [hf] at z; cases z
  · exact z
def z_fs (g : zG) (S : zS) (M : zM) (k : Nat) : List Value := (List.range (z_n (S.2.1 k).1)).map (fun j => if z_rf (S.2.1 k).1 j then va_rf ((S.2.2 k j).map (z_ad g)) else .int (M k j))
theorem z_at_obj {g : zG} {S : zS} {M : zM} {k t : Nat} (h : z_is S k t) (ht : t < 11) : (z_w g S M)[k]? = some (gB g + k, .inr (t, z_fs g S M k)) := by
  rw [z_w_at g S M h.lt]
  unfold z_cell z_fs
  rw [if_pos (by rw [h.2]; exact ht), h.2]
theorem z_fs_at {g : zG} {S : zS} {M : zM} {k t j : Nat} (h : z_is S k t) (hj : j < z_n t) : (z_fs g S M k)[j]? = some (if z_rf t j then va_rf ((S.2.2 k j).map (z_ad g)) else .int (M k j)) := by
  unfold z_fs
  rw [h.2]
  simp [hj]
theorem z_fs_len {g : zG} {S : zS} {M : zM} {k t : Nat} (h : z_is S k t) : (z_fs g S M k).length = z_n t := by
  unfold z_fs; rw [h.2]; simp
theorem z_at_arr {g : zG} {S : zS} {M : zM} {k t n : Nat} (h : z_ar S k t n) (h1 : ¬ t < 11) (h2 : t < 13) : (z_w g S M)[k]? = some (gB g + k, .inl (gY g t, n, .inl (M k))) := by
  rw [z_w_at g S M h.lt]
  unfold z_cell
  rw [h.2, if_neg h1, if_pos h2]
theorem z_at_rarr {g : zG} {S : zS} {M : zM} {k t n : Nat} (h : z_ar S k t n) (h2 : ¬ t < 13) : (z_w g S M)[k]? = some (gB g + k, .inl (gY g t, n, .inr (.inr (.inr (.inr (fun j => (S.2.2 k j).map (z_ad g))))))) := by
  rw [z_w_at g S M h.lt]
  unfold z_cell
  rw [h.2, if_neg (by show ¬ t < 11; omega), if_neg h2]
theorem z_ad_in {g : zG} {S : zS} {k : Nat} (h : k < S.1) (h9 : S.1 ≤ 1000000) : z_ad g k = gB g + k := if_pos (by omega)
theorem z_ad_out (g : zG) (k : Nat) : z_ad g (1000000 + k) = gE g k := by
  unfold z_ad
  rw [if_neg (Nat.not_lt.mpr (Nat.le_add_right _ _)), Nat.add_sub_cancel_left]
theorem va_S.tr {A : Nat → Prop} {H0 H H1 : Heap} {l0 l1 : List Loc} (h : va_S A H0 H l0) (h1 : va_S A H H1 l1) : va_S A H0 H1 l1 :=
  ⟨Nat.le_trans h.1 h1.1, fun q a b => (h1.2.1 q (Nat.lt_of_lt_of_le a h.1) b).trans (h.2.1 q a b), h1.2.2⟩
theorem va_S.self {A : Nat → Prop} {H0 H : Heap} {l0 : List Loc} (h : va_S A H0 H l0) : va_S A H H l0 := ⟨Nat.le_refl _, fun _ _ _ => rfl, h.2.2⟩
section AWH
variable {l : Launch} {g : zG} {own : String} {cc : ByteArray} {nL : Nat} {rt : Option FieldType} {ini : Bool} {d bc bs pc : Nat} {ls : List (Option Value)} {st : List Value} {S : zS} {M : zM} {Q : Option Value → zS → zM → Prop}
theorem AW.getI (pc' : Nat) {ix ci j k : Nat} (hd : decode cc pc = .ok (.getfield ix, 3)) (hf : z_flB own ix ci j = true) (hrf : z_rf ci j = false) (hc : z_is S k ci) (hp : pc + 3 = pc') (kk : AW l g own cc nL rt ini d bc bs pc' ls (.int (M k j) :: st) S M Q) : AW l g own cc nL rt ini d bc bs pc ls (.ref k :: st) S M Q := by
  subst hp
  intro p e R s m args below meth c H locs cells slots mc ms hx hb hr hml hown hlk hin hA h1 h2 h3 h4 h5 h6 h7 h8 h9 hP hS la hl
  obtain ⟨q, hq, hj, hw⟩ := z_fl_spec hf
  obtain ⟨c1, -, -, c4, c5⟩ := z_cls ci q hq
  show W p l e R s m args below meth c H locs cells slots _ (F0 m pc la (.ref (z_ad g k) :: st.map (zc g)))
  rw [z_ad_in hc.lt h9]
  refine va_get (D := gD g) (cl := vwCl) (tys := z_tys g) (ws := z_w g S M) (ci := ci) (v := .int (M k j)) hx hb (hA.word (args := args)) c1 hown hA.2.1 hP k (z_at_obj hc c5) hq j hj (hA.word _ hw) (fun _ h => h) ?_ hd (kk p e R s m args below meth c H locs cells slots mc ms hx hb hr hml hown hlk hin hA h1 h2 h3 h4 h5 h6 h7 h8 h9 hP hS la hl)
  rw [z_fs_at hc (by rw [← c4]; exact hj), hrf]; rfl
theorem AW.getR (pc' : Nat) {ix ci j k i : Nat} (hd : decode cc pc = .ok (.getfield ix, 3)) (hf : z_flB own ix ci j = true) (hrf : z_rf ci j = true) (hc : z_is S k ci) (hv : S.2.2 k j = some i) (hp : pc + 3 = pc') (kk : AW l g own cc nL rt ini d bc bs pc' ls (.ref i :: st) S M Q) : AW l g own cc nL rt ini d bc bs pc ls (.ref k :: st) S M Q := by
  subst hp
  intro p e R s m args below meth c H locs cells slots mc ms hx hb hr hml hown hlk hin hA h1 h2 h3 h4 h5 h6 h7 h8 h9 hP hS la hl
  obtain ⟨q, hq, hj, hw⟩ := z_fl_spec hf
  obtain ⟨c1, -, -, c4, c5⟩ := z_cls ci q hq
  show W p l e R s m args below meth c H locs cells slots _ (F0 m pc la (.ref (z_ad g k) :: st.map (zc g)))
  rw [z_ad_in hc.lt h9]
  refine va_get (D := gD g) (cl := vwCl) (tys := z_tys g) (ws := z_w g S M) (ci := ci) (v := .ref (z_ad g i)) hx hb (hA.word (args := args)) c1 hown hA.2.1 hP k (z_at_obj hc c5) hq j hj (hA.word _ hw) (fun _ h => h) ?_ hd (kk p e R s m args below meth c H locs cells slots mc ms hx hb hr hml hown hlk hin hA h1 h2 h3 h4 h5 h6 h7 h8 h9 hP hS la hl)
  rw [z_fs_at hc (by rw [← c4]; exact hj), hrf, hv]; rfl
/-- an int field (a boolean one: 0 or 1) is written -/
theorem AW.putI (pc' : Nat) {ix ci j k : Nat} {v : Int32} (ty : FieldType) (hd : decode cc pc = .ok (.putfield ix, 3)) (hf : z_fpB own ix ci j false ty = true) (hrf : z_rf ci j = false) (hc : z_is S k ci) (hn : narrow ty (.int v) = .int v) (hfi : fits ty (.int v) = true) (hp : pc + 3 = pc') (kk : AW l g own cc nL rt ini d bc bs pc' ls st S (z_st M k j v) Q) : AW l g own cc nL rt ini d bc bs pc ls (.int v :: .ref k :: st) S M Q := by
  subst hp
  intro p e R s m args below meth c H locs cells slots mc ms hx hb hr hml hown hlk hin hA h1 h2 h3 h4 h5 h6 h7 h8 h9 hP hS la hl
  obtain ⟨q, hq, hj, hw, q1, q2, -⟩ := z_fp_spec hf
  obtain ⟨c1, ⟨ty0, c2⟩, c3, c4, c5⟩ := z_cls ci q hq
  show W p l e R s m args below meth c H locs cells slots _ (F0 m pc la (.int v :: .ref (z_ad g k) :: st.map (zc g)))
  rw [z_ad_in hc.lt h9]
  refine va_put (D := gD g) (cl := vwCl) (tys := z_tys g) (ws := z_w g S M) (ci := ci) (v := .int v) (A := gA g) (H0 := H) hx hb (hA.word (args := args)) c1 ty0 c2 c3 hown hA.2.1 hP (z_w_D g S M) hS.self k (z_at_obj hc c5) hq j hj (hA.word _ hw) (fun _ h => h) q1 q2 hn hfi (by rw [z_fs_len hc, ← c4]; exact hj) hd (fun H1 locs1 hP1 _ hS1 => ?_)
  have he := z_set_obj (g := g) (S := S) (M := M) (k := k) (j := j) (fs := z_fs g S M k) v hc.lt (by rw [hc.2]; exact c5) (by rw [hc.2]; exact hrf) rfl
  rw [hc.2] at he
  rw [he] at hP1
  exact kk p e R s m args below meth c H1 locs1 cells slots mc ms hx hb hr hml hown hlk hin hA h1 h2 h3 h4 h5 h6 h7 (Nat.le_trans h8 hS1.1) h9 hP1 (hS.tr hS1) la hl
theorem AW.putR (pc' : Nat) {ix ci j k i : Nat} (ty : FieldType) (hd : decode cc pc = .ok (.putfield ix, 3)) (hf : z_fpB own ix ci j false ty = true) (hrf : z_rf ci j = true) (hc : z_is S k ci) (hn : ∀ a : Nat, narrow ty (.ref a) = .ref a ∧ fits ty (.ref a) = true) (hp : pc + 3 = pc') (kk : AW l g own cc nL rt ini d bc bs pc' ls st (z_sR S k j i) M Q) : AW l g own cc nL rt ini d bc bs pc ls (.ref i :: .ref k :: st) S M Q := by
  subst hp
  intro p e R s m args below meth c H locs cells slots mc ms hx hb hr hml hown hlk hin hA h1 h2 h3 h4 h5 h6 h7 h8 h9 hP hS la hl
  obtain ⟨q, hq, hj, hw, q1, q2, -⟩ := z_fp_spec hf
  obtain ⟨c1, ⟨ty0, c2⟩, c3, c4, c5⟩ := z_cls ci q hq
  show W p l e R s m args below meth c H locs cells slots _ (F0 m pc la (.ref (z_ad g i) :: .ref (z_ad g k) :: st.map (zc g)))
  rw [z_ad_in hc.lt h9]
  refine va_put (D := gD g) (cl := vwCl) (tys := z_tys g) (ws := z_w g S M) (ci := ci) (v := .ref (z_ad g i)) (A := gA g) (H0 := H) hx hb (hA.word (args := args)) c1 ty0 c2 c3 hown hA.2.1 hP (z_w_D g S M) hS.self k (z_at_obj hc c5) hq j hj (hA.word _ hw) (fun _ h => h) q1 q2 (hn _).1 (hn _).2 (by rw [z_fs_len hc, ← c4]; exact hj) hd (fun H1 locs1 hP1 _ hS1 => ?_)
  have he := z_set_ref (g := g) (S := S) (M := M) (k := k) (j := j) (i := i) (fs := z_fs g S M k) hc.lt (by rw [hc.2]; exact c5) (by rw [hc.2]; exact hrf) rfl
  rw [hc.2] at he
  rw [he] at hP1
  exact kk p e R s m args below meth c H1 locs1 cells slots mc ms hx hb hr hml hown hlk hin hA h1 h2 h3 h4 h5 h6 h7 (Nat.le_trans h8 hS1.1) h9 hP1 (hS.tr hS1) la hl
/-- a final field that holds a reference, in a constructor -/
theorem AW.putF (pc' : Nat) {ix ci j k i : Nat} (ty : FieldType) (hd : decode cc pc = .ok (.putfield ix, 3)) (hf : z_fpB own ix ci j true ty = true) (hrf : z_rf ci j = true) (hini : ini = true) (hc : z_is S k ci) (hn : ∀ a : Nat, narrow ty (.ref a) = .ref a ∧ fits ty (.ref a) = true) (hp : pc + 3 = pc') (kk : AW l g own cc nL rt ini d bc bs pc' ls st (z_sR S k j i) M Q) : AW l g own cc nL rt ini d bc bs pc ls (.ref i :: .ref k :: st) S M Q := by
  subst hp
  intro p e R s m args below meth c H locs cells slots mc ms hx hb hr hml hown hlk hin hA h1 h2 h3 h4 h5 h6 h7 h8 h9 hP hS la hl
  obtain ⟨q, hq, hj, hw, q1, q2, q3⟩ := z_fp_spec hf
  obtain ⟨c1, ⟨ty0, c2⟩, c3, c4, c5⟩ := z_cls ci q hq
  show W p l e R s m args below meth c H locs cells slots _ (F0 m pc la (.ref (z_ad g i) :: .ref (z_ad g k) :: st.map (zc g)))
  rw [z_ad_in hc.lt h9]
  refine va_putF (D := gD g) (cl := vwCl) (tys := z_tys g) (ws := z_w g S M) (ci := ci) (v := .ref (z_ad g i)) (A := gA g) (H0 := H) hx hb (hA.word (args := args)) c1 ty0 c2 c3 hown hA.2.1 hP (z_w_D g S M) hS.self k (z_at_obj hc c5) hq j hj (hA.word _ hw) (fun _ h => h) q1 (hin hini) (q3 rfl) q2 (hn _).1 (hn _).2 (by rw [z_fs_len hc, ← c4]; exact hj) hd (fun H1 locs1 hP1 _ hS1 => ?_)
  have he := z_set_ref (g := g) (S := S) (M := M) (k := k) (j := j) (i := i) (fs := z_fs g S M k) hc.lt (by rw [hc.2]; exact c5) (by rw [hc.2]; exact hrf) rfl
  rw [hc.2] at he
  rw [he] at hP1
  exact kk p e R s m args below meth c H1 locs1 cells slots mc ms hx hb hr hml hown hlk hin hA h1 h2 h3 h4 h5 h6 h7 (Nat.le_trans h8 hS1.1) h9 hP1 (hS.tr hS1) la hl
theorem z_in_nI {i : Int32} {a n : Nat} (hi : i = nI a) (ha : a < n) (hn : n < 2 ^ 31) : vp_in i n ∧ i.toNatClampNeg = a := by
  subst hi; exact ⟨vp_in_nI ha hn, nI_clamp (Nat.lt_trans ha hn)⟩
theorem AW.iald (pc' : Nat) {k n a : Nat} {i : Int32} (hd : decode cc pc = .ok (.iaload, 1)) (hc : z_ar S k 11 n) (hi : i = nI a) (ha : a < n) (hn : n < 2 ^ 31) (hp : pc + 1 = pc') (kk : AW l g own cc nL rt ini d bc bs pc' ls (.int (M k a) :: st) S M Q) : AW l g own cc nL rt ini d bc bs pc ls (.int i :: .ref k :: st) S M Q := by
  subst hp
  intro p e R s m args below meth c H locs cells slots mc ms hx hb hr hml hown hlk hin hA h1 h2 h3 h4 h5 h6 h7 h8 h9 hP hS la hl
  show W p l e R s m args below meth c H locs cells slots _ (F0 m pc la (.int i :: .ref (z_ad g k) :: st.map (zc g)))
  rw [z_ad_in hc.lt h9]
  obtain ⟨q1, q2⟩ := z_in_nI hi ha hn
  refine va_iald (D := gD g) (cl := vwCl) (tys := z_tys g) (ws := z_w g S M) hx hb hA.2.1 hP k 0 (z_at_arr hc (by decide) (by decide)) rfl q1 hd ?_
  rw [q2]
  exact kk p e R s m args below meth c H locs cells slots mc ms hx hb hr hml hown hlk hin hA h1 h2 h3 h4 h5 h6 h7 h8 h9 hP hS la hl
theorem AW.bald (pc' : Nat) {k n a : Nat} {i : Int32} (hd : decode cc pc = .ok (.baload, 1)) (hc : z_ar S k 12 n) (hi : i = nI a) (ha : a < n) (hn : n < 2 ^ 31) (hp : pc + 1 = pc') (kk : AW l g own cc nL rt ini d bc bs pc' ls (.int (M k a) :: st) S M Q) : AW l g own cc nL rt ini d bc bs pc ls (.int i :: .ref k :: st) S M Q := by
  subst hp
  intro p e R s m args below meth c H locs cells slots mc ms hx hb hr hml hown hlk hin hA h1 h2 h3 h4 h5 h6 h7 h8 h9 hP hS la hl
  show W p l e R s m args below meth c H locs cells slots _ (F0 m pc la (.int i :: .ref (z_ad g k) :: st.map (zc g)))
  rw [z_ad_in hc.lt h9]
  obtain ⟨q1, q2⟩ := z_in_nI hi ha hn
  refine va_zald (D := gD g) (cl := vwCl) (tys := z_tys g) (ws := z_w g S M) hx hb hA.2.1 hP k 1 (z_at_arr hc (by decide) (by decide)) rfl q1 hd ?_
  rw [q2]
  exact kk p e R s m args below meth c H locs cells slots mc ms hx hb hr hml hown hlk hin hA h1 h2 h3 h4 h5 h6 h7 h8 h9 hP hS la hl
theorem AW.iast (pc' : Nat) {k n a : Nat} {i x : Int32} (hd : decode cc pc = .ok (.iastore, 1)) (hc : z_ar S k 11 n) (hi : i = nI a) (ha : a < n) (hn : n < 2 ^ 31) (hp : pc + 1 = pc') (kk : AW l g own cc nL rt ini d bc bs pc' ls st S (z_st M k a x) Q) : AW l g own cc nL rt ini d bc bs pc ls (.int x :: .int i :: .ref k :: st) S M Q := by
  subst hp
  intro p e R s m args below meth c H locs cells slots mc ms hx hb hr hml hown hlk hin hA h1 h2 h3 h4 h5 h6 h7 h8 h9 hP hS la hl
  show W p l e R s m args below meth c H locs cells slots _ (F0 m pc la (.int x :: .int i :: .ref (z_ad g k) :: st.map (zc g)))
  rw [z_ad_in hc.lt h9]
  obtain ⟨q1, q2⟩ := z_in_nI hi ha hn
  refine va_iast (D := gD g) (cl := vwCl) (tys := z_tys g) (ws := z_w g S M) (A := gA g) (H0 := H) hx hb hA.2.1 hP (z_w_D g S M) hS.self k 0 (z_at_arr hc (by decide) (by decide)) rfl q1 hd (fun H1 locs1 hP1 _ hS1 => ?_)
  rw [q2] at hP1
  have he := z_set_arr (g := g) (S := S) (M := M) (k := k) (upd (M k) a x) hc.lt (by rw [hc.2]; show ¬ (11 : Nat) < 11; decide) (by rw [hc.2]; show (11 : Nat) < 13; decide)
  rw [hc.2] at he
  rw [he] at hP1
  exact kk p e R s m args below meth c H1 locs1 cells slots mc ms hx hb hr hml hown hlk hin hA h1 h2 h3 h4 h5 h6 h7 (Nat.le_trans h8 hS1.1) h9 hP1 (hS.tr hS1) la hl
theorem AW.bast (pc' : Nat) {k n a : Nat} {i x : Int32} (hd : decode cc pc = .ok (.bastore, 1)) (hc : z_ar S k 12 n) (hi : i = nI a) (ha : a < n) (hn : n < 2 ^ 31) (hv : vp_nar .boolean x = x) (hp : pc + 1 = pc') (kk : AW l g own cc nL rt ini d bc bs pc' ls st S (z_st M k a x) Q) : AW l g own cc nL rt ini d bc bs pc ls (.int x :: .int i :: .ref k :: st) S M Q := by
  subst hp
  intro p e R s m args below meth c H locs cells slots mc ms hx hb hr hml hown hlk hin hA h1 h2 h3 h4 h5 h6 h7 h8 h9 hP hS la hl
  show W p l e R s m args below meth c H locs cells slots _ (F0 m pc la (.int x :: .int i :: .ref (z_ad g k) :: st.map (zc g)))
  rw [z_ad_in hc.lt h9]
  obtain ⟨q1, q2⟩ := z_in_nI hi ha hn
  refine va_zast (D := gD g) (cl := vwCl) (tys := z_tys g) (ws := z_w g S M) (A := gA g) (H0 := H) hx hb hA.2.1 hP (z_w_D g S M) hS.self k 1 (z_at_arr hc (by decide) (by decide)) rfl q1 hd (fun H1 locs1 hP1 _ hS1 => ?_)
  rw [q2, hv] at hP1
  have he := z_set_arr (g := g) (S := S) (M := M) (k := k) (upd (M k) a x) hc.lt (by rw [hc.2]; show ¬ (12 : Nat) < 11; decide) (by rw [hc.2]; show (12 : Nat) < 13; decide)
  rw [hc.2] at he
  rw [he] at hP1
  exact kk p e R s m args below meth c H1 locs1 cells slots mc ms hx hb hr hml hown hlk hin hA h1 h2 h3 h4 h5 h6 h7 (Nat.le_trans h8 hS1.1) h9 hP1 (hS.tr hS1) la hl
/-- an outside array -/
theorem AW.eald (pc' : Nat) {k a : Nat} {i : Int32} (hd : decode cc pc = .ok (.iaload, 1)) (hk : k < 5) (hi : i = nI a) (ha : a < z_el g k) (hn : z_el g k < 2 ^ 31) (hp : pc + 1 = pc') (kk : AW l g own cc nL rt ini d bc bs pc' ls (.int (z_ev g k a) :: st) S M Q) : AW l g own cc nL rt ini d bc bs pc ls (.int i :: .ref (1000000 + k) :: st) S M Q := by
  subst hp
  intro p e R s m args below meth c H locs cells slots mc ms hx hb hr hml hown hlk hin hA h1 h2 h3 h4 h5 h6 h7 h8 h9 hP hS la hl
  have e1 : z_ad g (1000000 + k) = gE g k := z_ad_out g k
  show W p l e R s m args below meth c H locs cells slots _ (F0 m pc la (.int i :: .ref (z_ad g (1000000 + k)) :: st.map (zc g)))
  rw [e1]
  obtain ⟨q1, q2⟩ := z_in_nI hi ha hn
  exact va_ti hx hb (hA.2.2.2.2.1 k hk) hS q1 (v := .int (z_ev g k a)) (by rw [q2]) hd (kk p e R s m args below meth c H locs cells slots mc ms hx hb hr hml hown hlk hin hA h1 h2 h3 h4 h5 h6 h7 h8 h9 hP hS la hl)
theorem AW.elen (pc' : Nat) {k : Nat} (hd : decode cc pc = .ok (.arraylength, 1)) (hk : k < 5) (hp : pc + 1 = pc') (kk : AW l g own cc nL rt ini d bc bs pc' ls (.int (nI (z_el g k)) :: st) S M Q) : AW l g own cc nL rt ini d bc bs pc ls (.ref (1000000 + k) :: st) S M Q := by
  subst hp
  intro p e R s m args below meth c H locs cells slots mc ms hx hb hr hml hown hlk hin hA h1 h2 h3 h4 h5 h6 h7 h8 h9 hP hS la hl
  have e1 : z_ad g (1000000 + k) = gE g k := z_ad_out g k
  show W p l e R s m args below meth c H locs cells slots _ (F0 m pc la (.ref (z_ad g (1000000 + k)) :: st.map (zc g)))
  rw [e1]
  exact va_tlen hx hb (hA.2.2.2.2.1 k hk) hS rfl hd (kk p e R s m args below meth c H locs cells slots mc ms hx hb hr hml hown hlk hin hA h1 h2 h3 h4 h5 h6 h7 h8 h9 hP hS la hl)
theorem AW.gets (pc' : Nat) {ix k : Nat} (hd : decode cc pc = .ok (.getstatic ix, 3)) (hk : k < 4) (hw : Cond.fieldLink own ix "MachineBench" (z_sn k) "[I" ∈ z_U) (hp : pc + 3 = pc') (kk : AW l g own cc nL rt ini d bc bs pc' ls (.ref (1000000 + k) :: st) S M Q) : AW l g own cc nL rt ini d bc bs pc ls st S M Q := by
  subst hp
  intro p e R s m args below meth c H locs cells slots mc ms hx hb hr hml hown hlk hin hA h1 h2 h3 h4 h5 h6 h7 h8 h9 hP hS la hl
  have e1 : z_ad g (1000000 + k) = gE g k := z_ad_out g k
  refine va_gets hx hb (hA.2.2.2.1 k hk) hS hown (hA.word _ hw) (fun _ h => h) hd ?_
  have := kk p e R s m args below meth c H locs cells slots mc ms hx hb hr hml hown hlk hin hA h1 h2 h3 h4 h5 h6 h7 h8 h9 hP hS la hl
  rw [← e1]; exact this
theorem AW.getsN (pc' : Nat) {ix k : Nat} (hd : decode cc pc = .ok (.getstatic ix, 3)) (hk : k < 4) (hw : Cond.fieldLinkNest own ix "MachineBench" (z_sn k) "[I" "MachineBench" ∈ z_U) (hp : pc + 3 = pc') (kk : AW l g own cc nL rt ini d bc bs pc' ls (.ref (1000000 + k) :: st) S M Q) : AW l g own cc nL rt ini d bc bs pc ls st S M Q := by
  subst hp
  intro p e R s m args below meth c H locs cells slots mc ms hx hb hr hml hown hlk hin hA h1 h2 h3 h4 h5 h6 h7 h8 h9 hP hS la hl
  have e1 : z_ad g (1000000 + k) = gE g k := z_ad_out g k
  refine va_getsN hx hb (hA.2.2.2.1 k hk) hS hown (hA.word _ hw) (fun _ h => h) hd ?_
  have := kk p e R s m args below meth c H locs cells slots mc ms hx hb hr hml hown hlk hin hA h1 h2 h3 h4 h5 h6 h7 h8 h9 hP hS la hl
  rw [← e1]; exact this
end AWH
