/-- a new cell; a new row of rows -/
def z_nw (S : zS) (t len : Nat) : zS := (S.1 + 1, va_up S.2.1 S.1 (t, len), va_up S.2.2 S.1 (fun _ => none))
def z_nM (S : zS) (M : zM) : zM := va_up M S.1 (fun _ => 0)
def z_mS (S : zS) (N L : Nat) : zS := (S.1 + 1 + N, fun k => if k = S.1 then (16, N) else if S.1 < k ∧ k < S.1 + 1 + N then (11, L) else S.2.1 k, fun k => if k = S.1 then (fun j => if j < N then some (S.1 + 1 + j) else none) else S.2.2 k)
def z_mM (S : zS) (M : zM) (N : Nat) : zM := fun k => if S.1 < k ∧ k < S.1 + 1 + N then (fun _ => 0) else M k
theorem z_P_of {g : zG} {S : zS} {M : zM} {H : Heap} (h : ∀ k, k < S.1 → va_at (gD g) vwCl (gB g + k, z_cell g S M k) H) : va_P (gD g) vwCl (z_w g S M) H := by
  intro k q hk
  obtain ⟨h1, rfl⟩ := z_w_of hk
  exact h k h1
theorem z_P_at {g : zG} {S : zS} {M : zM} {H : Heap} (h : va_P (gD g) vwCl (z_w g S M) H) {k : Nat} (hk : k < S.1) : va_at (gD g) vwCl (gB g + k, z_cell g S M k) H := h k _ (z_w_at g S M hk)
theorem z_cell_nw {g : zG} {S : zS} {M : zM} {t len k : Nat} (hk : k < S.1) : z_cell g (z_nw S t len) (z_nM S M) k = z_cell g S M k := by
  unfold z_cell z_nw z_nM
  simp only [va_up_ne _ _ (Nat.ne_of_lt hk)]
theorem z_cell_m {g : zG} {S : zS} {M : zM} {N L k : Nat} (hk : k < S.1) : z_cell g (z_mS S N L) (z_mM S M N) k = z_cell g S M k := by
  have e1 : k ≠ S.1 := Nat.ne_of_lt hk
  have e2 : ¬ (S.1 < k ∧ k < S.1 + 1 + N) := by omega
  unfold z_cell z_mS z_mM
  simp only [if_neg e1, if_neg e2]
theorem z_def : ∀ (ci : Nat) (q : vw_C), vwCl[ci]? = some q → ∃ ty0 : Nat → FieldType, (∀ k, k < q.2.2 → parseFieldDescriptor (q.2.1 k).2.2.1 = some (ty0 k)) ∧ ∀ j, j < q.2.2 → defaultValue (ty0 j) = if z_rf ci j then .null else .int 0 := by
  intro ci q h
  match ci, h with
  | 0, h => cases h; exact ⟨tyX0, tyX0_ok, by decide +kernel⟩
  | 1, h => cases h; exact ⟨tyX1, tyX1_ok, by decide +kernel⟩
  | 2, h => cases h; exact ⟨tyX2, tyX2_ok, by decide +kernel⟩
  | 3, h => cases h; exact ⟨tyX3, tyX3_ok, by decide +kernel⟩
  | 4, h => cases h; exact ⟨tyX4, tyX4_ok, by decide +kernel⟩
  | 5, h => cases h; exact ⟨tyX5, tyX5_ok, by decide +kernel⟩
  | 6, h => cases h; exact ⟨tyX6, tyX6_ok, by decide +kernel⟩
  | 7, h => cases h; exact ⟨tyX7, tyX7_ok, by decide +kernel⟩
  | 8, h => cases h; exact ⟨tyX8, tyX8_ok, by decide +kernel⟩
  | 9, h => cases h; exact ⟨tyX9, tyX9_ok, by decide +kernel⟩
  | 10, h => cases h; exact ⟨tyX10, tyX10_ok, by decide +kernel⟩
  | n + 11, h => simp [vwCl] at h
def z_nwB (own : String) (ix ci : Nat) : Bool := match vwCl[ci]? with
  | some q => decide (Cond.classLink own ix q.1 ∈ z_U) && decide (Cond.instantiable q.1 q.2.2 ∈ z_U) && decide (Cond.initialized q.1 ∈ z_U)
  | none => false
/-- where a new cell lies -/
theorem z_new_addr {g : zG} {S : zS} {M : zM} {H1 : Heap} {q : Nat} {e : va_E} (hP : va_P (gD g) vwCl (z_w g S M ++ [(q, e)]) H1) (hD : va_D (gA g) (z_w g S M ++ [(q, e)])) (hz : H1.size ≤ gB g + (S.1 + 1)) : q = gB g + S.1 := by
  have hlast : (z_w g S M ++ [(q, e)])[S.1]? = some (q, e) := by rw [List.getElem?_append_right (by rw [z_w_len]; exact Nat.le_refl _), z_w_len, Nat.sub_self]; rfl
  have h1 : q < H1.size := (hP _ _ hlast).lt
  have h2 : gB g ≤ q := hD.2 _ _ hlast
  rcases Nat.lt_or_ge (q - gB g) S.1 with h3 | h3
  · have h4 : (z_w g S M ++ [(q, e)])[q - gB g]? = some (gB g + (q - gB g), z_cell g S M (q - gB g)) := by rw [List.getElem?_append_left (by rw [z_w_len]; exact h3)]; exact z_w_at g S M h3
    have := hD.1 _ _ _ _ h4 hlast (by show gB g + (q - gB g) = q; omega)
    omega
  · omega
theorem z_P_init {D : va_G} {cl : List vw_C} {w1 w2 : va_W} {H : Heap} (h : va_P D cl (w1 ++ w2) H) : va_P D cl w1 H := fun k q hk => h k q (by rw [List.getElem?_append_left (List.getElem?_eq_some_iff.mp hk).1]; exact hk)
section AWN
variable {l : Launch} {g : zG} {own : String} {cc : ByteArray} {nL : Nat} {rt : Option FieldType} {ini : Bool} {d bc bs pc : Nat} {ls : List (Option Value)} {st : List Value} {S : zS} {M : zM} {Q : Option Value → zS → zM → Prop}
theorem AW.new (pc' bc' bs' : Nat) {ix ci : Nat} (hd : decode cc pc = .ok (.new ix, 3)) (hw : z_nwB own ix ci = true) (hbc : bc = bc' + 1) (hbs : bs = bs' + z_n ci) (hn : S.1 < 1000000) (hp : pc + 3 = pc') (kk : AW l g own cc nL rt ini d bc' bs' pc' ls (.ref S.1 :: st) (z_nw S ci 0) (z_nM S M) Q) : AW l g own cc nL rt ini d bc bs pc ls st S M Q := by
  subst hp; subst hbc; subst hbs
  intro p e R s m args below meth c H locs cells slots mc ms hx hb hr hml hown hlk hin hA h1 h2 h3 h4 h5 h6 h7 h8 h9 hP hS la hl
  unfold z_nwB at hw
  split at hw
  · rename_i q hq
    simp only [Bool.and_eq_true, decide_eq_true_eq] at hw
    obtain ⟨c1, -, -, c4, c5⟩ := z_cls ci q hq
    obtain ⟨ty0, d1, d2⟩ := z_def ci q hq
    refine va_new (c0 := c) (D := gD g) (cl := vwCl) (tys := z_tys g) (ws := z_w g S M) (A := gA g) (H0 := H) (ci := ci) (fs := (List.range (z_n ci)).map (fun j => if z_rf ci j then va_rf ((none : Option Nat).map (z_ad g)) else .int 0)) hx hb (hA.word (args := args)) c1 ty0 d1 hown (hA.word _ hw.1.1) (hA.word _ hw.1.2) (hA.word _ hw.2) hA.2.1 hP (z_w_D g S M) hS.self (fun q h => Nat.le_trans (Nat.le_trans (Nat.le_add_right _ _) h8) h) hq ?_ (by omega) (by rw [c4]; omega) hd (fun q0 H1 hP1 hD1 hS1 => ?_)
    · intro j hj
      rw [d2 j hj, vp_V, List.getD_eq_getElem?_getD]
      rw [c4] at hj
      simp [hj, va_rf]
    · intro T hT X
      have hz := X.heapSize
      rw [hT] at hz
      have hq0 := z_new_addr hP1 hD1 (by omega)
      subst hq0
      have hlast : (z_w g S M ++ [(gB g + S.1, Sum.inr (ci, (List.range (z_n ci)).map (fun j => if z_rf ci j then va_rf ((none : Option Nat).map (z_ad g)) else .int 0)))])[S.1]? = some (gB g + S.1, Sum.inr (ci, (List.range (z_n ci)).map (fun j => if z_rf ci j then va_rf ((none : Option Nat).map (z_ad g)) else .int 0))) := by rw [List.getElem?_append_right (by rw [z_w_len]; exact Nat.le_refl _), z_w_len, Nat.sub_self]; rfl
      have e2 : zc g (.ref S.1) = .ref (gB g + S.1) := by show Value.ref (z_ad g S.1) = _; rw [show z_ad g S.1 = gB g + S.1 from if_pos hn]
      rw [show (Value.ref (gB g + S.1) :: st.map (zc g)) = (Value.ref S.1 :: st).map (zc g) from by rw [List.map_cons, e2]]
      refine kk p e R s m args below meth c H1 locs (cells + 1) (slots + q.2.2) mc ms hx hb hr hml hown hlk hin hA h1 h2 (by omega) (by rw [c4]; omega) h5 h6 (by show _ = gB g + (S.1 + 1); omega) ?_ (by show S.1 + 1 ≤ 1000000; omega) (z_P_of (fun k hk => ?_)) (hS.tr hS1) la hl T hT ?_
      · have := (hP1 _ _ hlast).lt
        show gB g + (S.1 + 1) ≤ H1.size
        have h0 : gB g + S.1 < H1.size := this
        omega
      · by_cases hk2 : k < S.1
        · rw [z_cell_nw hk2]; exact z_P_at (z_P_init hP1) hk2
        · have hk3 : k = S.1 := by have : k < S.1 + 1 := hk; omega
          subst hk3
          have h0 := hP1 _ _ hlast
          have e0 : z_cell g (z_nw S ci 0) (z_nM S M) S.1 = Sum.inr (ci, (List.range (z_n ci)).map (fun j => if z_rf ci j then va_rf ((none : Option Nat).map (z_ad g)) else .int 0)) := by
            unfold z_cell z_nw z_nM
            simp only [va_up_self]
            rw [if_pos c5]
          rw [e0]; exact h0
      · show Stand p l e R s m args below meth c T locs (cells + 1) (slots + q.2.2)
        exact X
  · cases hw
theorem AW.newarr (pc' bc' bs' : Nat) {t N : Nat} {n : Int32} {at0 : ArrayType} (hd : decode cc pc = .ok (.newarray at0, 2)) (ht : (t = 11 ∧ at0 = .int) ∨ (t = 12 ∧ at0 = .boolean)) (hi : n = nI N) (hN : N < 100000) (hbc : bc = bc' + 1) (hbs : bs = bs' + N) (hn : S.1 < 1000000) (hp : pc + 2 = pc') (kk : AW l g own cc nL rt ini d bc' bs' pc' ls (.ref S.1 :: st) (z_nw S t N) (z_nM S M) Q) : AW l g own cc nL rt ini d bc bs pc ls (.int n :: st) S M Q := by
  subst hp; subst hbc; subst hbs; subst hi
  intro p e R s m args below meth c H locs cells slots mc ms hx hb hr hml hown hlk hin hA h1 h2 h3 h4 h5 h6 h7 h8 h9 hP hS la hl
  have cN : (nI N).toNatClampNeg = N := nI_clamp (by omega)
  have fin : ∀ (q : Nat) (cA : ClassId) (H1 : Heap), cA = gY g t → va_P (gD g) vwCl (z_w g S M ++ [(q, .inl (cA, N, .inl (fun _ => 0)))]) H1 → va_D (gA g) (z_w g S M ++ [(q, .inl (cA, N, .inl (fun _ => 0)))]) → va_S (gA g) H H1 locs →
      W p l e R s m args below meth c H1 locs (cells + 1) (slots + N) (MQ below (z_Q g mc Q) args s mc ms (gA g)) (F0 m (pc + 2) la (.ref q :: st.map (zc g))) := by
    intro q cA H1 hcA hP1 hD1 hS1 T hT X
    subst hcA
    have hz := X.heapSize
    rw [hT] at hz
    have hq0 := z_new_addr hP1 hD1 (by omega)
    subst hq0
    have hlast : (z_w g S M ++ [(gB g + S.1, Sum.inl (gY g t, N, Sum.inl (fun _ => 0)))])[S.1]? = some (gB g + S.1, Sum.inl (gY g t, N, Sum.inl (fun _ => 0))) := by rw [List.getElem?_append_right (by rw [z_w_len]; exact Nat.le_refl _), z_w_len, Nat.sub_self]; rfl
    have h0 := hP1 _ _ hlast
    have h01 : gB g + S.1 < H1.size := h0.lt
    have K := kk p e R s m args below meth c H1 locs (cells + 1) (slots + N) mc ms hx hb hr hml hown hlk hin hA h1 h2 (by omega) (by omega) h5 h6 (by show _ = gB g + (S.1 + 1); omega) (by show gB g + (S.1 + 1) ≤ H1.size; omega) (by show S.1 + 1 ≤ 1000000; omega) (z_P_of (fun k hk => by
      by_cases hk2 : k < S.1
      · rw [z_cell_nw hk2]; exact z_P_at (z_P_init hP1) hk2
      · have hk3 : k = S.1 := by have : k < S.1 + 1 := hk; omega
        subst hk3
        have e0 : z_cell g (z_nw S t N) (z_nM S M) S.1 = Sum.inl (gY g t, N, Sum.inl (fun _ => 0)) := by
          unfold z_cell z_nw z_nM
          simp only [va_up_self]
          rw [if_neg (by omega), if_pos (by omega)]
        rw [e0]; exact h0)) (hS.tr hS1) la hl
    have e1 : z_ad g S.1 = gB g + S.1 := if_pos hn
    have K2 := K T hT X
    rw [List.map_cons] at K2
    have e2 : zc g (.ref S.1) = .ref (gB g + S.1) := by show Value.ref (z_ad g S.1) = _; rw [e1]
    rw [e2] at K2
    exact K2
  rcases ht with ⟨rfl, rfl⟩ | ⟨rfl, rfl⟩
  · exact va_newa (D := gD g) (cl := vwCl) (tys := z_tys g) (ws := z_w g S M) (A := gA g) (H0 := H) (ty := .int) (a0 := (N, .inl (fun _ => 0))) hx hb (hA.word _ (by decide +kernel)) rfl hA.2.1 hP (z_w_D g S M) hS.self (fun q h => Nat.le_trans (Nat.le_trans (Nat.le_add_right _ _) h8) h) (fun _ => rfl) (nI_pos (by omega)) cN (by show N * 4 ≤ _; omega) (by omega) (by omega) hd (fun q cA H1 hK1 hP1 hD1 hS1 => fin q cA H1 (by
      have a1 := (hK1.2 6 (cA, .int) rfl).2
      have a2 := (hA.2.1.2 0 _ rfl).2
      exact Option.some.inj (a1.symm.trans a2)) hP1 hD1 hS1)
  · exact va_newa (D := gD g) (cl := vwCl) (tys := z_tys g) (ws := z_w g S M) (A := gA g) (H0 := H) (ty := .boolean) (a0 := (N, .inl (fun _ => 0))) hx hb (hA.word _ (by decide +kernel)) rfl hA.2.1 hP (z_w_D g S M) hS.self (fun q h => Nat.le_trans (Nat.le_trans (Nat.le_add_right _ _) h8) h) (fun _ => rfl) (nI_pos (by omega)) cN (by show N * 1 ≤ _; omega) (by omega) (by omega) hd (fun q cA H1 hK1 hP1 hD1 hS1 => fin q cA H1 (by
      have a1 := (hK1.2 6 (cA, .boolean) rfl).2
      have a2 := (hA.2.1.2 1 _ rfl).2
      exact Option.some.inj (a1.symm.trans a2)) hP1 hD1 hS1)
theorem AW.newref (pc' bc' bs' : Nat) {t N ix : Nat} {n : Int32} {C : String} (hd : decode cc pc = .ok (.anewarray ix, 3)) (ht : (t = 13 ∧ C = RX1) ∨ (t = 14 ∧ C = RX2) ∨ (t = 15 ∧ C = RX5)) (hw : Cond.classLink own ix C ∈ z_U) (hi : n = nI N) (hN : N < 100000) (hbc : bc = bc' + 1) (hbs : bs = bs' + N) (hn : S.1 < 1000000) (hp : pc + 3 = pc') (kk : AW l g own cc nL rt ini d bc' bs' pc' ls (.ref S.1 :: st) (z_nw S t N) (z_nM S M) Q) : AW l g own cc nL rt ini d bc bs pc ls (.int n :: st) S M Q := by
  subst hp; subst hbc; subst hbs; subst hi
  intro p e R s m args below meth c H locs cells slots mc ms hx hb hr hml hown hlk hin hA h1 h2 h3 h4 h5 h6 h7 h8 h9 hP hS la hl
  have cN : (nI N).toNatClampNeg = N := nI_clamp (by omega)
  have hao : va_AO C s := hA.2.2.2.2.2.1 C (by rcases ht with ⟨-, rfl⟩ | ⟨-, rfl⟩ | ⟨-, rfl⟩ <;> decide +kernel)
  refine va_newq (D := gD g) (cl := vwCl) (tys := z_tys g) (ws := z_w g S M) (A := gA g) (H0 := H) hx hb hown (hA.word _ hw) hao hA.2.1 hP (z_w_D g S M) hS.self (fun q h => Nat.le_trans (Nat.le_trans (Nat.le_add_right _ _) h8) h) (nI_pos (by omega)) cN (by omega) (by omega) (by omega) hd (fun q cA H1 hK1 hP1 hD1 hS1 => ?_)
  have hcA : cA = gY g t := by
    obtain ⟨_, _, _, _, _, a1⟩ := (hK1.2 6 (cA, .object C) rfl).2
    rcases ht with ⟨rfl, rfl⟩ | ⟨rfl, rfl⟩ | ⟨rfl, rfl⟩
    · obtain ⟨_, _, _, _, _, a2⟩ := (hA.2.1.2 2 _ rfl).2
      exact Option.some.inj (a1.symm.trans a2)
    · obtain ⟨_, _, _, _, _, a2⟩ := (hA.2.1.2 3 _ rfl).2
      exact Option.some.inj (a1.symm.trans a2)
    · obtain ⟨_, _, _, _, _, a2⟩ := (hA.2.1.2 4 _ rfl).2
      exact Option.some.inj (a1.symm.trans a2)
  subst hcA
  intro T hT X
  have hz := X.heapSize
  rw [hT] at hz
  have hq0 := z_new_addr hP1 hD1 (by omega)
  subst hq0
  have hlast : (z_w g S M ++ [(gB g + S.1, Sum.inl (gY g t, N, Sum.inr (Sum.inr (Sum.inr (Sum.inr (fun _ => none))))))])[S.1]? = some (gB g + S.1, Sum.inl (gY g t, N, Sum.inr (Sum.inr (Sum.inr (Sum.inr (fun _ => none)))))) := by rw [List.getElem?_append_right (by rw [z_w_len]; exact Nat.le_refl _), z_w_len, Nat.sub_self]; rfl
  have h0 := hP1 _ _ hlast
  have h01 : gB g + S.1 < H1.size := h0.lt
  have e2 : zc g (.ref S.1) = .ref (gB g + S.1) := by show Value.ref (z_ad g S.1) = _; rw [show z_ad g S.1 = gB g + S.1 from if_pos hn]
  rw [show (Value.ref (gB g + S.1) :: st.map (zc g)) = (Value.ref S.1 :: st).map (zc g) from by rw [List.map_cons, e2]]
  refine kk p e R s m args below meth c H1 locs (cells + 1) (slots + N) mc ms hx hb hr hml hown hlk hin hA h1 h2 (by omega) (by omega) h5 h6 (by show _ = gB g + (S.1 + 1); omega) (by show gB g + (S.1 + 1) ≤ H1.size; omega) (by show S.1 + 1 ≤ 1000000; omega) (z_P_of (fun k hk => ?_)) (hS.tr hS1) la hl T hT X
  by_cases hk2 : k < S.1
  · rw [z_cell_nw hk2]; exact z_P_at (z_P_init hP1) hk2
  · have hk3 : k = S.1 := by have : k < S.1 + 1 := hk; omega
    subst hk3
    have e0 : z_cell g (z_nw S t N) (z_nM S M) S.1 = Sum.inl (gY g t, N, Sum.inr (Sum.inr (Sum.inr (Sum.inr (fun _ => none))))) := by
      unfold z_cell z_nw z_nM
      simp only [va_up_self]
      rw [if_neg (by omega), if_neg (by omega)]
      rfl
    rw [e0]; exact h0
theorem AW.mna (pc' bc' bs' : Nat) {N L ix : Nat} {n k : Int32} (hd : decode cc pc = .ok (.multianewarray ix 2, 4)) (hw : Cond.classLink own ix ("[" ++ (FieldType.array .int).toString) ∈ z_U) (hi : n = nI N) (hk : k = nI L) (hN : N < 10000) (hL : L < 10000) (hbc : bc = bc' + (1 + N)) (hbs : bs = bs' + (N + N * L)) (hn : S.1 < 900000) (hp : pc + 4 = pc') (kk : AW l g own cc nL rt ini d bc' bs' pc' ls (.ref S.1 :: st) (z_mS S N L) (z_mM S M N) Q) : AW l g own cc nL rt ini d bc bs pc ls (.int k :: .int n :: st) S M Q := by
  subst hp; subst hbc; subst hbs; subst hi; subst hk
  intro p e R s m args below meth c H locs cells slots mc ms hx hb hr hml hown hlk hin hA h1 h2 h3 h4 h5 h6 h7 h8 h9 hP hS la hl
  refine z_size h7 h8 (fun h80 => ?_)
  intro T hT X
  have cN : (nI N).toNatClampNeg = N := nI_clamp (by omega)
  have cL : (nI L).toNatClampNeg = L := nI_clamp (by omega)
  obtain ⟨vm₁, cA, comp, fA, fC, X', step⟩ := z_mna X hx hown (hA.word _ hw) (show (Cond.arrayOver (.array .int)).before args s = true from hA.2.2.2.2.2.2) (hA.word (Cond.arrayClass .int) (by decide +kernel)) (n := nI N) (k := nI L) (la := la) (st := st.map (zc g)) (by rw [hb]; exact hd) cN cL (nI_pos (by omega)) (nI_pos (by omega)) hN hL (by omega) (by omega)
  have hcA : cA = gY g 16 := by
    have a2 := (hA.2.1.2 5 _ rfl).2
    exact Option.some.inj (fA.symm.trans a2)
  have hcI : comp = gY g 11 := by
    have a2 := (hA.2.1.2 0 _ rfl).2
    exact Option.some.inj (fC.symm.trans a2)
  subst hcA; subst hcI
  obtain ⟨-, f1, -, f2, f3⟩ := z_mk_is (T.setVm vm₁) (gY g 16) (gY g 11) N L N
  generalize z_mk (T.setVm vm₁) (gY g 16) (gY g 11) N L N = F at X' step f1 f2 f3
  have hTh : (T.setVm vm₁).heap = H := hT
  rw [hTh] at f1 f2 f3
  have hold : ∀ x : Nat, x < H.size → F.heap[x]? = H[x]? := fun x hx => (f3 x).1 hx
  have hrow : ∀ j : Nat, j < N → F.heap[H.size + 1 + j]? = some (z_mi (gY g 11) L) := fun j hj => (f3 _).2 (by omega) (by omega)
  have hS1 : va_S (gA g) H F.heap locs := ⟨by rw [f1]; omega, fun q q1 _ => hold q q1, hS.2.2⟩
  have e2 : zc g (.ref S.1) = .ref (gB g + S.1) := by show Value.ref (z_ad g S.1) = _; rw [show z_ad g S.1 = gB g + S.1 from if_pos (by omega)]
  obtain ⟨t2, a1, b1⟩ := kk p e R s m args below meth c F.heap locs (cells + (1 + N)) (slots + (N + N * L)) mc ms hx hb hr hml hown hlk hin hA h1 h2 (by omega) (by omega) h5 h6 (by show _ = gB g + (S.1 + 1 + N); omega) (by show gB g + (S.1 + 1 + N) ≤ F.heap.size; rw [f1]; omega) (by show S.1 + 1 + N ≤ 1000000; omega) (z_P_of (fun k hk => by
    have hk0 : k < S.1 + 1 + N := hk
    by_cases hk2 : k < S.1
    · rw [z_cell_m hk2]
      exact (z_P_at hP hk2).kept (hold _ (by show gB g + k < H.size; omega))
    · by_cases hk3 : k = S.1
      · subst hk3
        have e0 : z_cell g (z_mS S N L) (z_mM S M N) S.1 = Sum.inl (gY g 16, N, Sum.inr (Sum.inr (Sum.inr (Sum.inr (fun j => (if j < N then some (S.1 + 1 + j) else none).map (z_ad g)))))) := by
          unfold z_cell z_mS
          simp
        rw [e0]
        show F.heap[gB g + S.1]? = some (vp_cell _ _)
        rw [h80, f2, vp_cell_q]
        unfold z_mo
        congr 2
        funext j
        by_cases hj : j < N
        · rw [if_pos hj, if_pos hj]
          show Value.ref _ = Value.ref (z_ad g (S.1 + 1 + j))
          rw [show z_ad g (S.1 + 1 + j) = gB g + (S.1 + 1 + j) from if_pos (by omega)]
          rw [← h80]
          exact congrArg Value.ref (show gB g + S.1 + 1 + j = gB g + (S.1 + 1 + j) by omega)
        · rw [if_neg hj, if_neg hj]; rfl
      · have e0 : z_cell g (z_mS S N L) (z_mM S M N) k = Sum.inl (gY g 11, L, Sum.inl (fun _ => 0)) := by
          have q1 : S.1 < k ∧ k < S.1 + 1 + N := by omega
          unfold z_cell z_mS z_mM
          simp only [if_neg hk3, if_pos q1]
          rw [if_neg (by decide), if_pos (by decide)]
        rw [e0]
        show F.heap[gB g + k]? = some (vp_cell _ _)
        rw [show gB g + k = H.size + 1 + (k - S.1 - 1) by omega, hrow _ (by omega), vp_cell_i]
        rfl)) (hS.tr hS1) la hl F rfl X'
  refine ⟨t2, step t2 ?_, b1⟩
  have e3 : T.heap.size = gB g + S.1 := by rw [hT]; exact h80.symm
  rw [e3]
  rw [List.map_cons, e2] at a1
  exact a1
end AWN
