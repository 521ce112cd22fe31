section PAIR7
variable {l : Launch} {g : zG} {m0 m1 md : Nat} {M : zM} {Q : Int32 → zS → zM → Prop}
theorem P_sheet (hI : Inv m0 m1 md M) {s lane n : Int32} (hQ : ∀ x a' b' c' M1, z_R l g yX10_sheet cX10_sheet 5 [.ref 99, .int s, .int lane, .int n] x a' b' c' M1 → Q x (ZS a' b' c') M1) : AMet l g yX9_sheet cX9_sheet 4 (some .int) 29 0 0 [.ref 0, .int s, .int lane, .int n] (ZS m0 m1 md) M (z_Qi Q) := by
  obtain ⟨i1, i2, i3, i4, i5, i6, i7, i8, i9⟩ := id hI
  by_cases c1 : 0 ≤ s.toInt ∧ s.toInt ≤ 3
  · have c1' : ¬ (s.toInt < 0 ∨ 3 < s.toInt) := by omega
    by_cases c2 : 0 ≤ lane.toInt ∧ lane.toInt ≤ 2
    · have c2' : ¬ (lane.toInt < 0 ∨ 2 < lane.toInt) := by omega
      by_cases c3 : 48 < n.toInt
      · have ef : f_sheet M s lane n = (-1, M) := by unfold f_sheet; rw [if_neg c1', if_neg c2', if_pos c3]
        have eg : g_sheet M s lane n = (-1, M) := by unfold g_sheet; rw [if_neg (not_not_intro c1), if_neg (not_not_intro c2), if_pos c3]
        refine C_X9_sheet (d := 27)  ?_
        rw [ef]
        refine hQ _ m0 m1 md M (fun Q2 h2 => C_X10_sheet (d := 27)  ?_)
        rw [eg]
        exact h2 M hI
      · by_cases c4 : n.toInt < 0
        · have ef : f_sheet M s lane n = (-14, M) := by unfold f_sheet; rw [if_neg c1', if_neg c2', if_neg c3, if_pos c4]
          have eg : g_sheet M s lane n = (-14, M) := by unfold g_sheet; rw [if_neg (not_not_intro c1), if_neg (not_not_intro c2), if_neg c3, if_pos c4]
          refine C_X9_sheet (d := 27)  ?_
          rw [ef]
          refine hQ _ m0 m1 md M (fun Q2 h2 => C_X10_sheet (d := 27)  ?_)
          rw [eg]
          exact h2 M hI
        · obtain ⟨k, hk, rfl, hk2⟩ := z_nI (v := s) (n := 3) c1.1 c1.2
          obtain ⟨vv, hv, rfl, hv2⟩ := z_nI (v := lane) (n := 2) c2.1 c2.2
          obtain ⟨z, hz, rfl, hz2⟩ := z_nI (v := n) (n := 48) (by omega) (by omega)
          have ef : f_sheet M (nI k) (nI vv) (nI z) = (nI z, z_row (z_st (z_st M (91 + 2 * k) 1 (nI vv)) (91 + 2 * k) 2 (nI z)) (92 + 2 * k) (z_fill (M (92 + 2 * k)) 48 (nI 0))) := by unfold f_sheet; rw [if_neg c1', if_neg c2', if_neg c3, if_neg c4, nI_clamp (n := k) (by omega)]
          refine C_X9_sheet (d := 27) ?_
          rw [ef]
          dsimp only
          refine hQ _ m0 m1 md _ (fun Q2 h2 => ?_)
          have f1 : ∀ c, c ≠ 91 + 2 * k → c ≠ 92 + 2 * k → z_row (z_st (z_st M (91 + 2 * k) 1 (nI vv)) (91 + 2 * k) 2 (nI z)) (92 + 2 * k) (z_fill (M (92 + 2 * k)) 48 (nI 0)) c = M c := fun c k1 k2 => by rw [z_row_ne _ k2, z_st_ne k1, z_st_ne k1]
          have a1 : z_row (z_st (z_st M (91 + 2 * k) 1 (nI vv)) (91 + 2 * k) 2 (nI z)) (92 + 2 * k) (z_fill (M (92 + 2 * k)) 48 (nI 0)) (91 + 2 * k) 1 = nI vv := by rw [z_row_ne _ (by omega), z_st_o (by decide), z_st_v]
          have a2 : z_row (z_st (z_st M (91 + 2 * k) 1 (nI vv)) (91 + 2 * k) 2 (nI z)) (92 + 2 * k) (z_fill (M (92 + 2 * k)) 48 (nI 0)) (91 + 2 * k) 2 = nI z := by rw [z_row_ne _ (by omega), z_st_v]
          have a3 : ∀ i, i < 48 → z_row (z_st (z_st M (91 + 2 * k) 1 (nI vv)) (91 + 2 * k) 2 (nI z)) (92 + 2 * k) (z_fill (M (92 + 2 * k)) 48 (nI 0)) (92 + 2 * k) i = nI 0 := fun i hi => by rw [z_row_at]; unfold z_fill; rw [if_pos hi]
          generalize z_row (z_st (z_st M (91 + 2 * k) 1 (nI vv)) (91 + 2 * k) 2 (nI z)) (92 + 2 * k) (z_fill (M (92 + 2 * k)) 48 (nI 0)) = M1 at f1 a1 a2 a3 ⊢
          have kk : ∀ c, 99 ≤ c → M1 c = M c := fun c hc => f1 c (by omega) (by omega)
          have eg : g_sheet M1 (nI k) (nI vv) (nI z) = (nI z, z_row (z_st (z_st M1 133 k (nI vv)) 134 k (nI z)) 135 (z_rng (M 135) (48 * k) (48 * k + 48) (nI 0))) := by unfold g_sheet; rw [if_neg (not_not_intro c1), if_neg (not_not_intro c2), if_neg c3, if_neg c4, nI_clamp (n := k) (by omega), kk 135 (by omega)]
          refine C_X10_sheet (d := 27) ?_
          rw [eg]
          dsimp only
          have v : ∀ c, (((1 ≤ c ∧ c ≤ 2) ∨ (20 ≤ c ∧ c < 64) ∨ (70 ≤ c ∧ c ≤ 86) ∨ (89 ≤ c ∧ c ≤ 98) ∨ c = 100 ∨ (104 ≤ c ∧ c ≤ 108) ∨ (113 ≤ c ∧ c ≤ 115) ∨ (121 ≤ c ∧ c ≤ 123) ∨ (125 ≤ c ∧ c ≤ 129) ∨ c = 131 ∨ (133 ≤ c ∧ c ≤ 135)) ∧ ¬ (91 ≤ c ∧ c ≤ 98) ∧ ¬ (133 ≤ c ∧ c ≤ 135)) → z_row (z_st (z_st M1 133 k (nI vv)) 134 k (nI z)) 135 (z_rng (M 135) (48 * k) (48 * k + 48) (nI 0)) c = M c := fun c hc => by rw [z_row_ne _ (by omega), z_st_ne (by omega), z_st_ne (by omega), f1 c (by omega) (by omega)]
          have v9 : ∀ j, j ≠ 100 → z_row (z_st (z_st M1 133 k (nI vv)) 134 k (nI z)) 135 (z_rng (M 135) (48 * k) (48 * k + 48) (nI 0)) 99 j = M 99 j := fun j _ => by rw [z_row_ne _ (by decide), z_st_ne (by decide), z_st_ne (by decide), kk 99 (by omega)]
          have v0 : ∀ j, j ≠ 100 → z_row (z_st (z_st M1 133 k (nI vv)) 134 k (nI z)) 135 (z_rng (M 135) (48 * k) (48 * k + 48) (nI 0)) 0 j = M 0 j := fun j _ => by rw [z_row_ne _ (by decide), z_st_ne (by decide), z_st_ne (by decide), f1 0 (by omega) (by omega)]
          have b1 : z_row (z_st (z_st M1 133 k (nI vv)) 134 k (nI z)) 135 (z_rng (M 135) (48 * k) (48 * k + 48) (nI 0)) 133 = upd (M 133) k (nI vv) := by rw [z_row_ne _ (by decide), z_st_ne (by decide), z_st_at, kk 133 (by omega)]
          have b2 : z_row (z_st (z_st M1 133 k (nI vv)) 134 k (nI z)) 135 (z_rng (M 135) (48 * k) (48 * k + 48) (nI 0)) 134 = upd (M 134) k (nI z) := by rw [z_row_ne _ (by decide), z_st_at, z_st_ne (by decide), kk 134 (by omega)]
          have b3 : z_row (z_st (z_st M1 133 k (nI vv)) 134 k (nI z)) 135 (z_rng (M 135) (48 * k) (48 * k + 48) (nI 0)) 135 = z_rng (M 135) (48 * k) (48 * k + 48) (nI 0) := z_row_at _ _
          have lo : ∀ c, c < 99 → z_row (z_st (z_st M1 133 k (nI vv)) 134 k (nI z)) 135 (z_rng (M 135) (48 * k) (48 * k + 48) (nI 0)) c = M1 c := fun c hc => by rw [z_row_ne _ (by omega), z_st_ne (by omega), z_st_ne (by omega)]
          generalize z_row (z_st (z_st M1 133 k (nI vv)) 134 k (nI z)) 135 (z_rng (M 135) (48 * k) (48 * k + 48) (nI 0)) = M2 at v v9 v0 b1 b2 b3 lo ⊢
          refine h2 M2 ⟨i1.fr (fun c c1 c2 => v c (by omega)) (fun c c1 c2 => v c (by omega)), i2.fr (v 1 (by omega)) (v 2 (by omega)) (v9 1 (by decide)) (v 100 (by omega)), i3.fr (v 59 (by omega)) (v9 16 (by decide)) (v 61 (by omega)) (v 62 (by omega)) (v 63 (by omega)) (v 113 (by omega)) (v 114 (by omega)) (v 115 (by omega)), i4.fr (v 70 (by omega)) (v 72 (by omega)) (v 73 (by omega)) (v 74 (by omega)) (v 75 (by omega)) (v9 25 (by decide)) (v 121 (by omega)) (v 122 (by omega)) (v 123 (by omega)), i5.fr (fun c c1 c2 => v c (by omega)) (v 125 (by omega)) (v 126 (by omega)), i6.fr (fun c c1 c2 => v c (by omega)) (v9 34 (by decide)) (fun c c1 c2 => v c (by omega)), i7.fr (v0 14 (by decide)) (v0 15 (by decide)) (v9 32 (by decide)) (v9 33 (by decide)), i8.fr (v0 13 (by decide)) (v9 39 (by decide)) (v 89 (by omega)) (v 131 (by omega)), ?_⟩
          intro j hj
          unfold I_s1
          rw [lo (91 + 2 * j) (by omega), lo (92 + 2 * j) (by omega), b1, b2, b3]
          unfold z_rng
          by_cases e : j = k
          · subst e
            rw [a1, a2, z_upd_at, z_upd_at]
            refine ⟨Or.inr ⟨vv, by omega, rfl, rfl⟩, ⟨z, hz, rfl, rfl⟩, fun i hi => ?_, fun _ i hi => ?_⟩
            · rw [a3 i hi, if_pos (by omega)]
            · rw [if_pos (by omega)]; exact Or.inl rfl
          · rw [f1 (91 + 2 * j) (by omega) (by omega), f1 (92 + 2 * j) (by omega) (by omega), z_upd_ne e, z_upd_ne e]
            obtain ⟨s1, s2, s3, s4⟩ := i9 j hj
            refine ⟨s1, s2, fun i hi => ?_, fun h i hi => ?_⟩
            · rw [if_neg (by omega)]; exact s3 i hi
            · rw [if_neg (by omega)]; exact s4 h i hi
    · have ef : f_sheet M s lane n = (-1, M) := by unfold f_sheet; rw [if_neg c1', if_pos (by omega)]
      have eg : g_sheet M s lane n = (-1, M) := by unfold g_sheet; rw [if_neg (not_not_intro c1), if_pos c2]
      refine C_X9_sheet (d := 27)  ?_
      rw [ef]
      refine hQ _ m0 m1 md M (fun Q2 h2 => C_X10_sheet (d := 27)  ?_)
      rw [eg]
      exact h2 M hI
  · have ef : f_sheet M s lane n = (-1, M) := by unfold f_sheet; rw [if_pos (by omega)]
    have eg : g_sheet M s lane n = (-1, M) := by unfold g_sheet; rw [if_pos c1]
    refine C_X9_sheet (d := 27)  ?_
    rw [ef]
    refine hQ _ m0 m1 md M (fun Q2 h2 => C_X10_sheet (d := 27)  ?_)
    rw [eg]
    exact h2 M hI
theorem P_drop (hI : Inv m0 m1 md M) {s : Int32} (hQ : ∀ x a' b' c' M1, z_R l g yX10_drop cX10_drop 2 [.ref 99, .int s] x a' b' c' M1 → Q x (ZS a' b' c') M1) : AMet l g yX9_drop cX9_drop 3 (some .int) 29 0 0 [.ref 0, .int s] (ZS m0 m1 md) M (z_Qi Q) := by
  obtain ⟨i1, i2, i3, i4, i5, i6, i7, i8, i9⟩ := id hI
  by_cases c1 : 0 ≤ s.toInt ∧ s.toInt ≤ 3
  · have c1' : ¬ (s.toInt < 0 ∨ 3 < s.toInt) := by omega
    obtain ⟨k, hk, rfl, hk2⟩ := z_nI (v := s) (n := 3) c1.1 c1.2
    obtain ⟨s1, ⟨z, hz, z1, z2⟩, s3, s4⟩ := i9 k (by omega)
    rcases s1 with ⟨e1, e2⟩ | ⟨vv, hv, e1, e2⟩
    · have ef : f_drop M (nI k) = (-11, M) := by unfold f_drop; rw [if_neg c1', nI_clamp (n := k) (by omega), e1, if_pos (by decide)]
      have eg : g_drop M (nI k) = (-11, M) := by unfold g_drop; rw [if_neg (not_not_intro c1), nI_clamp (n := k) (by omega), e2, if_pos (by decide)]
      refine C_X9_drop (d := 27)  ?_
      rw [ef]
      refine hQ _ m0 m1 md M (fun Q2 h2 => C_X10_drop (d := 27)  ?_)
      rw [eg]
      exact h2 M hI
    · have tv : (nI vv).toInt = (vv : Int) := z_ti (by omega)
      have ef : f_drop M (nI k) = (nI z, z_st M (91 + 2 * k) 1 (-4)) := by unfold f_drop; rw [if_neg c1', nI_clamp (n := k) (by omega), e1, tv, if_neg (by omega), z1]
      refine C_X9_drop (d := 27) ?_
      rw [ef]
      dsimp only
      refine hQ _ m0 m1 md _ (fun Q2 h2 => ?_)
      have eg : g_drop (z_st M (91 + 2 * k) 1 (-4)) (nI k) = (nI z, z_st (z_st M (91 + 2 * k) 1 (-4)) 133 k (-1)) := by unfold g_drop; rw [if_neg (not_not_intro c1), nI_clamp (n := k) (by omega), z_st_ne (by omega), z_st_ne (by omega), e2, tv, if_neg (by omega), z2]
      refine C_X10_drop (d := 27) ?_
      rw [eg]
      dsimp only
      have v : ∀ c, (((1 ≤ c ∧ c ≤ 2) ∨ (20 ≤ c ∧ c < 64) ∨ (70 ≤ c ∧ c ≤ 86) ∨ (89 ≤ c ∧ c ≤ 98) ∨ c = 100 ∨ (104 ≤ c ∧ c ≤ 108) ∨ (113 ≤ c ∧ c ≤ 115) ∨ (121 ≤ c ∧ c ≤ 123) ∨ (125 ≤ c ∧ c ≤ 129) ∨ c = 131 ∨ (133 ≤ c ∧ c ≤ 135)) ∧ ¬ (91 ≤ c ∧ c ≤ 98) ∧ ¬ (133 ≤ c ∧ c ≤ 135)) → z_st (z_st M (91 + 2 * k) 1 (-4)) 133 k (-1) c = M c := fun c hc => by rw [z_st_ne (by omega), z_st_ne (by omega)]
      have v9 : ∀ j, j ≠ 100 → z_st (z_st M (91 + 2 * k) 1 (-4)) 133 k (-1) 99 j = M 99 j := fun j _ => by rw [z_st_ne (by omega), z_st_ne (by omega)]
      have v0 : ∀ j, j ≠ 100 → z_st (z_st M (91 + 2 * k) 1 (-4)) 133 k (-1) 0 j = M 0 j := fun j _ => by rw [z_st_ne (by omega), z_st_ne (by omega)]
      refine h2 _ ⟨i1.fr (fun c c1 c2 => v c (by omega)) (fun c c1 c2 => v c (by omega)), i2.fr (v 1 (by omega)) (v 2 (by omega)) (v9 1 (by decide)) (v 100 (by omega)), i3.fr (v 59 (by omega)) (v9 16 (by decide)) (v 61 (by omega)) (v 62 (by omega)) (v 63 (by omega)) (v 113 (by omega)) (v 114 (by omega)) (v 115 (by omega)), i4.fr (v 70 (by omega)) (v 72 (by omega)) (v 73 (by omega)) (v 74 (by omega)) (v 75 (by omega)) (v9 25 (by decide)) (v 121 (by omega)) (v 122 (by omega)) (v 123 (by omega)), i5.fr (fun c c1 c2 => v c (by omega)) (v 125 (by omega)) (v 126 (by omega)), i6.fr (fun c c1 c2 => v c (by omega)) (v9 34 (by decide)) (fun c c1 c2 => v c (by omega)), i7.fr (v0 14 (by decide)) (v0 15 (by decide)) (v9 32 (by decide)) (v9 33 (by decide)), i8.fr (v0 13 (by decide)) (v9 39 (by decide)) (v 89 (by omega)) (v 131 (by omega)), ?_⟩
      intro j hj
      obtain ⟨t1, t2, t3, t4⟩ := i9 j hj
      unfold I_s1
      rw [z_st_ne (by omega : 91 + 2 * j ≠ 133), z_st_ne (by omega : 92 + 2 * j ≠ 133), z_st_ne (by omega : 92 + 2 * j ≠ 91 + 2 * k), z_st_ne (by omega : 134 ≠ 133), z_st_ne (by omega : 134 ≠ 91 + 2 * k), z_st_ne (by omega : 135 ≠ 133), z_st_ne (by omega : 135 ≠ 91 + 2 * k)]
      by_cases e : j = k
      · subst e
        rw [z_st_v, z_st_v, z_st_o (by decide : (2 : Nat) ≠ 1)]
        exact ⟨Or.inl ⟨rfl, rfl⟩, t2, t3, fun h => absurd h (by decide)⟩
      · rw [z_st_ne (by omega : 91 + 2 * j ≠ 91 + 2 * k), z_st_o e, z_st_ne (by omega : 133 ≠ 91 + 2 * k)]
        exact ⟨t1, t2, t3, t4⟩
  · have ef : f_drop M s = (-1, M) := by unfold f_drop; rw [if_pos (by omega)]
    have eg : g_drop M s = (-1, M) := by unfold g_drop; rw [if_pos c1]
    refine C_X9_drop (d := 27)  ?_
    rw [ef]
    refine hQ _ m0 m1 md M (fun Q2 h2 => C_X10_drop (d := 27)  ?_)
    rw [eg]
    exact h2 M hI
theorem P_item (hI : Inv m0 m1 md M) {s lane i v : Int32} (hQ : ∀ x a' b' c' M1, z_R l g yX10_item cX10_item 6 [.ref 99, .int s, .int lane, .int i, .int v] x a' b' c' M1 → Q x (ZS a' b' c') M1) : AMet l g yX9_item cX9_item 7 (some .int) 29 0 0 [.ref 0, .int s, .int lane, .int i, .int v] (ZS m0 m1 md) M (z_Qi Q) := by
  obtain ⟨i1, i2, i3, i4, i5, i6, i7, i8, i9⟩ := id hI
  by_cases c1 : 0 ≤ s.toInt ∧ s.toInt ≤ 3
  · have c1' : ¬ (s.toInt < 0 ∨ 3 < s.toInt) := by omega
    by_cases c2 : 0 ≤ lane.toInt ∧ lane.toInt ≤ 2
    · have c2' : ¬ (lane.toInt < 0 ∨ 2 < lane.toInt) := by omega
      obtain ⟨k, hk, rfl, hk2⟩ := z_nI (v := s) (n := 3) c1.1 c1.2
      have hs := i9 k (by omega)
      have fe := z_find hs (lane := lane) (i := i) (n := nI 1) (by decide) (by omega)
      by_cases c3 : (g_finds M k lane i (nI 1)).toInt < 0
      · have ef : f_item M (nI k) lane i v = (g_finds M k lane i (nI 1), M) := by unfold f_item; rw [if_neg c1', if_neg c2', nI_clamp (n := k) (by omega), fe, if_pos c3]
        have eg : g_item M (nI k) lane i v = (g_finds M k lane i (nI 1), M) := by unfold g_item; rw [if_neg (not_not_intro c1), if_neg (not_not_intro c2), nI_clamp (n := k) (by omega), if_pos c3]
        refine C_X9_item (d := 27) (hI.2.2.2.2.2.2.2.2.sz).2 ?_
        rw [ef]
        refine hQ _ m0 m1 md M (fun Q2 h2 => C_X10_item (d := 27) (hI.2.2.2.2.2.2.2.2.sz).1 ?_)
        rw [eg]
        exact h2 M hI
      · obtain ⟨vv, z, hv, hz, y1, y2, y3, y4, y5, y6⟩ := z_found hs c3
        have t1 : (nI 1).toInt = (1 : Int) := by decide
        rw [t1] at y5
        obtain ⟨b, hb, rfl, hb2⟩ := z_nI (v := i) (n := 47) y4 (by omega)
        have ef : f_item M (nI k) lane (nI b) v = (nI 1, z_st M (92 + 2 * k) b (z_item lane v)) := by unfold f_item; rw [if_neg c1', if_neg c2', nI_clamp (n := k) (by omega), fe, if_neg c3, nI_clamp (n := b) (by omega)]
        refine C_X9_item (d := 27) (hI.2.2.2.2.2.2.2.2.sz).2 ?_
        rw [ef]
        dsimp only
        refine hQ _ m0 m1 md _ (fun Q2 h2 => ?_)
        have kk : ∀ c, 99 ≤ c → z_st M (92 + 2 * k) b (z_item lane v) c = M c := fun c hc => z_st_ne (by omega)
        have eg : g_item (z_st M (92 + 2 * k) b (z_item lane v)) (nI k) lane (nI b) v = (nI 1, z_st (z_st M (92 + 2 * k) b (z_item lane v)) 135 (48 * k + b) (z_item lane v)) := by
          have e0 : g_finds (z_st M (92 + 2 * k) b (z_item lane v)) k lane (nI b) (nI 1) = g_finds M k lane (nI b) (nI 1) := by unfold g_finds; rw [kk 133 (by omega), kk 134 (by omega)]
          unfold g_item; rw [if_neg (not_not_intro c1), if_neg (not_not_intro c2), nI_clamp (n := k) (by omega), e0, if_neg c3, nI_clamp (n := b) (by omega)]
        refine C_X10_item (d := 27) (by rw [kk 134 (by omega)]; exact (hI.2.2.2.2.2.2.2.2.sz).1) ?_
        rw [eg]
        dsimp only
        have b01 : vv = 0 → z_item lane v = nI 0 ∨ z_item lane v = nI 1 := fun e => by
          unfold z_item
          rw [if_pos (by omega)]
          split
          · exact Or.inl rfl
          · exact Or.inr rfl
        generalize z_item lane v = x at b01 ⊢ kk h2
        have v : ∀ c, (((1 ≤ c ∧ c ≤ 2) ∨ (20 ≤ c ∧ c < 64) ∨ (70 ≤ c ∧ c ≤ 86) ∨ (89 ≤ c ∧ c ≤ 98) ∨ c = 100 ∨ (104 ≤ c ∧ c ≤ 108) ∨ (113 ≤ c ∧ c ≤ 115) ∨ (121 ≤ c ∧ c ≤ 123) ∨ (125 ≤ c ∧ c ≤ 129) ∨ c = 131 ∨ (133 ≤ c ∧ c ≤ 135)) ∧ ¬ (91 ≤ c ∧ c ≤ 98) ∧ ¬ (133 ≤ c ∧ c ≤ 135)) → z_st (z_st M (92 + 2 * k) b x) 135 (48 * k + b) x c = M c := fun c hc => by rw [z_st_ne (by omega), z_st_ne (by omega)]
        have v9 : ∀ j, j ≠ 100 → z_st (z_st M (92 + 2 * k) b x) 135 (48 * k + b) x 99 j = M 99 j := fun j _ => by rw [z_st_ne (by omega), z_st_ne (by omega)]
        have v0 : ∀ j, j ≠ 100 → z_st (z_st M (92 + 2 * k) b x) 135 (48 * k + b) x 0 j = M 0 j := fun j _ => by rw [z_st_ne (by omega), z_st_ne (by omega)]
        refine h2 _ ⟨i1.fr (fun c c1 c2 => v c (by omega)) (fun c c1 c2 => v c (by omega)), i2.fr (v 1 (by omega)) (v 2 (by omega)) (v9 1 (by decide)) (v 100 (by omega)), i3.fr (v 59 (by omega)) (v9 16 (by decide)) (v 61 (by omega)) (v 62 (by omega)) (v 63 (by omega)) (v 113 (by omega)) (v 114 (by omega)) (v 115 (by omega)), i4.fr (v 70 (by omega)) (v 72 (by omega)) (v 73 (by omega)) (v 74 (by omega)) (v 75 (by omega)) (v9 25 (by decide)) (v 121 (by omega)) (v 122 (by omega)) (v 123 (by omega)), i5.fr (fun c c1 c2 => v c (by omega)) (v 125 (by omega)) (v 126 (by omega)), i6.fr (fun c c1 c2 => v c (by omega)) (v9 34 (by decide)) (fun c c1 c2 => v c (by omega)), i7.fr (v0 14 (by decide)) (v0 15 (by decide)) (v9 32 (by decide)) (v9 33 (by decide)), i8.fr (v0 13 (by decide)) (v9 39 (by decide)) (v 89 (by omega)) (v 131 (by omega)), ?_⟩
        intro j hj
        obtain ⟨t1, t2, t3, t4⟩ := i9 j hj
        unfold I_s1
        rw [z_st_ne (by omega : 91 + 2 * j ≠ 135), z_st_ne (by omega : 91 + 2 * j ≠ 92 + 2 * k), z_st_ne (by omega : 92 + 2 * j ≠ 135), z_st_ne (by omega : 133 ≠ 135), z_st_ne (by omega : 133 ≠ 92 + 2 * k), z_st_ne (by omega : 134 ≠ 135), z_st_ne (by omega : 134 ≠ 92 + 2 * k), z_st_at, z_st_ne (by omega : 135 ≠ 92 + 2 * k)]
        by_cases e : j = k
        · subst e
          rw [z_st_at]
          refine ⟨t1, t2, fun i hi => ?_, fun h i hi => ?_⟩
          · by_cases ei : i = b
            · subst ei; rw [z_upd_at, z_upd_at]
            · rw [z_upd_ne ei, z_upd_ne (by omega)]; exact t3 i hi
          · by_cases ei : i = b
            · subst ei; rw [z_upd_at]; exact b01 (z_nIi (by omega) (by omega) (y1.symm.trans h))
            · rw [z_upd_ne (by omega)]; exact t4 h i hi
        · rw [z_st_ne (by omega : 92 + 2 * j ≠ 92 + 2 * k)]
          refine ⟨t1, t2, fun i hi => ?_, fun h i hi => ?_⟩
          · rw [z_upd_ne (by omega)]; exact t3 i hi
          · rw [z_upd_ne (by omega)]; exact t4 h i hi
    · have ef : f_item M s lane i v = (-1, M) := by unfold f_item; rw [if_neg c1', if_pos (by omega)]
      have eg : g_item M s lane i v = (-1, M) := by unfold g_item; rw [if_neg (not_not_intro c1), if_pos c2]
      refine C_X9_item (d := 27) (hI.2.2.2.2.2.2.2.2.sz).2 ?_
      rw [ef]
      refine hQ _ m0 m1 md M (fun Q2 h2 => C_X10_item (d := 27) (hI.2.2.2.2.2.2.2.2.sz).1 ?_)
      rw [eg]
      exact h2 M hI
  · have ef : f_item M s lane i v = (-1, M) := by unfold f_item; rw [if_pos (by omega)]
    have eg : g_item M s lane i v = (-1, M) := by unfold g_item; rw [if_pos c1]
    refine C_X9_item (d := 27) (hI.2.2.2.2.2.2.2.2.sz).2 ?_
    rw [ef]
    refine hQ _ m0 m1 md M (fun Q2 h2 => C_X10_item (d := 27) (hI.2.2.2.2.2.2.2.2.sz).1 ?_)
    rw [eg]
    exact h2 M hI
theorem P_copy (hI : Inv m0 m1 md M) {s i t j n : Int32} (hQ : ∀ x a' b' c' M1, z_R l g yX10_copy cX10_copy 7 [.ref 99, .int s, .int i, .int t, .int j, .int n] x a' b' c' M1 → Q x (ZS a' b' c') M1) : AMet l g yX9_copy cX9_copy 8 (some .int) 29 0 0 [.ref 0, .int s, .int i, .int t, .int j, .int n] (ZS m0 m1 md) M (z_Qi Q) := by
  obtain ⟨i1, i2, i3, i4, i5, i6, i7, i8, i9⟩ := id hI
  by_cases c1 : 0 ≤ s.toInt ∧ s.toInt ≤ 3
  · have c1' : ¬ (s.toInt < 0 ∨ 3 < s.toInt) := by omega
    by_cases c2 : 0 ≤ t.toInt ∧ t.toInt ≤ 3
    · have c2' : ¬ (t.toInt < 0 ∨ 3 < t.toInt) := by omega
      obtain ⟨a, ha, rfl, ha2⟩ := z_nI (v := s) (n := 3) c1.1 c1.2
      obtain ⟨b, hb, rfl, hb2⟩ := z_nI (v := t) (n := 3) c2.1 c2.2
      have ca : (nI a).toNatClampNeg = a := nI_clamp (by omega)
      have cb : (nI b).toNatClampNeg = b := nI_clamp (by omega)
      obtain ⟨sa1, ⟨za, hza, za1, za2⟩, sa3, sa4⟩ := i9 a (by omega)
      obtain ⟨sb1, ⟨zb, hzb, zb1, zb2⟩, sb3, sb4⟩ := i9 b (by omega)
      have tza : (nI za).toInt = (za : Int) := z_ti (by omega)
      have tzb : (nI zb).toInt = (zb : Int) := z_ti (by omega)
      rcases sa1 with ⟨ea1, ea2⟩ | ⟨va, hva, ea1, ea2⟩
      · have ef : f_copy M (nI a) i (nI b) j n = (-11, M) := by unfold f_copy; rw [if_neg c1', if_neg c2', ca, ea1, if_pos (by decide)]
        have eg : g_copy M (nI a) i (nI b) j n = (-11, M) := by unfold g_copy; rw [if_neg (not_not_intro c1), if_neg (not_not_intro c2), ca, ea2, if_pos (by decide)]
        refine C_X9_copy (d := 27) (hI.2.2.2.2.2.2.2.2.sz).2 ?_
        rw [ef]
        refine hQ _ m0 m1 md M (fun Q2 h2 => C_X10_copy (d := 27) (hI.2.2.2.2.2.2.2.2.sz).1 ?_)
        rw [eg]
        exact h2 M hI
      · have tva : (nI va).toInt = (va : Int) := z_ti (by omega)
        have xa1 : ¬ (nI va).toInt = -4 := by omega
        have xa2 : ¬ (nI va).toInt < 0 := by omega
        rcases sb1 with ⟨eb1, eb2⟩ | ⟨vb, hvb, eb1, eb2⟩
        · have ef : f_copy M (nI a) i (nI b) j n = (-11, M) := by unfold f_copy; rw [if_neg c1', if_neg c2', ca, cb, ea1, eb1, if_neg xa1, if_pos (by decide)]
          have eg : g_copy M (nI a) i (nI b) j n = (-11, M) := by unfold g_copy; rw [if_neg (not_not_intro c1), if_neg (not_not_intro c2), ca, cb, ea2, eb2, if_neg xa2, if_pos (by decide)]
          refine C_X9_copy (d := 27) (hI.2.2.2.2.2.2.2.2.sz).2 ?_
          rw [ef]
          refine hQ _ m0 m1 md M (fun Q2 h2 => C_X10_copy (d := 27) (hI.2.2.2.2.2.2.2.2.sz).1 ?_)
          rw [eg]
          exact h2 M hI
        · have tvb : (nI vb).toInt = (vb : Int) := z_ti (by omega)
          have xb1 : ¬ (nI vb).toInt = -4 := by omega
          have xb2 : ¬ (nI vb).toInt < 0 := by omega
          by_cases c3 : (nI va).toInt = (nI vb).toInt
          · have n3 := not_not_intro c3
            have fa : ∀ M1 : zM, M1 133 a = nI va → M1 134 a = nI za → g_finds M1 a (nI va) i n = if i.toInt < 0 ∨ (za : Int) < i.toInt + n.toInt then -13 else nI 0 := fun M1 q1 q2 => by
              unfold g_finds
              rw [q1, q2, tza, if_neg xa2, if_neg (not_not_intro rfl)]
            have fb : ∀ M1 : zM, M1 133 b = nI vb → M1 134 b = nI zb → g_finds M1 b (nI vb) j n = if j.toInt < 0 ∨ (zb : Int) < j.toInt + n.toInt then -13 else nI 0 := fun M1 q1 q2 => by
              unfold g_finds
              rw [q1, q2, tzb, if_neg xb2, if_neg (not_not_intro rfl)]
            have t13 : (-13 : Int32).toInt < 0 := by decide
            have t00 : ¬ (nI 0).toInt < 0 := by decide
            by_cases c4 : 0 ≤ n.toInt ∧ 0 ≤ i.toInt ∧ i.toInt + n.toInt ≤ (za : Int) ∧ 0 ≤ j.toInt ∧ j.toInt + n.toInt ≤ (zb : Int)
            · obtain ⟨nn, hnn, rfl, hn2⟩ := z_nI (v := n) (n := 48) c4.1 (by omega)
              obtain ⟨ii, hii, rfl, hi2⟩ := z_nI (v := i) (n := 48) c4.2.1 (by omega)
              obtain ⟨jj, hjj, rfl, hj2⟩ := z_nI (v := j) (n := 48) c4.2.2.2.1 (by omega)
              have cn : (nI nn).toNatClampNeg = nn := nI_clamp (by omega)
              have ci : (nI ii).toNatClampNeg = ii := nI_clamp (by omega)
              have cj : (nI jj).toNatClampNeg = jj := nI_clamp (by omega)
              have ef : f_copy M (nI a) (nI ii) (nI b) (nI jj) (nI nn) = (nI nn, z_row M (92 + 2 * b) (va_cpy (M (92 + 2 * a)) (M (92 + 2 * b)) ii jj nn)) := by
                unfold f_copy; rw [if_neg c1', if_neg c2', ca, cb, ea1, eb1, if_neg xa1, if_neg xb1, if_neg n3, za1, zb1, tza, tzb, if_neg (by omega), if_neg (by omega), ci, cj, cn]
              refine C_X9_copy (d := 27) (hI.2.2.2.2.2.2.2.2.sz).2 ?_
              rw [ef]
              dsimp only
              refine hQ _ m0 m1 md _ (fun Q2 h2 => ?_)
              have f1 : ∀ c, c ≠ 92 + 2 * b → z_row M (92 + 2 * b) (va_cpy (M (92 + 2 * a)) (M (92 + 2 * b)) ii jj nn) c = M c := fun c hc => z_row_ne _ hc
              have a1 : z_row M (92 + 2 * b) (va_cpy (M (92 + 2 * a)) (M (92 + 2 * b)) ii jj nn) (92 + 2 * b) = va_cpy (M (92 + 2 * a)) (M (92 + 2 * b)) ii jj nn := z_row_at _ _
              generalize z_row M (92 + 2 * b) (va_cpy (M (92 + 2 * a)) (M (92 + 2 * b)) ii jj nn) = M1 at f1 a1 ⊢
              have kk : ∀ c, 99 ≤ c → M1 c = M c := fun c hc => f1 c (by omega)
              have fa1 := fa M1 (by rw [kk 133 (by omega)]; exact ea2) (by rw [kk 134 (by omega)]; exact za2)
              have fb1 := fb M1 (by rw [kk 133 (by omega)]; exact eb2) (by rw [kk 134 (by omega)]; exact zb2)
              rw [if_neg (by omega)] at fa1 fb1
              have eg : g_copy M1 (nI a) (nI ii) (nI b) (nI jj) (nI nn) = (nI nn, z_row (z_row M1 136 (va_cpy (M 135) (M1 136) (48 * a + ii) 0 nn)) 135 (va_cpy (va_cpy (M 135) (M1 136) (48 * a + ii) 0 nn) (M 135) 0 (48 * b + jj) nn)) := by
                unfold g_copy; rw [if_neg (not_not_intro c1), if_neg (not_not_intro c2), ca, cb, kk 133 (by omega), ea2, eb2, if_neg xa2, if_neg xb2, if_neg n3, if_neg (by omega), fa1, if_neg t00, fb1, if_neg t00, kk 135 (by omega), ci, cj, cn]
              refine C_X10_copy (d := 27) (by rw [kk 134 (by omega)]; exact (hI.2.2.2.2.2.2.2.2.sz).1) ?_
              rw [eg]
              dsimp only
              have v : ∀ c, (((1 ≤ c ∧ c ≤ 2) ∨ (20 ≤ c ∧ c < 64) ∨ (70 ≤ c ∧ c ≤ 86) ∨ (89 ≤ c ∧ c ≤ 98) ∨ c = 100 ∨ (104 ≤ c ∧ c ≤ 108) ∨ (113 ≤ c ∧ c ≤ 115) ∨ (121 ≤ c ∧ c ≤ 123) ∨ (125 ≤ c ∧ c ≤ 129) ∨ c = 131 ∨ (133 ≤ c ∧ c ≤ 135)) ∧ ¬ (91 ≤ c ∧ c ≤ 98) ∧ ¬ (133 ≤ c ∧ c ≤ 135)) → z_row (z_row M1 136 (va_cpy (M 135) (M1 136) (48 * a + ii) 0 nn)) 135 (va_cpy (va_cpy (M 135) (M1 136) (48 * a + ii) 0 nn) (M 135) 0 (48 * b + jj) nn) c = M c := fun c hc => by rw [z_row_ne _ (by omega), z_row_ne _ (by omega), f1 c (by omega)]
              have v9 : ∀ j, j ≠ 100 → z_row (z_row M1 136 (va_cpy (M 135) (M1 136) (48 * a + ii) 0 nn)) 135 (va_cpy (va_cpy (M 135) (M1 136) (48 * a + ii) 0 nn) (M 135) 0 (48 * b + jj) nn) 99 j = M 99 j := fun j _ => by rw [z_row_ne _ (by decide), z_row_ne _ (by decide), kk 99 (by omega)]
              have v0 : ∀ j, j ≠ 100 → z_row (z_row M1 136 (va_cpy (M 135) (M1 136) (48 * a + ii) 0 nn)) 135 (va_cpy (va_cpy (M 135) (M1 136) (48 * a + ii) 0 nn) (M 135) 0 (48 * b + jj) nn) 0 j = M 0 j := fun j _ => by rw [z_row_ne _ (by decide), z_row_ne _ (by decide), f1 0 (by omega)]
              refine h2 _ ⟨i1.fr (fun c c1 c2 => v c (by omega)) (fun c c1 c2 => v c (by omega)), i2.fr (v 1 (by omega)) (v 2 (by omega)) (v9 1 (by decide)) (v 100 (by omega)), i3.fr (v 59 (by omega)) (v9 16 (by decide)) (v 61 (by omega)) (v 62 (by omega)) (v 63 (by omega)) (v 113 (by omega)) (v 114 (by omega)) (v 115 (by omega)), i4.fr (v 70 (by omega)) (v 72 (by omega)) (v 73 (by omega)) (v 74 (by omega)) (v 75 (by omega)) (v9 25 (by decide)) (v 121 (by omega)) (v 122 (by omega)) (v 123 (by omega)), i5.fr (fun c c1 c2 => v c (by omega)) (v 125 (by omega)) (v 126 (by omega)), i6.fr (fun c c1 c2 => v c (by omega)) (v9 34 (by decide)) (fun c c1 c2 => v c (by omega)), i7.fr (v0 14 (by decide)) (v0 15 (by decide)) (v9 32 (by decide)) (v9 33 (by decide)), i8.fr (v0 13 (by decide)) (v9 39 (by decide)) (v 89 (by omega)) (v 131 (by omega)), ?_⟩
              intro p hp
              obtain ⟨t1, t2, t3, t4⟩ := i9 p hp
              have cell : ∀ q, q < 48 → va_cpy (va_cpy (M 135) (M1 136) (48 * a + ii) 0 nn) (M 135) 0 (48 * b + jj) nn (48 * p + q) = if p = b ∧ jj ≤ q ∧ q < jj + nn then M 135 (48 * a + (ii + (q - jj))) else M 135 (48 * p + q) := fun q hq => by
                by_cases cc : p = b ∧ jj ≤ q ∧ q < jj + nn
                · rw [if_pos cc, z_cpi (by omega) (by omega), z_cpi (by omega) (by omega)]
                  congr 1; omega
                · rw [if_neg cc, z_cpo (by omega)]
              unfold I_s1
              rw [z_row_ne _ (by omega : 91 + 2 * p ≠ 135), z_row_ne _ (by omega : 91 + 2 * p ≠ 136), z_row_ne _ (by omega : 92 + 2 * p ≠ 135), z_row_ne _ (by omega : 92 + 2 * p ≠ 136), z_row_ne _ (by omega : 133 ≠ 135), z_row_ne _ (by omega : 133 ≠ 136), z_row_ne _ (by omega : 134 ≠ 135), z_row_ne _ (by omega : 134 ≠ 136), z_row_at, f1 (91 + 2 * p) (by omega), kk 133 (by omega), kk 134 (by omega)]
              refine ⟨t1, t2, fun q hq => ?_, fun h q hq => ?_⟩
              · rw [cell q hq]
                by_cases e : p = b
                · subst e
                  rw [a1]
                  by_cases cc : jj ≤ q ∧ q < jj + nn
                  · rw [if_pos ⟨rfl, cc⟩, z_cpi cc.1 cc.2]; exact sa3 _ (by omega)
                  · rw [if_neg (fun z => cc z.2), z_cpo cc]; exact t3 q hq
                · rw [if_neg (fun z => e z.1), f1 _ (by omega)]; exact t3 q hq
              · rw [cell q hq]
                by_cases cc : p = b ∧ jj ≤ q ∧ q < jj + nn
                · rw [if_pos cc]
                  have hp0 : M 133 a = nI 0 := by
                    have e1 : vb = 0 := z_nIi (by omega) (by omega) (by rw [← eb2, ← cc.1]; exact h)
                    rw [ea2]; congr 1; omega
                  exact sa4 hp0 _ (by omega)
                · rw [if_neg cc]; exact t4 h q hq
            · have ef : f_copy M (nI a) i (nI b) j n = (-13, M) := by
                unfold f_copy; rw [if_neg c1', if_neg c2', ca, cb, ea1, eb1, if_neg xa1, if_neg xb1, if_neg n3, za1, zb1, tza, tzb]
                by_cases d1 : i.toInt < 0 ∨ n.toInt < 0 ∨ (za : Int) - n.toInt < i.toInt
                · rw [if_pos d1]
                · rw [if_neg d1, if_pos (by omega)]
              have eg : g_copy M (nI a) i (nI b) j n = (-13, M) := by
                unfold g_copy; rw [if_neg (not_not_intro c1), if_neg (not_not_intro c2), ca, cb, ea2, eb2, if_neg xa2, if_neg xb2, if_neg n3, fa M ea2 za2, fb M eb2 zb2]
                by_cases d0 : n.toInt < 0
                · rw [if_pos d0]
                · rw [if_neg d0]
                  by_cases d1 : i.toInt < 0 ∨ (za : Int) < i.toInt + n.toInt
                  · rw [if_pos d1, if_pos t13]
                  · rw [if_neg d1, if_neg t00]
                    rw [if_pos (show j.toInt < 0 ∨ (zb : Int) < j.toInt + n.toInt by omega), if_pos t13]
              refine C_X9_copy (d := 27) (hI.2.2.2.2.2.2.2.2.sz).2 ?_
              rw [ef]
              refine hQ _ m0 m1 md M (fun Q2 h2 => C_X10_copy (d := 27) (hI.2.2.2.2.2.2.2.2.sz).1 ?_)
              rw [eg]
              exact h2 M hI
          · have ef : f_copy M (nI a) i (nI b) j n = (-12, M) := by unfold f_copy; rw [if_neg c1', if_neg c2', ca, cb, ea1, eb1, if_neg xa1, if_neg xb1, if_pos c3]
            have eg : g_copy M (nI a) i (nI b) j n = (-12, M) := by unfold g_copy; rw [if_neg (not_not_intro c1), if_neg (not_not_intro c2), ca, cb, ea2, eb2, if_neg xa2, if_neg xb2, if_pos c3]
            refine C_X9_copy (d := 27) (hI.2.2.2.2.2.2.2.2.sz).2 ?_
            rw [ef]
            refine hQ _ m0 m1 md M (fun Q2 h2 => C_X10_copy (d := 27) (hI.2.2.2.2.2.2.2.2.sz).1 ?_)
            rw [eg]
            exact h2 M hI
    · have ef : f_copy M s i t j n = (-1, M) := by unfold f_copy; rw [if_neg c1', if_pos (by omega)]
      have eg : g_copy M s i t j n = (-1, M) := by unfold g_copy; rw [if_neg (not_not_intro c1), if_pos c2]
      refine C_X9_copy (d := 27) (hI.2.2.2.2.2.2.2.2.sz).2 ?_
      rw [ef]
      refine hQ _ m0 m1 md M (fun Q2 h2 => C_X10_copy (d := 27) (hI.2.2.2.2.2.2.2.2.sz).1 ?_)
      rw [eg]
      exact h2 M hI
  · have ef : f_copy M s i t j n = (-1, M) := by unfold f_copy; rw [if_pos (by omega)]
    have eg : g_copy M s i t j n = (-1, M) := by unfold g_copy; rw [if_pos c1]
    refine C_X9_copy (d := 27) (hI.2.2.2.2.2.2.2.2.sz).2 ?_
    rw [ef]
    refine hQ _ m0 m1 md M (fun Q2 h2 => C_X10_copy (d := 27) (hI.2.2.2.2.2.2.2.2.sz).1 ?_)
    rw [eg]
    exact h2 M hI
end PAIR7
