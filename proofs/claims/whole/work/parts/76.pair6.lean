section PAIR6
variable {l : Launch} {g : zG} {m0 m1 md : Nat} {M : zM} {Q : Int32 → zS → zM → Prop}
theorem P_sights (hI : Inv m0 m1 md M) {s lane i : Int32} (hQ : ∀ x a' b' c' M1, z_R l g yX10_sights cX10_sights 6 [.ref 99, .int s, .int lane, .int i] x a' b' c' M1 → Q x (ZS a' b' c') M1) : AMet l g yX9_sights cX9_sights 7 (some .int) 29 0 0 [.ref 0, .int s, .int lane, .int i] (ZS m0 m1 md) M (z_Qi Q) := by
  obtain ⟨i1, i2, ⟨T, sg, lt, ms, w1, w2, w3, w4, w5⟩, i4, i5, i6, i7, i8, i9⟩ := id hI
  have tT : (nI T).toInt = (T : Int) := z_ti (by omega)
  by_cases c1 : 0 ≤ s.toInt ∧ s.toInt ≤ 3
  · by_cases c2 : 1 ≤ lane.toInt ∧ lane.toInt ≤ 2
    · obtain ⟨k, hk, rfl, hk2⟩ := z_nI (v := s) (n := 3) c1.1 c1.2
      have hs := i9 k (by omega)
      have fe := z_find hs (lane := lane) (i := i) (n := nI T) (by omega) (by omega)
      by_cases c3 : (g_finds M k lane i (nI T)).toInt < 0
      · have ef : f_sights M (nI k) lane i = (g_finds M k lane i (nI T), M) := by
          unfold f_sights; rw [if_neg (not_not_intro c1), if_neg (not_not_intro c2), w1, nI_clamp (n := k) (by omega), fe, if_pos c3]
        have eg : g_sights M (nI k) lane i = (g_finds M k lane i (nI T), M) := by
          unfold g_sights; rw [if_neg (not_not_intro c1), if_neg (not_not_intro c2), w2, nI_clamp (n := k) (by omega), if_pos c3]
        refine C_X9_sights (d := 27) w1 w3 w4 (hI.2.2.2.2.2.2.2.2.sz).2 ?_
        rw [ef]
        refine hQ _ m0 m1 md M (fun Q2 h2 => C_X10_sights (d := 27) w2 w3 w4 (hI.2.2.2.2.2.2.2.2.sz).1 ?_)
        rw [eg]
        exact h2 M hI
      · obtain ⟨vv, z, hv, hz, y1, y2, y3, y4, y5, y6⟩ := z_found hs c3
        rw [tT] at y5
        obtain ⟨b, hb, rfl, hb2⟩ := z_nI (v := i) (n := 48) y4 (by omega)
        have it := hs.2.2.1
        have cc : (∀ t, t < T → 0 ≤ (M (92 + 2 * k) (b + t)).toInt ∧ (M (92 + 2 * k) (b + t)).toInt ≤ 15) ↔ (∀ t, t < T → 0 ≤ (M 135 (48 * k + b + t)).toInt ∧ (M 135 (48 * k + b + t)).toInt ≤ 15) := by
          constructor
          · intro h t ht
            have := h t ht
            rw [it (b + t) (by omega), show 48 * k + (b + t) = 48 * k + b + t by omega] at this
            exact this
          · intro h t ht
            rw [it (b + t) (by omega), show 48 * k + (b + t) = 48 * k + b + t by omega]
            exact h t ht
        by_cases c4 : ∀ t, t < T → 0 ≤ (M 135 (48 * k + b + t)).toInt ∧ (M 135 (48 * k + b + t)).toInt ≤ 15
        · have ef : f_sights M (nI k) lane (nI b) = (nI T, z_row M 61 (va_cpy (M (92 + 2 * k)) (M 61) b 0 T)) := by
            unfold f_sights; rw [if_neg (not_not_intro c1), if_neg (not_not_intro c2), w1, nI_clamp (n := k) (by omega), fe, if_neg c3, nI_clamp (n := T) (by omega), nI_clamp (n := b) (by omega), if_pos (cc.mpr c4)]
          refine C_X9_sights (d := 27) w1 w3 w4 (hI.2.2.2.2.2.2.2.2.sz).2 ?_
          rw [ef]
          dsimp only
          refine hQ _ m0 m1 md _ (fun Q2 h2 => ?_)
          have f1 : ∀ c, c ≠ 61 → z_row M 61 (va_cpy (M (92 + 2 * k)) (M 61) b 0 T) c = M c := fun c hc => z_row_ne _ hc
          have a1 : z_row M 61 (va_cpy (M (92 + 2 * k)) (M 61) b 0 T) 61 = va_cpy (M (92 + 2 * k)) (M 61) b 0 T := z_row_at _ _
          generalize z_row M 61 (va_cpy (M (92 + 2 * k)) (M 61) b 0 T) = M1 at f1 a1 ⊢
          have kk : ∀ c, 99 ≤ c → M1 c = M c := fun c hc => f1 c (by omega)
          have eg : g_sights M1 (nI k) lane (nI b) = (nI T, z_row M1 113 (va_cpy (M 135) (M 113) (48 * k + b) 0 T)) := by
            have e0 : g_finds M1 k lane (nI b) (nI T) = g_finds M k lane (nI b) (nI T) := by unfold g_finds; rw [kk 133 (by omega), kk 134 (by omega)]
            unfold g_sights; rw [if_neg (not_not_intro c1), if_neg (not_not_intro c2), kk 99 (by omega), w2, nI_clamp (n := k) (by omega), e0, if_neg c3, nI_clamp (n := T) (by omega), nI_clamp (n := b) (by omega), kk 135 (by omega), kk 113 (by omega), if_pos c4]
          refine C_X10_sights (d := 27) (T := T) (by rw [kk 99 (by omega)]; exact w2) w3 w4 (by rw [kk 134 (by omega)]; exact (hI.2.2.2.2.2.2.2.2.sz).1) ?_
          rw [eg]
          dsimp only
          have v : ∀ c, (((1 ≤ c ∧ c ≤ 2) ∨ (20 ≤ c ∧ c < 64) ∨ (70 ≤ c ∧ c ≤ 86) ∨ (89 ≤ c ∧ c ≤ 98) ∨ c = 100 ∨ (104 ≤ c ∧ c ≤ 108) ∨ (113 ≤ c ∧ c ≤ 115) ∨ (121 ≤ c ∧ c ≤ 123) ∨ (125 ≤ c ∧ c ≤ 129) ∨ c = 131 ∨ (133 ≤ c ∧ c ≤ 135)) ∧ c ≠ 61 ∧ c ≠ 62 ∧ c ≠ 113 ∧ c ≠ 114) → z_row M1 113 (va_cpy (M 135) (M 113) (48 * k + b) 0 T) c = M c := fun c hc => by rw [z_row_ne _ (by omega), f1 c (by omega)]
          have v9 : ∀ j, j ≠ 100 → z_row M1 113 (va_cpy (M 135) (M 113) (48 * k + b) 0 T) 99 j = M 99 j := fun j _ => by rw [z_row_ne _ (by decide), kk 99 (by omega)]
          have v0 : ∀ j, j ≠ 100 → z_row M1 113 (va_cpy (M 135) (M 113) (48 * k + b) 0 T) 0 j = M 0 j := fun j _ => by rw [z_row_ne _ (by decide), f1 0 (by decide)]
          refine h2 _ ⟨i1.fr (fun c c1 c2 => v c (by omega)) (fun c c1 c2 => v c (by omega)), i2.fr (v 1 (by omega)) (v 2 (by omega)) (v9 1 (by decide)) (v 100 (by omega)), ?_, i4.fr (v 70 (by omega)) (v 72 (by omega)) (v 73 (by omega)) (v 74 (by omega)) (v 75 (by omega)) (v9 25 (by decide)) (v 121 (by omega)) (v 122 (by omega)) (v 123 (by omega)), i5.fr (fun c c1 c2 => v c (by omega)) (v 125 (by omega)) (v 126 (by omega)), i6.fr (fun c c1 c2 => v c (by omega)) (v9 34 (by decide)) (fun c c1 c2 => v c (by omega)), i7.fr (v0 14 (by decide)) (v0 15 (by decide)) (v9 32 (by decide)) (v9 33 (by decide)), i8.fr (v0 13 (by decide)) (v9 39 (by decide)) (v 89 (by omega)) (v 131 (by omega)), i9.fr (fun c c1 c2 => v c (by omega)) (fun c c1 c2 => v c (by omega))⟩
          refine ⟨T, fun t => if t < T then (M 135 (48 * k + b + t)).toNatClampNeg else sg t, lt, ms, by rw [v 59 (by omega)]; exact w1, by rw [v9 16 (by decide)]; exact w2, w3, w4, fun t ht => ?_⟩
          obtain ⟨q1, q2, q3, q4, q5, q6, q7, q8, q9⟩ := w5 t ht
          rw [z_row_ne _ (by decide : (61 : Nat) ≠ 113), z_row_ne _ (by decide : (62 : Nat) ≠ 113), z_row_ne _ (by decide : (63 : Nat) ≠ 113), z_row_ne _ (by decide : (114 : Nat) ≠ 113), z_row_ne _ (by decide : (115 : Nat) ≠ 113), z_row_at, a1, f1 62 (by decide), f1 63 (by decide), f1 114 (by decide), f1 115 (by decide)]
          by_cases e : t < T
          · rw [z_cpi (by omega) (by omega), z_cpi (by omega) (by omega), show b + (t - 0) = b + t by omega, show 48 * k + b + (t - 0) = 48 * k + b + t by omega, it (b + t) (by omega), show 48 * k + (b + t) = 48 * k + b + t by omega]
            simp only [if_pos e]
            obtain ⟨r1, r2⟩ := c4 t e
            obtain ⟨x, hx, hx1, hx2⟩ := z_nI (v := M 135 (48 * k + b + t)) (n := 15) r1 r2
            rw [hx1, nI_clamp (n := x) (by omega)]
            exact ⟨rfl, q2, q3, rfl, q5, q6, by omega, q8, q9⟩
          · rw [z_cpo (by omega), z_cpo (by omega)]
            simp only [if_neg e]
            exact ⟨q1, q2, q3, q4, q5, q6, q7, q8, q9⟩
        · have ef : f_sights M (nI k) lane (nI b) = (-2, M) := by
            unfold f_sights; rw [if_neg (not_not_intro c1), if_neg (not_not_intro c2), w1, nI_clamp (n := k) (by omega), fe, if_neg c3, nI_clamp (n := T) (by omega), nI_clamp (n := b) (by omega), if_neg (fun h => c4 (cc.mp h))]
          have eg : g_sights M (nI k) lane (nI b) = (-2, M) := by
            unfold g_sights; rw [if_neg (not_not_intro c1), if_neg (not_not_intro c2), w2, nI_clamp (n := k) (by omega), if_neg c3, nI_clamp (n := T) (by omega), nI_clamp (n := b) (by omega), if_neg c4]
          refine C_X9_sights (d := 27) w1 w3 w4 (hI.2.2.2.2.2.2.2.2.sz).2 ?_
          rw [ef]
          refine hQ _ m0 m1 md M (fun Q2 h2 => C_X10_sights (d := 27) w2 w3 w4 (hI.2.2.2.2.2.2.2.2.sz).1 ?_)
          rw [eg]
          exact h2 M hI
    · have ef : f_sights M s lane i = (-1, M) := by unfold f_sights; rw [if_neg (not_not_intro c1), if_pos c2]
      have eg : g_sights M s lane i = (-1, M) := by unfold g_sights; rw [if_neg (not_not_intro c1), if_pos c2]
      refine C_X9_sights (d := 27) w1 w3 w4 (hI.2.2.2.2.2.2.2.2.sz).2 ?_
      rw [ef]
      refine hQ _ m0 m1 md M (fun Q2 h2 => C_X10_sights (d := 27) w2 w3 w4 (hI.2.2.2.2.2.2.2.2.sz).1 ?_)
      rw [eg]
      exact h2 M hI
  · have ef : f_sights M s lane i = (-1, M) := by unfold f_sights; rw [if_pos c1]
    have eg : g_sights M s lane i = (-1, M) := by unfold g_sights; rw [if_pos c1]
    refine C_X9_sights (d := 27) w1 w3 w4 (hI.2.2.2.2.2.2.2.2.sz).2 ?_
    rw [ef]
    refine hQ _ m0 m1 md M (fun Q2 h2 => C_X10_sights (d := 27) w2 w3 w4 (hI.2.2.2.2.2.2.2.2.sz).1 ?_)
    rw [eg]
    exact h2 M hI
theorem P_lots (hI : Inv m0 m1 md M) {s i : Int32} (hQ : ∀ x a' b' c' M1, z_R l g yX10_lots cX10_lots 6 [.ref 99, .int s, .int i] x a' b' c' M1 → Q x (ZS a' b' c') M1) : AMet l g yX9_lots cX9_lots 7 (some .int) 29 0 0 [.ref 0, .int s, .int i] (ZS m0 m1 md) M (z_Qi Q) := by
  obtain ⟨i1, i2, ⟨T, sg, lt, ms, w1, w2, w3, w4, w5⟩, i4, i5, i6, i7, i8, i9⟩ := id hI
  have tT : (nI T).toInt = (T : Int) := z_ti (by omega)
  by_cases c1 : 0 ≤ s.toInt ∧ s.toInt ≤ 3
  · obtain ⟨k, hk, rfl, hk2⟩ := z_nI (v := s) (n := 3) c1.1 c1.2
    have hs := i9 k (by omega)
    have fe := z_find hs (lane := nI 0) (i := i) (n := nI T) (by omega) (by decide)
    by_cases c3 : (g_finds M k (nI 0) i (nI T)).toInt < 0
    · have ef : f_lots M (nI k) i = (g_finds M k (nI 0) i (nI T), M) := by
        unfold f_lots; rw [if_neg (not_not_intro c1), w1, nI_clamp (n := k) (by omega), fe, if_pos c3]
      have eg : g_lots M (nI k) i = (g_finds M k (nI 0) i (nI T), M) := by
        unfold g_lots; rw [if_neg (not_not_intro c1), w2, nI_clamp (n := k) (by omega), if_pos c3]
      refine C_X9_lots (d := 27) w1 w3 w4 (hI.2.2.2.2.2.2.2.2.sz).2 ?_
      rw [ef]
      refine hQ _ m0 m1 md M (fun Q2 h2 => C_X10_lots (d := 27) w2 w3 w4 (hI.2.2.2.2.2.2.2.2.sz).1 ?_)
      rw [eg]
      exact h2 M hI
    · obtain ⟨vv, z, hv, hz, y1, y2, y3, y4, y5, y6⟩ := z_found hs c3
      rw [tT] at y5
      have ev : vv = 0 := by
        have : (nI 0).toInt = (0 : Int) := by decide
        omega
      subst ev
      obtain ⟨b, hb, rfl, hb2⟩ := z_nI (v := i) (n := 48) y4 (by omega)
      have it := hs.2.2.1
      have b01 := hs.2.2.2 y1
      have ef : f_lots M (nI k) (nI b) = (z_sum (fun t => M 135 (48 * k + b + t)) T, z_row M 62 (va_cpy (M (92 + 2 * k)) (M 62) b 0 T)) := by
        unfold f_lots; rw [if_neg (not_not_intro c1), w1, nI_clamp (n := k) (by omega), fe, if_neg c3, nI_clamp (n := T) (by omega), nI_clamp (n := b) (by omega), z_sum_congr (f := fun t => M (92 + 2 * k) (b + t)) (f' := fun t => M 135 (48 * k + b + t)) T (fun t ht => by show M (92 + 2 * k) (b + t) = M 135 (48 * k + b + t); rw [it (b + t) (by omega), show 48 * k + (b + t) = 48 * k + b + t by omega])]
      refine C_X9_lots (d := 27) w1 w3 w4 (hI.2.2.2.2.2.2.2.2.sz).2 ?_
      rw [ef]
      dsimp only
      refine hQ _ m0 m1 md _ (fun Q2 h2 => ?_)
      have f1 : ∀ c, c ≠ 62 → z_row M 62 (va_cpy (M (92 + 2 * k)) (M 62) b 0 T) c = M c := fun c hc => z_row_ne _ hc
      have a1 : z_row M 62 (va_cpy (M (92 + 2 * k)) (M 62) b 0 T) 62 = va_cpy (M (92 + 2 * k)) (M 62) b 0 T := z_row_at _ _
      generalize z_row M 62 (va_cpy (M (92 + 2 * k)) (M 62) b 0 T) = M1 at f1 a1 ⊢
      have kk : ∀ c, 99 ≤ c → M1 c = M c := fun c hc => f1 c (by omega)
      have eg : g_lots M1 (nI k) (nI b) = (z_sum (fun t => M 135 (48 * k + b + t)) T, z_row M1 114 (va_cpy (M 135) (M 114) (48 * k + b) 0 T)) := by
        have e0 : g_finds M1 k (nI 0) (nI b) (nI T) = g_finds M k (nI 0) (nI b) (nI T) := by unfold g_finds; rw [kk 133 (by omega), kk 134 (by omega)]
        unfold g_lots; rw [if_neg (not_not_intro c1), kk 99 (by omega), w2, nI_clamp (n := k) (by omega), e0, if_neg c3, nI_clamp (n := T) (by omega), nI_clamp (n := b) (by omega), kk 135 (by omega), kk 114 (by omega)]
      refine C_X10_lots (d := 27) (T := T) (by rw [kk 99 (by omega)]; exact w2) w3 w4 (by rw [kk 134 (by omega)]; exact (hI.2.2.2.2.2.2.2.2.sz).1) ?_
      rw [eg]
      dsimp only
      have v : ∀ c, (((1 ≤ c ∧ c ≤ 2) ∨ (20 ≤ c ∧ c < 64) ∨ (70 ≤ c ∧ c ≤ 86) ∨ (89 ≤ c ∧ c ≤ 98) ∨ c = 100 ∨ (104 ≤ c ∧ c ≤ 108) ∨ (113 ≤ c ∧ c ≤ 115) ∨ (121 ≤ c ∧ c ≤ 123) ∨ (125 ≤ c ∧ c ≤ 129) ∨ c = 131 ∨ (133 ≤ c ∧ c ≤ 135)) ∧ c ≠ 61 ∧ c ≠ 62 ∧ c ≠ 113 ∧ c ≠ 114) → z_row M1 114 (va_cpy (M 135) (M 114) (48 * k + b) 0 T) c = M c := fun c hc => by rw [z_row_ne _ (by omega), f1 c (by omega)]
      have v9 : ∀ j, j ≠ 100 → z_row M1 114 (va_cpy (M 135) (M 114) (48 * k + b) 0 T) 99 j = M 99 j := fun j _ => by rw [z_row_ne _ (by decide), kk 99 (by omega)]
      have v0 : ∀ j, j ≠ 100 → z_row M1 114 (va_cpy (M 135) (M 114) (48 * k + b) 0 T) 0 j = M 0 j := fun j _ => by rw [z_row_ne _ (by decide), f1 0 (by decide)]
      refine h2 _ ⟨i1.fr (fun c c1 c2 => v c (by omega)) (fun c c1 c2 => v c (by omega)), i2.fr (v 1 (by omega)) (v 2 (by omega)) (v9 1 (by decide)) (v 100 (by omega)), ?_, i4.fr (v 70 (by omega)) (v 72 (by omega)) (v 73 (by omega)) (v 74 (by omega)) (v 75 (by omega)) (v9 25 (by decide)) (v 121 (by omega)) (v 122 (by omega)) (v 123 (by omega)), i5.fr (fun c c1 c2 => v c (by omega)) (v 125 (by omega)) (v 126 (by omega)), i6.fr (fun c c1 c2 => v c (by omega)) (v9 34 (by decide)) (fun c c1 c2 => v c (by omega)), i7.fr (v0 14 (by decide)) (v0 15 (by decide)) (v9 32 (by decide)) (v9 33 (by decide)), i8.fr (v0 13 (by decide)) (v9 39 (by decide)) (v 89 (by omega)) (v 131 (by omega)), i9.fr (fun c c1 c2 => v c (by omega)) (fun c c1 c2 => v c (by omega))⟩
      refine ⟨T, sg, fun t => if t < T then (M 135 (48 * k + b + t)).toNatClampNeg else lt t, ms, by rw [v 59 (by omega)]; exact w1, by rw [v9 16 (by decide)]; exact w2, w3, w4, fun t ht => ?_⟩
      obtain ⟨q1, q2, q3, q4, q5, q6, q7, q8, q9⟩ := w5 t ht
      rw [z_row_ne _ (by decide : (61 : Nat) ≠ 114), z_row_ne _ (by decide : (62 : Nat) ≠ 114), z_row_ne _ (by decide : (63 : Nat) ≠ 114), z_row_ne _ (by decide : (113 : Nat) ≠ 114), z_row_ne _ (by decide : (115 : Nat) ≠ 114), z_row_at, a1, f1 61 (by decide), f1 63 (by decide), f1 113 (by decide), f1 115 (by decide)]
      by_cases e : t < T
      · rw [z_cpi (by omega) (by omega), z_cpi (by omega) (by omega), show b + (t - 0) = b + t by omega, show 48 * k + b + (t - 0) = 48 * k + b + t by omega, it (b + t) (by omega), show 48 * k + (b + t) = 48 * k + b + t by omega]
        simp only [if_pos e]
        have r1 := b01 (b + t) (by omega)
        rw [show 48 * k + (b + t) = 48 * k + b + t by omega] at r1
        rcases r1 with r1 | r1
        · rw [r1]; exact ⟨q1, by decide, q3, q4, by decide, q6, q7, by decide, q9⟩
        · rw [r1]; exact ⟨q1, by decide, q3, q4, by decide, q6, q7, by decide, q9⟩
      · rw [z_cpo (by omega), z_cpo (by omega)]
        simp only [if_neg e]
        exact ⟨q1, q2, q3, q4, q5, q6, q7, q8, q9⟩
  · have ef : f_lots M s i = (-1, M) := by unfold f_lots; rw [if_pos c1]
    have eg : g_lots M s i = (-1, M) := by unfold g_lots; rw [if_pos c1]
    refine C_X9_lots (d := 27) w1 w3 w4 (hI.2.2.2.2.2.2.2.2.sz).2 ?_
    rw [ef]
    refine hQ _ m0 m1 md M (fun Q2 h2 => C_X10_lots (d := 27) w2 w3 w4 (hI.2.2.2.2.2.2.2.2.sz).1 ?_)
    rw [eg]
    exact h2 M hI
end PAIR6
