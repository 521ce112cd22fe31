theorem z_cpo {f h : Nat → Int32} {a b n j : Nat} (hj : ¬ (b ≤ j ∧ j < b + n)) : va_cpy f h a b n j = h j := by
  unfold va_cpy
  rw [if_neg (by omega)]
theorem z_cpi {f h : Nat → Int32} {a b n j : Nat} (h1 : b ≤ j) (h2 : j < b + n) : va_cpy f h a b n j = f (a + (j - b)) := by
  rw [pk_cpy_in h1 h2]
theorem z_sum_congr {f f' : Nat → Int32} : ∀ n, (∀ i, i < n → f i = f' i) → z_sum f n = z_sum f' n
  | 0, _ => rfl
  | n + 1, h => by
    unfold z_sum
    rw [z_sum_congr n (fun i hi => h i (by omega)), h n (by omega)]
/-- the two findings agree -/
theorem z_find {M : zM} {k : Nat} (hs : I_s1 M k) {lane i n : Int32} (hn : 0 ≤ n.toInt) (hl : 0 ≤ lane.toInt) : f_find M (91 + 2 * k) lane i n = g_finds M k lane i n := by
  obtain ⟨h1, ⟨z, hz, z1, z2⟩, -, -⟩ := hs
  unfold f_find g_finds
  rw [z1, z2]
  rcases h1 with ⟨e1, e2⟩ | ⟨v, hv, e1, e2⟩
  · rw [e1, e2, if_pos (by decide), if_pos (by decide)]
  · rw [e1, e2]
    have tv : (nI v).toInt = (v : Int) := z_ti (by omega)
    rw [tv, if_neg (show ¬ (v : Int) = -4 by omega), if_neg (show ¬ (v : Int) < 0 by omega)]
    by_cases c : (v : Int) = lane.toInt
    · rw [if_neg (not_not_intro c), if_neg (not_not_intro c)]
      by_cases c2 : i.toInt < 0 ∨ (nI z).toInt < i.toInt + n.toInt
      · rw [if_pos c2, if_pos (by omega)]
      · rw [if_neg c2, if_neg (by omega)]
    · rw [if_pos c, if_pos c]
/-- found: the lane, and enough items -/
theorem z_found {M : zM} {k : Nat} (hs : I_s1 M k) {lane i n : Int32} (h : ¬ (g_finds M k lane i n).toInt < 0) : ∃ v z : Nat, v < 3 ∧ z ≤ 48 ∧ M 133 k = nI v ∧ lane.toInt = (v : Int) ∧ M (91 + 2 * k) 1 = nI v ∧ 0 ≤ i.toInt ∧ i.toInt + n.toInt ≤ (z : Int) ∧ M 134 k = nI z := by
  obtain ⟨h1, ⟨z, hz, z1, z2⟩, -, -⟩ := hs
  unfold g_finds at h
  rw [z2] at h
  rcases h1 with ⟨e1, e2⟩ | ⟨v, hv, e1, e2⟩
  · rw [e2, if_pos (by decide)] at h; exact absurd (by decide) h
  · rw [e2] at h
    have tv : (nI v).toInt = (v : Int) := z_ti (by omega)
    have tz : (nI z).toInt = (z : Int) := z_ti (by omega)
    rw [tv, tz, if_neg (by omega)] at h
    by_cases c : (v : Int) = lane.toInt
    · rw [if_neg (not_not_intro c)] at h
      by_cases c2 : i.toInt < 0 ∨ (z : Int) < i.toInt + n.toInt
      · rw [if_pos c2] at h; exact absurd (by decide) h
      · exact ⟨v, z, hv, hz, e2, c.symm, e1, by omega, by omega, z2⟩
    · rw [if_pos c] at h; exact absurd (by decide) h
theorem I_s.sz {M : zM} (h : I_s M) : (∀ k, k < 4 → (M 134 k).toInt ≤ 48) ∧ (∀ k, k < 4 → 0 ≤ (M (91 + 2 * k) 2).toInt ∧ (M (91 + 2 * k) 2).toInt ≤ 48) := by
  constructor
  · intro k hk
    obtain ⟨-, ⟨z, hz, z1, z2⟩, -⟩ := h k hk
    rw [z2, z_ti (by omega)]; omega
  · intro k hk
    obtain ⟨-, ⟨z, hz, z1, z2⟩, -⟩ := h k hk
    rw [z1, z_ti (by omega)]; omega
section PAIR5
variable {l : Launch} {g : zG} {m0 m1 md : Nat} {M : zM} {Q : Int32 → zS → zM → Prop}
theorem P_ticks (hI : Inv m0 m1 md M) {n : Int32} (hQ : ∀ x a' b' c' M1, z_R l g yX10_ticks cX10_ticks 3 [.ref 99, .int n] x a' b' c' M1 → Q x (ZS a' b' c') M1) : AMet l g yX9_ticks cX9_ticks 3 (some .int) 29 0 0 [.ref 0, .int n] (ZS m0 m1 md) M (z_Qi Q) := by
  obtain ⟨i1, i2, ⟨T, sg, lt, ms, w1, w2, w3, w4, w5⟩, i4, i5, i6, i7, i8, i9⟩ := id hI
  by_cases hc : 1 ≤ n.toInt ∧ n.toInt ≤ 12
  · have ef : f_ticks M n = (nI T, z_st (z_row (z_row (z_row M 61 (z_rng (M 61) T n.toNatClampNeg (nI 0))) 62 (z_rng (M 62) T n.toNatClampNeg (nI 0))) 63 (z_rng (M 63) T n.toNatClampNeg (nI 15))) 59 1 n) := by
      unfold f_ticks; rw [if_neg (not_not_intro hc), w1, nI_clamp (n := T) (by omega)]
    obtain ⟨k, hk, rfl, hk2⟩ := z_nI (v := n) (n := 12) (by omega) hc.2
    rw [nI_clamp (n := k) (by omega)] at ef
    refine C_X9_ticks (d := 28) w1 w3 w4 ?_
    rw [ef]
    refine hQ _ m0 m1 md _ (fun Q2 h2 => ?_)
    have f1 : ∀ c, c ≠ 59 → c ≠ 61 → c ≠ 62 → c ≠ 63 → z_st (z_row (z_row (z_row M 61 (z_rng (M 61) T k (nI 0))) 62 (z_rng (M 62) T k (nI 0))) 63 (z_rng (M 63) T k (nI 15))) 59 1 (nI k) c = M c := fun c c1 c2 c3 c4 => by rw [z_st_ne c1, z_row_ne _ c4, z_row_ne _ c3, z_row_ne _ c2]
    have a1 : z_st (z_row (z_row (z_row M 61 (z_rng (M 61) T k (nI 0))) 62 (z_rng (M 62) T k (nI 0))) 63 (z_rng (M 63) T k (nI 15))) 59 1 (nI k) 59 1 = nI k := z_st_v _ _ _ _
    have a2 : z_st (z_row (z_row (z_row M 61 (z_rng (M 61) T k (nI 0))) 62 (z_rng (M 62) T k (nI 0))) 63 (z_rng (M 63) T k (nI 15))) 59 1 (nI k) 61 = z_rng (M 61) T k (nI 0) := by rw [z_st_ne (by decide), z_row_ne _ (by decide), z_row_ne _ (by decide), z_row_at]
    have a3 : z_st (z_row (z_row (z_row M 61 (z_rng (M 61) T k (nI 0))) 62 (z_rng (M 62) T k (nI 0))) 63 (z_rng (M 63) T k (nI 15))) 59 1 (nI k) 62 = z_rng (M 62) T k (nI 0) := by rw [z_st_ne (by decide), z_row_ne _ (by decide), z_row_at]
    have a4 : z_st (z_row (z_row (z_row M 61 (z_rng (M 61) T k (nI 0))) 62 (z_rng (M 62) T k (nI 0))) 63 (z_rng (M 63) T k (nI 15))) 59 1 (nI k) 63 = z_rng (M 63) T k (nI 15) := by rw [z_st_ne (by decide), z_row_at]
    generalize z_st (z_row (z_row (z_row M 61 (z_rng (M 61) T k (nI 0))) 62 (z_rng (M 62) T k (nI 0))) 63 (z_rng (M 63) T k (nI 15))) 59 1 (nI k) = M1 at f1 a1 a2 a3 a4 ⊢
    have kk : ∀ c, 99 ≤ c → M1 c = M c := fun c hc => f1 c (by omega) (by omega) (by omega) (by omega)
    have w2' : M1 99 16 = nI T := by rw [kk 99 (by omega)]; exact w2
    have eg : g_ticks M1 (nI k) = (nI T, z_st (z_row (z_row (z_row M1 113 (z_rng (M1 113) T k (nI 0))) 114 (z_rng (M1 114) T k (nI 0))) 115 (z_rng (M1 115) T k (nI 15))) 99 16 (nI k)) := by
      unfold g_ticks; rw [if_neg (not_not_intro hc), w2', nI_clamp (n := T) (by omega), nI_clamp (n := k) (by omega)]
    refine C_X10_ticks (d := 28) w2' w3 w4 ?_
    rw [eg]
    have g1 : ∀ c, c ≠ 99 → c ≠ 113 → c ≠ 114 → c ≠ 115 → z_st (z_row (z_row (z_row M1 113 (z_rng (M1 113) T k (nI 0))) 114 (z_rng (M1 114) T k (nI 0))) 115 (z_rng (M1 115) T k (nI 15))) 99 16 (nI k) c = M1 c := fun c c1 c2 c3 c4 => by rw [z_st_ne c1, z_row_ne _ c4, z_row_ne _ c3, z_row_ne _ c2]
    have g9 : ∀ j, j ≠ 16 → z_st (z_row (z_row (z_row M1 113 (z_rng (M1 113) T k (nI 0))) 114 (z_rng (M1 114) T k (nI 0))) 115 (z_rng (M1 115) T k (nI 15))) 99 16 (nI k) 99 j = M1 99 j := fun j hj => by rw [z_st_o hj, z_row_ne _ (by decide), z_row_ne _ (by decide), z_row_ne _ (by decide)]
    have b1 : z_st (z_row (z_row (z_row M1 113 (z_rng (M1 113) T k (nI 0))) 114 (z_rng (M1 114) T k (nI 0))) 115 (z_rng (M1 115) T k (nI 15))) 99 16 (nI k) 99 16 = nI k := z_st_v _ _ _ _
    have b2 : z_st (z_row (z_row (z_row M1 113 (z_rng (M1 113) T k (nI 0))) 114 (z_rng (M1 114) T k (nI 0))) 115 (z_rng (M1 115) T k (nI 15))) 99 16 (nI k) 113 = z_rng (M1 113) T k (nI 0) := by rw [z_st_ne (by decide), z_row_ne _ (by decide), z_row_ne _ (by decide), z_row_at]
    have b3 : z_st (z_row (z_row (z_row M1 113 (z_rng (M1 113) T k (nI 0))) 114 (z_rng (M1 114) T k (nI 0))) 115 (z_rng (M1 115) T k (nI 15))) 99 16 (nI k) 114 = z_rng (M1 114) T k (nI 0) := by rw [z_st_ne (by decide), z_row_ne _ (by decide), z_row_at]
    have b4 : z_st (z_row (z_row (z_row M1 113 (z_rng (M1 113) T k (nI 0))) 114 (z_rng (M1 114) T k (nI 0))) 115 (z_rng (M1 115) T k (nI 15))) 99 16 (nI k) 115 = z_rng (M1 115) T k (nI 15) := by rw [z_st_ne (by decide), z_row_at]
    show Q2 (nI T) _ (z_st (z_row (z_row (z_row M1 113 (z_rng (M1 113) T k (nI 0))) 114 (z_rng (M1 114) T k (nI 0))) 115 (z_rng (M1 115) T k (nI 15))) 99 16 (nI k))
    generalize z_st (z_row (z_row (z_row M1 113 (z_rng (M1 113) T k (nI 0))) 114 (z_rng (M1 114) T k (nI 0))) 115 (z_rng (M1 115) T k (nI 15))) 99 16 (nI k) = M2 at g1 g9 b1 b2 b3 b4 ⊢
    have v : ∀ c, (((1 ≤ c ∧ c ≤ 2) ∨ (20 ≤ c ∧ c < 64) ∨ (70 ≤ c ∧ c ≤ 86) ∨ (89 ≤ c ∧ c ≤ 98) ∨ c = 100 ∨ (104 ≤ c ∧ c ≤ 108) ∨ (113 ≤ c ∧ c ≤ 115) ∨ (121 ≤ c ∧ c ≤ 123) ∨ (125 ≤ c ∧ c ≤ 129) ∨ c = 131 ∨ (133 ≤ c ∧ c ≤ 135)) ∧ c ≠ 59 ∧ c ≠ 61 ∧ c ≠ 62 ∧ c ≠ 63 ∧ ¬ (113 ≤ c ∧ c ≤ 115)) → M2 c = M c := fun c hc => by rw [g1 c (by omega) (by omega) (by omega) (by omega), f1 c (by omega) (by omega) (by omega) (by omega)]
    have v9 : ∀ j, j ≠ 16 → M2 99 j = M 99 j := fun j hj => by rw [g9 j hj, kk 99 (by omega)]
    have v0 : ∀ j, j ≠ 100 → M2 0 j = M 0 j := fun j _ => by rw [g1 0 (by decide) (by decide) (by decide) (by decide), f1 0 (by decide) (by decide) (by decide) (by decide)]
    have lo : ∀ c, c < 99 → M2 c = M1 c := fun c hc => g1 c (by omega) (by omega) (by omega) (by omega)
    refine h2 M2 ⟨i1.fr (fun c c1 c2 => v c (by omega)) (fun c c1 c2 => v c (by omega)), i2.fr (v 1 (by omega)) (v 2 (by omega)) (v9 1 (by decide)) (v 100 (by omega)), ?_, i4.fr (v 70 (by omega)) (v 72 (by omega)) (v 73 (by omega)) (v 74 (by omega)) (v 75 (by omega)) (v9 25 (by decide)) (v 121 (by omega)) (v 122 (by omega)) (v 123 (by omega)), i5.fr (fun c c1 c2 => v c (by omega)) (v 125 (by omega)) (v 126 (by omega)), i6.fr (fun c c1 c2 => v c (by omega)) (v9 34 (by decide)) (fun c c1 c2 => v c (by omega)), i7.fr (v0 14 (by decide)) (v0 15 (by decide)) (v9 32 (by decide)) (v9 33 (by decide)), i8.fr (v0 13 (by decide)) (v9 39 (by decide)) (v 89 (by omega)) (v 131 (by omega)), i9.fr (fun c c1 c2 => v c (by omega)) (fun c c1 c2 => v c (by omega))⟩
    refine ⟨k, fun t => if T ≤ t ∧ t < k then 0 else sg t, fun t => if T ≤ t ∧ t < k then 0 else lt t, fun t => if T ≤ t ∧ t < k then 15 else ms t, by rw [lo 59 (by decide)]; exact a1, b1, by omega, by omega, fun t ht => ?_⟩
    obtain ⟨q1, q2, q3, q4, q5, q6, q7, q8, q9⟩ := w5 t ht
    rw [lo 61 (by decide), lo 62 (by decide), lo 63 (by decide), a2, a3, a4, b2, b3, b4, kk 113 (by omega), kk 114 (by omega), kk 115 (by omega)]
    unfold z_rng
    by_cases c : T ≤ t ∧ t < k
    · simp only [if_pos c]; exact ⟨trivial, trivial, trivial, trivial, trivial, trivial, by decide, by decide, by decide⟩
    · simp only [if_neg c]; exact ⟨q1, q2, q3, q4, q5, q6, q7, q8, q9⟩
  · have ef : f_ticks M n = (-1, M) := by unfold f_ticks; rw [if_pos hc]
    have eg : g_ticks M n = (-1, M) := by unfold g_ticks; rw [if_pos hc]
    refine C_X9_ticks (d := 28) w1 w3 w4 ?_
    rw [ef]
    refine hQ _ m0 m1 md M (fun Q2 h2 => C_X10_ticks (d := 28) w2 w3 w4 ?_)
    rw [eg]
    exact h2 M hI
theorem P_world (hI : Inv m0 m1 md M) {t w v : Int32} (hQ : ∀ x a' b' c' M1, z_R l g yX10_world cX10_world 5 [.ref 99, .int t, .int w, .int v] x a' b' c' M1 → Q x (ZS a' b' c') M1) : AMet l g yX9_world cX9_world 5 (some .int) 29 0 0 [.ref 0, .int t, .int w, .int v] (ZS m0 m1 md) M (z_Qi Q) := by
  obtain ⟨i1, i2, ⟨T, sg, lt, ms, w1, w2, w3, w4, w5⟩, i4, i5, i6, i7, i8, i9⟩ := id hI
  have tT : (nI T).toInt = (T : Int) := z_ti (by omega)
  by_cases hc : (0 ≤ t.toInt ∧ t.toInt ≤ (T : Int) - 1) ∧ (0 ≤ w.toInt ∧ w.toInt ≤ 2) ∧ (0 ≤ v.toInt ∧ v.toInt ≤ (if w.toInt = 1 then 1 else 15))
  · obtain ⟨c1, c2, c3⟩ := hc
    have ef : f_world M t w v = (M (61 + w.toNatClampNeg) t.toNatClampNeg, z_st M (61 + w.toNatClampNeg) t.toNatClampNeg v) := by
      unfold f_world; rw [w1, tT, if_neg (not_not_intro c1), if_neg (not_not_intro c2), if_neg (not_not_intro c3)]
    have eg : ∀ M1 : zM, M1 99 16 = nI T → g_world M1 t w v = (M1 (113 + w.toNatClampNeg) t.toNatClampNeg, z_st M1 (113 + w.toNatClampNeg) t.toNatClampNeg v) := fun M1 e => by
      unfold g_world; rw [e, tT, if_neg (not_not_intro c1), if_neg (not_not_intro c2), if_neg (not_not_intro c3)]
    obtain ⟨tn, htn, rfl, ht2⟩ := z_nI (v := t) (n := 11) c1.1 (by omega)
    obtain ⟨wn, hwn, rfl, hw2⟩ := z_nI (v := w) (n := 2) c2.1 c2.2
    obtain ⟨vn, hvn, rfl, hv2⟩ := z_nI (v := v) (n := 15) c3.1 (by split at c3 <;> omega)
    rw [nI_clamp (n := tn) (by omega), nI_clamp (n := wn) (by omega)] at ef eg
    have w2' : z_st M (61 + wn) tn (nI vn) 99 16 = nI T := by rw [z_st_ne (by omega)]; exact w2
    refine C_X9_world (d := 27) w1 w3 w4 ?_
    rw [ef]
    refine hQ _ m0 m1 md _ (fun Q2 h2 => C_X10_world (d := 27) w2' w3 w4 ?_)
    rw [eg _ w2']
    have q := w5 tn (by omega)
    have e1 : z_st M (61 + wn) tn (nI vn) (113 + wn) tn = M (61 + wn) tn := by
      rw [z_st_ne (by omega)]
      rcases (show wn = 0 ∨ wn = 1 ∨ wn = 2 by omega) with rfl | rfl | rfl
      · exact q.2.2.2.1.trans q.1.symm
      · exact q.2.2.2.2.1.trans q.2.1.symm
      · exact q.2.2.2.2.2.1.trans q.2.2.1.symm
    show Q2 (z_st M (61 + wn) tn (nI vn) (113 + wn) tn) _ (z_st (z_st M (61 + wn) tn (nI vn)) (113 + wn) tn (nI vn))
    rw [e1]
    have v : ∀ c, (((1 ≤ c ∧ c ≤ 2) ∨ (20 ≤ c ∧ c < 64) ∨ (70 ≤ c ∧ c ≤ 86) ∨ (89 ≤ c ∧ c ≤ 98) ∨ c = 100 ∨ (104 ≤ c ∧ c ≤ 108) ∨ (113 ≤ c ∧ c ≤ 115) ∨ (121 ≤ c ∧ c ≤ 123) ∨ (125 ≤ c ∧ c ≤ 129) ∨ c = 131 ∨ (133 ≤ c ∧ c ≤ 135)) ∧ c ≠ 59 ∧ c ≠ 61 ∧ c ≠ 62 ∧ c ≠ 63 ∧ ¬ (113 ≤ c ∧ c ≤ 115)) → z_st (z_st M (61 + wn) tn (nI vn)) (113 + wn) tn (nI vn) c = M c := fun c hc => by rw [z_st_ne (by omega), z_st_ne (by omega)]
    have v9 : ∀ j, j ≠ 100 → z_st (z_st M (61 + wn) tn (nI vn)) (113 + wn) tn (nI vn) 99 j = M 99 j := fun j _ => by rw [z_st_ne (by omega), z_st_ne (by omega)]
    have v0 : ∀ j, j ≠ 100 → z_st (z_st M (61 + wn) tn (nI vn)) (113 + wn) tn (nI vn) 0 j = M 0 j := fun j _ => by rw [z_st_ne (by omega), z_st_ne (by omega)]
    refine h2 _ ⟨i1.fr (fun c c1 c2 => v c (by omega)) (fun c c1 c2 => v c (by omega)), i2.fr (v 1 (by omega)) (v 2 (by omega)) (v9 1 (by decide)) (v 100 (by omega)), ?_, i4.fr (v 70 (by omega)) (v 72 (by omega)) (v 73 (by omega)) (v 74 (by omega)) (v 75 (by omega)) (v9 25 (by decide)) (v 121 (by omega)) (v 122 (by omega)) (v 123 (by omega)), i5.fr (fun c c1 c2 => v c (by omega)) (v 125 (by omega)) (v 126 (by omega)), i6.fr (fun c c1 c2 => v c (by omega)) (v9 34 (by decide)) (fun c c1 c2 => v c (by omega)), i7.fr (v0 14 (by decide)) (v0 15 (by decide)) (v9 32 (by decide)) (v9 33 (by decide)), i8.fr (v0 13 (by decide)) (v9 39 (by decide)) (v 89 (by omega)) (v 131 (by omega)), i9.fr (fun c c1 c2 => v c (by omega)) (fun c c1 c2 => v c (by omega))⟩
    refine ⟨T, fun i => if wn = 0 ∧ i = tn then vn else sg i, fun i => if wn = 1 ∧ i = tn then vn else lt i, fun i => if wn = 2 ∧ i = tn then vn else ms i, by rw [z_st_ne (by omega), z_st_ne (by omega)]; exact w1, by rw [z_st_ne (by omega), z_st_ne (by omega)]; exact w2, w3, w4, fun i hi => ?_⟩
    obtain ⟨q1, q2, q3, q4, q5, q6, q7, q8, q9⟩ := w5 i hi
    rcases (show wn = 0 ∨ wn = 1 ∨ wn = 2 by omega) with rfl | rfl | rfl
    · rw [z_st_ne (by decide : (61 : Nat) ≠ 113 + 0), z_st_ne (by decide : (62 : Nat) ≠ 113 + 0), z_st_ne (by decide : (63 : Nat) ≠ 113 + 0), z_st_ne (by decide : (114 : Nat) ≠ 113 + 0), z_st_ne (by decide : (115 : Nat) ≠ 113 + 0), z_st_ne (by decide : (62 : Nat) ≠ 61 + 0), z_st_ne (by decide : (63 : Nat) ≠ 61 + 0), z_st_ne (by decide : (114 : Nat) ≠ 61 + 0), z_st_ne (by decide : (115 : Nat) ≠ 61 + 0)]
      have y1 : z_st M (61 + 0) tn (nI vn) 61 = upd (M 61) tn (nI vn) := z_st_at _ _ _ _
      have y2 : z_st (z_st M (61 + 0) tn (nI vn)) (113 + 0) tn (nI vn) 113 = upd (M 113) tn (nI vn) := z_st_at _ _ _ _
      rw [y1, y2]
      by_cases e : i = tn
      · subst e
        simp only [z_upd_at, and_self, if_true, show ¬ ((0 : Nat) = 1 ∧ i = i) from by omega, show ¬ ((0 : Nat) = 2 ∧ i = i) from by omega, if_false]
        exact ⟨trivial, q2, q3, trivial, q5, q6, by omega, q8, q9⟩
      · simp only [z_upd_ne e, e, and_false, if_false]
        exact ⟨q1, q2, q3, q4, q5, q6, q7, q8, q9⟩
    · rw [z_st_ne (by decide : (61 : Nat) ≠ 113 + 1), z_st_ne (by decide : (62 : Nat) ≠ 113 + 1), z_st_ne (by decide : (63 : Nat) ≠ 113 + 1), z_st_ne (by decide : (113 : Nat) ≠ 113 + 1), z_st_ne (by decide : (115 : Nat) ≠ 113 + 1), z_st_ne (by decide : (61 : Nat) ≠ 61 + 1), z_st_ne (by decide : (63 : Nat) ≠ 61 + 1), z_st_ne (by decide : (113 : Nat) ≠ 61 + 1), z_st_ne (by decide : (115 : Nat) ≠ 61 + 1)]
      have y1 : z_st M (61 + 1) tn (nI vn) 62 = upd (M 62) tn (nI vn) := z_st_at _ _ _ _
      have y2 : z_st (z_st M (61 + 1) tn (nI vn)) (113 + 1) tn (nI vn) 114 = upd (M 114) tn (nI vn) := z_st_at _ _ _ _
      rw [y1, y2]
      rw [if_pos (by decide)] at c3
      by_cases e : i = tn
      · subst e
        simp only [z_upd_at, and_self, if_true, show ¬ ((1 : Nat) = 0 ∧ i = i) from by omega, show ¬ ((1 : Nat) = 2 ∧ i = i) from by omega, if_false]
        exact ⟨q1, trivial, q3, q4, trivial, q6, q7, by omega, q9⟩
      · simp only [z_upd_ne e, e, and_false, if_false]
        exact ⟨q1, q2, q3, q4, q5, q6, q7, q8, q9⟩
    · rw [z_st_ne (by decide : (61 : Nat) ≠ 113 + 2), z_st_ne (by decide : (62 : Nat) ≠ 113 + 2), z_st_ne (by decide : (63 : Nat) ≠ 113 + 2), z_st_ne (by decide : (113 : Nat) ≠ 113 + 2), z_st_ne (by decide : (114 : Nat) ≠ 113 + 2), z_st_ne (by decide : (61 : Nat) ≠ 61 + 2), z_st_ne (by decide : (62 : Nat) ≠ 61 + 2), z_st_ne (by decide : (113 : Nat) ≠ 61 + 2), z_st_ne (by decide : (114 : Nat) ≠ 61 + 2)]
      have y1 : z_st M (61 + 2) tn (nI vn) 63 = upd (M 63) tn (nI vn) := z_st_at _ _ _ _
      have y2 : z_st (z_st M (61 + 2) tn (nI vn)) (113 + 2) tn (nI vn) 115 = upd (M 115) tn (nI vn) := z_st_at _ _ _ _
      rw [y1, y2]
      by_cases e : i = tn
      · subst e
        simp only [z_upd_at, and_self, if_true, show ¬ ((2 : Nat) = 0 ∧ i = i) from by omega, show ¬ ((2 : Nat) = 1 ∧ i = i) from by omega, if_false]
        exact ⟨q1, q2, trivial, q4, q5, trivial, q7, q8, by omega⟩
      · simp only [z_upd_ne e, e, and_false, if_false]
        exact ⟨q1, q2, q3, q4, q5, q6, q7, q8, q9⟩
  · have ef : f_world M t w v = (-1, M) := by
      unfold f_world
      rw [w1, tT]
      by_cases c1 : 0 ≤ t.toInt ∧ t.toInt ≤ (T : Int) - 1
      · by_cases c2 : 0 ≤ w.toInt ∧ w.toInt ≤ 2
        · rw [if_neg (not_not_intro c1), if_neg (not_not_intro c2), if_pos (fun c3 => hc ⟨c1, c2, c3⟩)]
        · rw [if_neg (not_not_intro c1), if_pos c2]
      · rw [if_pos c1]
    have eg : g_world M t w v = (-1, M) := by
      unfold g_world
      rw [w2, tT]
      by_cases c1 : 0 ≤ t.toInt ∧ t.toInt ≤ (T : Int) - 1
      · by_cases c2 : 0 ≤ w.toInt ∧ w.toInt ≤ 2
        · rw [if_neg (not_not_intro c1), if_neg (not_not_intro c2), if_pos (fun c3 => hc ⟨c1, c2, c3⟩)]
        · rw [if_neg (not_not_intro c1), if_pos c2]
      · rw [if_pos c1]
    refine C_X9_world (d := 27) w1 w3 w4 ?_
    rw [ef]
    refine hQ _ m0 m1 md M (fun Q2 h2 => C_X10_world (d := 27) w2 w3 w4 ?_)
    rw [eg]
    exact h2 M hI
end PAIR5
