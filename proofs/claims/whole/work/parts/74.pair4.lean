theorem z_most_nm {k : Nat} (h : k < 6) : z_most k = z_nm k := by
  have : ∀ k, k < 6 → z_most k = z_nm k := by decide
  exact this k h
theorem z_tr_at {f : Nat → Int32} {a L i : Nat} (ha : a < L) (hi : i < L - 1) : z_tr f a L i = f (if i < a then i else i + 1) := by
  unfold z_tr
  by_cases c : i < a
  · rw [if_pos c]
    unfold va_cpy
    rw [if_neg (by omega)]
  · rw [if_neg c, pk_cpy_in (by omega) (by omega)]
    congr 1; omega
theorem z_swp_at {f : Nat → Int32} {a b i : Nat} (h : a ≠ b) : z_swp f a b i = f (if i = a then b else if i = b then a else i) := by
  unfold z_swp
  by_cases c1 : i = a
  · subst c1; rw [if_pos rfl, z_upd_ne h, z_upd_at]
  · by_cases c2 : i = b
    · subst c2; rw [if_neg c1, if_pos rfl, z_upd_at]
    · rw [if_neg c1, if_neg c2, z_upd_ne c2, z_upd_ne c1]
section PAIR4
variable {l : Launch} {g : zG} {m0 m1 md : Nat} {M : zM} {Q : Int32 → zS → zM → Prop}
theorem P_tell (hI : Inv m0 m1 md M) {t m : Int32} (hQ : ∀ x a' b' c' M1, z_R l g yX10_tell cX10_tell 3 [.ref 99, .int t, .int m] x a' b' c' M1 → Q x (ZS a' b' c') M1) : AMet l g yX9_tell cX9_tell 3 (some .int) 29 0 0 [.ref 0, .int t, .int m] (ZS m0 m1 md) M (z_Qi Q) := by
  obtain ⟨i1, i2, i3, ⟨L, kd, tk, nb, hB, hG, hS⟩, i5, i6, i7, i8, i9⟩ := id hI
  have h48 := hB.2.1
  refine C_X9_tell (d := 28) hB.1 hB.2.1 (fun hb => hQ _ m0 m1 md M (fun Q2 h2 => ?_)) (fun hg hl => hQ _ m0 m1 md M (fun Q2 h2 => ?_)) (fun hg hl M1 f1 g1 => hQ _ m0 m1 md M1 (fun Q2 h2 => ?_))
  · exact C_X10_tell (d := 28) hG.1 hG.2.1 (fun _ => h2 M hI) (fun z => absurd z hb) (fun z => absurd z hb)
  · exact C_X10_tell (d := 28) hG.1 hG.2.1 (fun z => absurd hg z) (fun _ _ => h2 M hI) (fun _ z => absurd hl (by omega))
  · have kk : ∀ c, 99 ≤ c → M1 c = M c := fun c hc => by rw [f1 c (by omega), z_st_ne (by omega), z_st_ne (by omega), z_st_ne (by omega), z_st_ne (by omega)]
    have q72 : M1 72 = upd (M 72) L (nI 4) := by rw [f1 72 (by decide), z_st_ne (by decide), z_st_ne (by decide), z_st_ne (by decide), z_st_at]
    have q73 : M1 73 = upd (M 73) L t := by rw [f1 73 (by decide), z_st_ne (by decide), z_st_ne (by decide), z_st_at, z_st_ne (by decide)]
    have q74 : M1 74 = upd (M 74) L m := by rw [f1 74 (by decide), z_st_ne (by decide), z_st_at, z_st_ne (by decide), z_st_ne (by decide)]
    have q70 : M1 70 1 = nI (L + 1) := by rw [f1 70 (by decide), z_st_v]
    refine C_X10_tell (d := 28) (L := L) (by rw [kk 99 (by omega)]; exact hG.1) h48 (fun z => absurd hg z) (fun _ z => absurd hl (by omega)) (fun _ _ => ?_)
    have v : ∀ c, (((1 ≤ c ∧ c ≤ 2) ∨ (20 ≤ c ∧ c < 64) ∨ (70 ≤ c ∧ c ≤ 86) ∨ (89 ≤ c ∧ c ≤ 98) ∨ c = 100 ∨ (104 ≤ c ∧ c ≤ 108) ∨ (113 ≤ c ∧ c ≤ 115) ∨ (121 ≤ c ∧ c ≤ 123) ∨ (125 ≤ c ∧ c ≤ 129) ∨ c = 131 ∨ (133 ≤ c ∧ c ≤ 135)) ∧ ¬ (70 ≤ c ∧ c ≤ 75) ∧ ¬ (121 ≤ c ∧ c ≤ 123)) → z_st (z_st (z_st (z_st M1 121 L (nI 4)) 122 L t) 123 L m) 99 25 (nI (L + 1)) c = M c := fun c hc => by rw [z_st_ne (by omega), z_st_ne (by omega), z_st_ne (by omega), z_st_ne (by omega), f1 c (by omega), z_st_ne (by omega), z_st_ne (by omega), z_st_ne (by omega), z_st_ne (by omega)]
    have v9 : ∀ j, j ≠ 25 → z_st (z_st (z_st (z_st M1 121 L (nI 4)) 122 L t) 123 L m) 99 25 (nI (L + 1)) 99 j = M 99 j := fun j hj => by rw [z_st_o hj, z_st_ne (by decide), z_st_ne (by decide), z_st_ne (by decide), kk 99 (by omega)]
    have lo : ∀ c, c < 99 → z_st (z_st (z_st (z_st M1 121 L (nI 4)) 122 L t) 123 L m) 99 25 (nI (L + 1)) c = M1 c := fun c hc => by rw [z_st_ne (by omega), z_st_ne (by omega), z_st_ne (by omega), z_st_ne (by omega)]
    have v0 : ∀ j, j ≠ 100 → z_st (z_st (z_st (z_st M1 121 L (nI 4)) 122 L t) 123 L m) 99 25 (nI (L + 1)) 0 j = M 0 j := fun j _ => by rw [lo 0 (by decide), f1 0 (by decide), z_st_ne (by decide), z_st_ne (by decide), z_st_ne (by decide), z_st_ne (by decide)]
    refine h2 _ ⟨i1.fr (fun c c1 c2 => v c (by omega)) (fun c c1 c2 => v c (by omega)), i2.fr (v 1 (by omega)) (v 2 (by omega)) (v9 1 (by decide)) (v 100 (by omega)), i3.fr (v 59 (by omega)) (v9 16 (by decide)) (v 61 (by omega)) (v 62 (by omega)) (v 63 (by omega)) (v 113 (by omega)) (v 114 (by omega)) (v 115 (by omega)), ?_, i5.fr (fun c c1 c2 => v c (by omega)) (v 125 (by omega)) (v 126 (by omega)), i6.fr (fun c c1 c2 => v c (by omega)) (v9 34 (by decide)) (fun c c1 c2 => v c (by omega)), i7.fr (v0 14 (by decide)) (v0 15 (by decide)) (v9 32 (by decide)) (v9 33 (by decide)), i8.fr (v0 13 (by decide)) (v9 39 (by decide)) (v 89 (by omega)) (v 131 (by omega)), i9.fr (fun c c1 c2 => v c (by omega)) (fun c c1 c2 => v c (by omega))⟩
    obtain ⟨z1, z2, z3, z4⟩ := hg
    obtain ⟨tt, ht, rfl, ht2⟩ := z_nI (v := t) (n := 11) z1 z2
    obtain ⟨mm, hm, rfl, hm2⟩ := z_nI (v := m) (n := 99) z3 z4
    refine ⟨L + 1, fun i => if i = L then 4 else kd i, fun i => if i = L then tt else tk i, fun i => if i = L then mm else nb i, ⟨by rw [lo 70 (by decide)]; exact q70, by omega, fun i hi => ?_⟩, ⟨z_st_v _ _ _ _, by omega, fun i hi => ?_⟩, fun i hi => by rw [lo 75 (by decide), lo 72 (by decide), lo 73 (by decide), lo 74 (by decide)]; exact g1 i hi⟩
    · rw [lo 72 (by decide), lo 73 (by decide), lo 74 (by decide), q72, q73, q74]
      by_cases e : i = L
      · subst e; simp only [if_true, z_upd_at]; exact ⟨trivial, trivial, trivial, by decide, by omega, hm⟩
      · simp only [if_neg e, z_upd_ne e]; exact hB.2.2 i (by omega)
    · have b1 : z_st (z_st (z_st (z_st M1 121 L (nI 4)) 122 L (nI tt)) 123 L (nI mm)) 99 25 (nI (L + 1)) 121 = upd (M 121) L (nI 4) := by rw [z_st_ne (by decide), z_st_ne (by decide), z_st_ne (by decide), z_st_at, kk 121 (by omega)]
      have b2 : z_st (z_st (z_st (z_st M1 121 L (nI 4)) 122 L (nI tt)) 123 L (nI mm)) 99 25 (nI (L + 1)) 122 = upd (M 122) L (nI tt) := by rw [z_st_ne (by decide), z_st_ne (by decide), z_st_at, z_st_ne (by decide), kk 122 (by omega)]
      have b3 : z_st (z_st (z_st (z_st M1 121 L (nI 4)) 122 L (nI tt)) 123 L (nI mm)) 99 25 (nI (L + 1)) 123 = upd (M 123) L (nI mm) := by rw [z_st_ne (by decide), z_st_at, z_st_ne (by decide), z_st_ne (by decide), kk 123 (by omega)]
      rw [b1, b2, b3]
      by_cases e : i = L
      · subst e; simp only [if_true, z_upd_at]; exact ⟨trivial, trivial, trivial, by decide, by omega, hm⟩
      · simp only [if_neg e, z_upd_ne e]; exact hG.2.2 i (by omega)
theorem P_forge (hI : Inv m0 m1 md M) {i m : Int32} (hQ : ∀ x a' b' c' M1, z_R l g yX10_forge cX10_forge 4 [.ref 99, .int i, .int m] x a' b' c' M1 → Q x (ZS a' b' c') M1) : AMet l g yX9_forge cX9_forge 4 (some .int) 29 0 0 [.ref 0, .int i, .int m] (ZS m0 m1 md) M (z_Qi Q) := by
  obtain ⟨i1, i2, i3, ⟨L, kd, tk, nb, hB, hG, hS⟩, i5, i6, i7, i8, i9⟩ := id hI
  have h48 := hB.2.1
  have kf : ∀ i, i < L → M 72 i = nI (kd i) ∧ kd i ≤ 5 := fun i hi => ⟨(hB.2.2 i hi).1, by have := (hB.2.2 i hi).2.2.2.1; omega⟩
  have kg : ∀ i, i < L → M 121 i = nI (kd i) ∧ kd i ≤ 5 := fun i hi => ⟨(hG.2.2 i hi).1, by have := (hG.2.2 i hi).2.2.2.1; omega⟩
  refine C_X9_forge (d := 27) hB.1 hB.2.1 (kd := kd) kf (fun hb => hQ _ m0 m1 md M (fun Q2 h2 => ?_)) (fun a l1 e1 e2 hm => hQ _ m0 m1 md M (fun Q2 h2 => ?_)) (fun a l1 e1 e2 hm M1 f1 g1 => hQ _ m0 m1 md M1 (fun Q2 h2 => ?_))
  · exact C_X10_forge (d := 27) hG.1 hG.2.1 (kd := kd) kg (fun _ => h2 M hI) (fun a l1 e1 e2 hm => absurd (by rw [e1, nI_clamp (by omega), z_tt (by omega)]; omega) hb) (fun a l1 e1 e2 hm => absurd (by rw [e1, nI_clamp (by omega), z_tt (by omega)]; omega) hb)
  · subst e1
    refine C_X10_forge (d := 27) hG.1 hG.2.1 (kd := kd) kg (fun z => absurd (by rw [nI_clamp (by omega), z_tt (by omega)]; omega) z) (fun _ _ _ _ _ => h2 M hI) (fun a' l1' e1' e2' hm' => ?_)
    have q := z_nIi (by omega) (by omega) e1'
    subst q
    exact absurd e2 e2'
  · subst e1
    have kk : ∀ c, 99 ≤ c → M1 c = M c := fun c hc => by rw [f1 c (by omega), z_st_ne (by omega)]
    refine C_X10_forge (d := 27) (L := L) (by rw [kk 99 (by omega)]; exact hG.1) h48 (kd := kd) (by rw [kk 121 (by omega)]; exact kg) (fun z => absurd (by rw [nI_clamp (by omega), z_tt (by omega)]; omega) z) (fun a' l1' e1' e2' hm' => ?_) (fun a' l1' e1' e2' hm' => ?_)
    · have q := z_nIi (by omega) (by omega) e1'
      subst q
      exact absurd e2' e2
    · have q := z_nIi (by omega) (by omega) e1'
      subst q
      obtain ⟨p1, p2, p3, p4, p5, p6⟩ := hB.2.2 a l1
      obtain ⟨q1, q2, q3, -⟩ := hG.2.2 a l1
      rw [kk 123 (by omega), q3, ← p3]
      have q74 : M1 74 = upd (M 74) a m := by rw [f1 74 (by decide), z_st_at]
      have fo : ∀ c, c ≠ 74 → c ≠ 75 → M1 c = M c := fun c c1 c2 => by rw [f1 c c2, z_st_ne c1]
      have v : ∀ c, (((1 ≤ c ∧ c ≤ 2) ∨ (20 ≤ c ∧ c < 64) ∨ (70 ≤ c ∧ c ≤ 86) ∨ (89 ≤ c ∧ c ≤ 98) ∨ c = 100 ∨ (104 ≤ c ∧ c ≤ 108) ∨ (113 ≤ c ∧ c ≤ 115) ∨ (121 ≤ c ∧ c ≤ 123) ∨ (125 ≤ c ∧ c ≤ 129) ∨ c = 131 ∨ (133 ≤ c ∧ c ≤ 135)) ∧ ¬ (70 ≤ c ∧ c ≤ 75) ∧ ¬ (121 ≤ c ∧ c ≤ 123)) → z_st M1 123 a m c = M c := fun c hc => by rw [z_st_ne (by omega), fo c (by omega) (by omega)]
      have v9 : ∀ j, j ≠ 100 → z_st M1 123 a m 99 j = M 99 j := fun j _ => by rw [z_st_ne (by decide), kk 99 (by omega)]
      have v0 : ∀ j, j ≠ 100 → z_st M1 123 a m 0 j = M 0 j := fun j _ => by rw [z_st_ne (by decide), fo 0 (by decide) (by decide)]
      refine h2 _ ⟨i1.fr (fun c c1 c2 => v c (by omega)) (fun c c1 c2 => v c (by omega)), i2.fr (v 1 (by omega)) (v 2 (by omega)) (v9 1 (by decide)) (v 100 (by omega)), i3.fr (v 59 (by omega)) (v9 16 (by decide)) (v 61 (by omega)) (v 62 (by omega)) (v 63 (by omega)) (v 113 (by omega)) (v 114 (by omega)) (v 115 (by omega)), ?_, i5.fr (fun c c1 c2 => v c (by omega)) (v 125 (by omega)) (v 126 (by omega)), i6.fr (fun c c1 c2 => v c (by omega)) (v9 34 (by decide)) (fun c c1 c2 => v c (by omega)), i7.fr (v0 14 (by decide)) (v0 15 (by decide)) (v9 32 (by decide)) (v9 33 (by decide)), i8.fr (v0 13 (by decide)) (v9 39 (by decide)) (v 89 (by omega)) (v 131 (by omega)), i9.fr (fun c c1 c2 => v c (by omega)) (fun c c1 c2 => v c (by omega))⟩
      rw [z_most_nm p4] at hm
      have hz := z_nm_le (kd a)
      obtain ⟨mm, hmm, rfl, hm2⟩ := z_nI (v := m) (n := 99) hm.1 (by omega)
      refine ⟨L, kd, tk, fun i => if i = a then mm else nb i, ⟨by rw [z_st_ne (by decide), fo 70 (by decide) (by decide)]; exact hB.1, h48, fun i hi => ?_⟩, ⟨by rw [z_st_ne (by decide), kk 99 (by omega)]; exact hG.1, h48, fun i hi => ?_⟩, fun i hi => by rw [z_st_ne (by decide), z_st_ne (by decide), z_st_ne (by decide), z_st_ne (by decide)]; exact g1 i hi⟩
      · rw [z_st_ne (by decide), z_st_ne (by decide), z_st_ne (by decide), fo 72 (by decide) (by decide), fo 73 (by decide) (by decide), q74]
        obtain ⟨s1, s2, s3, s4, s5, s6⟩ := hB.2.2 i hi
        by_cases e : i = a
        · subst e; simp only [if_true, z_upd_at]; exact ⟨s1, s2, trivial, s4, s5, by omega⟩
        · simp only [if_neg e, z_upd_ne e]; exact ⟨s1, s2, s3, s4, s5, s6⟩
      · rw [z_st_ne (by decide), z_st_ne (by decide), z_st_at, kk 121 (by omega), kk 122 (by omega), kk 123 (by omega)]
        obtain ⟨s1, s2, s3, s4, s5, s6⟩ := hG.2.2 i hi
        by_cases e : i = a
        · subst e; simp only [if_true, z_upd_at]; exact ⟨s1, s2, trivial, s4, s5, by omega⟩
        · simp only [if_neg e, z_upd_ne e]; exact ⟨s1, s2, s3, s4, s5, s6⟩
theorem P_swap (hI : Inv m0 m1 md M) {i j : Int32} (hQ : ∀ x a' b' c' M1, z_R l g yX10_swap cX10_swap 6 [.ref 99, .int i, .int j] x a' b' c' M1 → Q x (ZS a' b' c') M1) : AMet l g yX9_swap cX9_swap 3 (some .int) 29 0 0 [.ref 0, .int i, .int j] (ZS m0 m1 md) M (z_Qi Q) := by
  obtain ⟨i1, i2, i3, ⟨L, kd, tk, nb, hB, hG, hS⟩, i5, i6, i7, i8, i9⟩ := id hI
  have h48 := hB.2.1
  refine C_X9_swap (d := 27) hB.1 hB.2.1 (fun hb => hQ _ m0 m1 md M (fun Q2 h2 => ?_)) (fun a b l1 l2 l3 e1 e2 M1 f1 g2 g3 g4 g5 => hQ _ m0 m1 md M1 (fun Q2 h2 => ?_))
  · exact C_X10_swap (d := 27) hG.1 hG.2.1 (fun _ => h2 M hI) (fun a b l1 l2 l3 e1 e2 => absurd (by rw [e1, e2, z_tt (by omega), z_tt (by omega)]; omega) hb)
  · subst e1; subst e2
    have kk : ∀ c, 99 ≤ c → M1 c = M c := fun c hc => f1 c (by omega) (by omega) (by omega) (by omega)
    refine C_X10_swap (d := 27) (L := L) (by rw [kk 99 (by omega)]; exact hG.1) h48 (fun z => absurd (by rw [z_tt (by omega), z_tt (by omega)]; omega) z) (fun a' b' l1' l2' l3' e1 e2 M2 f2 g6 g7 g8 => ?_)
    have q1 := z_nIi (by omega) (by omega) e1
    have q2 := z_nIi (by omega) (by omega) e2
    subst q1; subst q2
    have v : ∀ c, (((1 ≤ c ∧ c ≤ 2) ∨ (20 ≤ c ∧ c < 64) ∨ (70 ≤ c ∧ c ≤ 86) ∨ (89 ≤ c ∧ c ≤ 98) ∨ c = 100 ∨ (104 ≤ c ∧ c ≤ 108) ∨ (113 ≤ c ∧ c ≤ 115) ∨ (121 ≤ c ∧ c ≤ 123) ∨ (125 ≤ c ∧ c ≤ 129) ∨ c = 131 ∨ (133 ≤ c ∧ c ≤ 135)) ∧ ¬ (70 ≤ c ∧ c ≤ 75) ∧ ¬ (121 ≤ c ∧ c ≤ 123)) → M2 c = M c := fun c hc => by rw [f2 c (by omega) (by omega) (by omega), f1 c (by omega) (by omega) (by omega) (by omega)]
    have v9 : ∀ j, j ≠ 100 → M2 99 j = M 99 j := fun j _ => by rw [f2 99 (by decide) (by decide) (by decide), kk 99 (by omega)]
    have v0 : ∀ j, j ≠ 100 → M2 0 j = M 0 j := fun j _ => by rw [f2 0 (by decide) (by decide) (by decide), f1 0 (by decide) (by decide) (by decide) (by decide)]
    have lo : ∀ c, c < 99 → M2 c = M1 c := fun c hc => f2 c (by omega) (by omega) (by omega)
    refine h2 _ ⟨i1.fr (fun c c1 c2 => v c (by omega)) (fun c c1 c2 => v c (by omega)), i2.fr (v 1 (by omega)) (v 2 (by omega)) (v9 1 (by decide)) (v 100 (by omega)), i3.fr (v 59 (by omega)) (v9 16 (by decide)) (v 61 (by omega)) (v 62 (by omega)) (v 63 (by omega)) (v 113 (by omega)) (v 114 (by omega)) (v 115 (by omega)), ?_, i5.fr (fun c c1 c2 => v c (by omega)) (v 125 (by omega)) (v 126 (by omega)), i6.fr (fun c c1 c2 => v c (by omega)) (v9 34 (by decide)) (fun c c1 c2 => v c (by omega)), i7.fr (v0 14 (by decide)) (v0 15 (by decide)) (v9 32 (by decide)) (v9 33 (by decide)), i8.fr (v0 13 (by decide)) (v9 39 (by decide)) (v 89 (by omega)) (v 131 (by omega)), i9.fr (fun c c1 c2 => v c (by omega)) (fun c c1 c2 => v c (by omega))⟩
    refine ⟨L, fun i => kd (if i = a then b else if i = b then a else i), fun i => tk (if i = a then b else if i = b then a else i), fun i => nb (if i = a then b else if i = b then a else i), ⟨by rw [lo 70 (by decide), f1 70 (by decide) (by decide) (by decide) (by decide)]; exact hB.1, h48, fun i hi => ?_⟩, ⟨by rw [v9 25 (by decide)]; exact hG.1, h48, fun i hi => ?_⟩, fun i hi => by rw [lo 75 (by decide), lo 72 (by decide), lo 73 (by decide), lo 74 (by decide)]; exact g5 i hi⟩
    · rw [lo 72 (by decide), lo 73 (by decide), lo 74 (by decide), g2, g3, g4, z_swp_at l3, z_swp_at l3, z_swp_at l3]
      exact hB.2.2 _ (by split <;> (try split) <;> omega)
    · rw [g6, g7, g8, z_swp_at l3, z_swp_at l3, z_swp_at l3, kk 121 (by omega), kk 122 (by omega), kk 123 (by omega)]
      exact hG.2.2 _ (by split <;> (try split) <;> omega)
theorem P_tear (hI : Inv m0 m1 md M) {i : Int32} (hQ : ∀ x a' b' c' M1, z_R l g yX10_tear cX10_tear 3 [.ref 99, .int i] x a' b' c' M1 → Q x (ZS a' b' c') M1) : AMet l g yX9_tear cX9_tear 2 (some .int) 29 0 0 [.ref 0, .int i] (ZS m0 m1 md) M (z_Qi Q) := by
  obtain ⟨i1, i2, i3, ⟨L, kd, tk, nb, hB, hG, hS⟩, i5, i6, i7, i8, i9⟩ := id hI
  have h48 := hB.2.1
  refine C_X9_tear (d := 27) hB.1 hB.2.1 (fun hb => hQ _ m0 m1 md M (fun Q2 h2 => ?_)) (fun a l1 e1 M1 f1 g1 g2 g3 g4 g5 => hQ _ m0 m1 md M1 (fun Q2 h2 => ?_))
  · exact C_X10_tear (d := 27) hG.1 hG.2.1 (fun _ => h2 M hI) (fun a l1 e1 => absurd (by rw [e1, z_tt (by omega)]; omega) hb)
  · subst e1
    have kk : ∀ c, 99 ≤ c → M1 c = M c := fun c hc => f1 c (by omega) (by omega) (by omega) (by omega) (by omega)
    refine C_X10_tear (d := 27) (L := L) (by rw [kk 99 (by omega)]; exact hG.1) h48 (fun z => absurd (by rw [z_tt (by omega)]; omega) z) (fun a' l1' e1 M2 f2 g0 g6 g7 g8 => ?_)
    have q1 := z_nIi (by omega) (by omega) e1
    subst q1
    have v : ∀ c, (((1 ≤ c ∧ c ≤ 2) ∨ (20 ≤ c ∧ c < 64) ∨ (70 ≤ c ∧ c ≤ 86) ∨ (89 ≤ c ∧ c ≤ 98) ∨ c = 100 ∨ (104 ≤ c ∧ c ≤ 108) ∨ (113 ≤ c ∧ c ≤ 115) ∨ (121 ≤ c ∧ c ≤ 123) ∨ (125 ≤ c ∧ c ≤ 129) ∨ c = 131 ∨ (133 ≤ c ∧ c ≤ 135)) ∧ ¬ (70 ≤ c ∧ c ≤ 75) ∧ ¬ (121 ≤ c ∧ c ≤ 123)) → M2 c = M c := fun c hc => by rw [f2 c (by omega) (by omega) (by omega) (by omega), f1 c (by omega) (by omega) (by omega) (by omega) (by omega)]
    have v9 : ∀ j, j ≠ 25 → M2 99 j = M 99 j := fun j hj => by rw [g0, z_upd_ne hj, kk 99 (by omega)]
    have lo : ∀ c, c < 99 → M2 c = M1 c := fun c hc => f2 c (by omega) (by omega) (by omega) (by omega)
    have v0 : ∀ j, j ≠ 100 → M2 0 j = M 0 j := fun j _ => by rw [lo 0 (by decide), f1 0 (by decide) (by decide) (by decide) (by decide) (by decide)]
    refine h2 _ ⟨i1.fr (fun c c1 c2 => v c (by omega)) (fun c c1 c2 => v c (by omega)), i2.fr (v 1 (by omega)) (v 2 (by omega)) (v9 1 (by decide)) (v 100 (by omega)), i3.fr (v 59 (by omega)) (v9 16 (by decide)) (v 61 (by omega)) (v 62 (by omega)) (v 63 (by omega)) (v 113 (by omega)) (v 114 (by omega)) (v 115 (by omega)), ?_, i5.fr (fun c c1 c2 => v c (by omega)) (v 125 (by omega)) (v 126 (by omega)), i6.fr (fun c c1 c2 => v c (by omega)) (v9 34 (by decide)) (fun c c1 c2 => v c (by omega)), i7.fr (v0 14 (by decide)) (v0 15 (by decide)) (v9 32 (by decide)) (v9 33 (by decide)), i8.fr (v0 13 (by decide)) (v9 39 (by decide)) (v 89 (by omega)) (v 131 (by omega)), i9.fr (fun c c1 c2 => v c (by omega)) (fun c c1 c2 => v c (by omega))⟩
    refine ⟨L - 1, fun i => kd (if i < a then i else i + 1), fun i => tk (if i < a then i else i + 1), fun i => nb (if i < a then i else i + 1), ⟨by rw [lo 70 (by decide), g1, z_upd_at], by omega, fun i hi => ?_⟩, ⟨by rw [g0, z_upd_at], by omega, fun i hi => ?_⟩, fun i hi => by rw [lo 75 (by decide), lo 72 (by decide), lo 73 (by decide), lo 74 (by decide)]; exact g5 i hi⟩
    · rw [lo 72 (by decide), lo 73 (by decide), lo 74 (by decide), g2, g3, g4, z_tr_at l1 hi, z_tr_at l1 hi, z_tr_at l1 hi]
      exact hB.2.2 _ (by split <;> omega)
    · rw [g6, g7, g8, z_tr_at l1 hi, z_tr_at l1 hi, z_tr_at l1 hi, kk 121 (by omega), kk 122 (by omega), kk 123 (by omega)]
      exact hG.2.2 _ (by split <;> omega)
theorem P_write (hI : Inv m0 m1 md M) {r : Int32} (hQ : ∀ x a' b' c' M1, z_R l g yX10_write cX10_write 4 [.ref 99, .int r] x a' b' c' M1 → Q x (ZS a' b' c') M1) : AMet l g yX9_write cX9_write 3 (some .int) 29 0 0 [.ref 0, .int r] (ZS m0 m1 md) M (z_Qi Q) := by
  obtain ⟨⟨hb0, hb1, hbd, d1, d2, d3, ns, Hs, As, Ns, Ks, h⟩, i2, ⟨T, sg, lt, ms, w1, w2, w3, w4, w5⟩, i4, i5, i6, i7, i8, i9⟩ := id hI
  have i1 := hI.1
  have i3 := hI.2.2.1
  have wg : ∀ t, t < 12 → M 113 t = nI (sg t) ∧ M 114 t = nI (lt t) ∧ sg t < 16 ∧ lt t < 2 := fun t ht => ⟨(w5 t ht).2.2.2.1, (w5 t ht).2.2.2.2.1, (w5 t ht).2.2.2.2.2.2.1, (w5 t ht).2.2.2.2.2.2.2.1⟩
  refine C_X9_write (d := 26) w1 w4 hb0 (h 0 (by decide)).1 (sg := sg) (lt := lt) (fun t ht => ⟨(w5 t ht).1, (w5 t ht).2.1, (w5 t ht).2.2.2.2.2.2.1, (w5 t ht).2.2.2.2.2.2.2.1⟩) (fun hb => hQ _ m0 m1 md M (fun Q2 h2 => ?_)) (fun rm l1 e1 M1 f1 g1 g2 => hQ _ m0 m1 md M1 (fun Q2 h2 => ?_))
  · exact C_X10_write (d := 27) w2 w4 (h 0 (by decide)).2.1 wg (fun _ => h2 M hI) (fun rm l1 e1 => absurd (by rw [e1, z_tt (by omega)]; omega) hb)
  · subst e1
    have kk : ∀ c, 99 ≤ c → M1 c = M c := fun c hc => f1 c (by omega) (by omega) (by omega) (by omega) (by omega) (by omega) (by omega) (by omega) (by omega) (by omega)
    refine C_X10_write (d := 27) (by rw [kk 99 (by omega)]; exact w2) w4 (g_mach_frame (fun c c1 c2 => kk c (by omega)) (h 0 (by decide)).2.1) (by rw [kk 113 (by omega), kk 114 (by omega)]; exact wg) (fun z => absurd (by rw [z_tt (by omega)]; omega) z) (fun rm' l1' e1 M2 f2 g3 g4 => ?_)
    have q1 := z_nIi (by omega) (by omega) e1
    subst q1
    have v : ∀ c, (((1 ≤ c ∧ c ≤ 2) ∨ (20 ≤ c ∧ c < 64) ∨ (70 ≤ c ∧ c ≤ 86) ∨ (89 ≤ c ∧ c ≤ 98) ∨ c = 100 ∨ (104 ≤ c ∧ c ≤ 108) ∨ (113 ≤ c ∧ c ≤ 115) ∨ (121 ≤ c ∧ c ≤ 123) ∨ (125 ≤ c ∧ c ≤ 129) ∨ c = 131 ∨ (133 ≤ c ∧ c ≤ 135)) ∧ ¬ (70 ≤ c ∧ c ≤ 75) ∧ ¬ (121 ≤ c ∧ c ≤ 123)) → M2 c = M c := fun c hc => by rw [f2 c (by omega) (by omega) (by omega) (by omega) (by omega) (by omega) (by omega) (by omega) (by omega), f1 c (by omega) (by omega) (by omega) (by omega) (by omega) (by omega) (by omega) (by omega) (by omega) (by omega)]
    have v9 : ∀ j, j ≠ 25 → M2 99 j = M 99 j := fun j hj => by rw [g3 j hj, kk 99 (by omega)]
    have lo : ∀ c, c < 99 → M2 c = M1 c := fun c hc => f2 c (by omega) (by omega) (by omega) (by omega) (by omega) (by omega) (by omega) (by omega) (by omega)
    have v0 : ∀ j, j ≠ 100 → M2 0 j = M 0 j := fun j _ => by rw [lo 0 (by decide), f1 0 (by decide) (by decide) (by decide) (by decide) (by decide) (by decide) (by decide) (by decide) (by decide) (by decide)]
    refine h2 _ ⟨i1.fr (fun c c1 c2 => v c (by omega)) (fun c c1 c2 => v c (by omega)), i2.fr (v 1 (by omega)) (v 2 (by omega)) (v9 1 (by decide)) (v 100 (by omega)), i3.fr (v 59 (by omega)) (v9 16 (by decide)) (v 61 (by omega)) (v 62 (by omega)) (v 63 (by omega)) (v 113 (by omega)) (v 114 (by omega)) (v 115 (by omega)), ?_, i5.fr (fun c c1 c2 => v c (by omega)) (v 125 (by omega)) (v 126 (by omega)), i6.fr (fun c c1 c2 => v c (by omega)) (v9 34 (by decide)) (fun c c1 c2 => v c (by omega)), i7.fr (v0 14 (by decide)) (v0 15 (by decide)) (v9 32 (by decide)) (v9 33 (by decide)), i8.fr (v0 13 (by decide)) (v9 39 (by decide)) (v 89 (by omega)) (v 131 (by omega)), i9.fr (fun c c1 c2 => v c (by omega)) (fun c c1 c2 => v c (by omega))⟩
    exact ⟨4 * T, _, _, _, by unfold f_bk; rw [lo 70 (by decide), lo 72 (by decide), lo 73 (by decide), lo 74 (by decide)]; exact g1, g4, fun i hi => by rw [lo 75 (by decide), lo 72 (by decide), lo 73 (by decide), lo 74 (by decide)]; exact g2 i hi⟩
end PAIR4
