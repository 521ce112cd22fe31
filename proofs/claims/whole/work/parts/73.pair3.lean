section PAIR3
variable {l : Launch} {g : zG} {m0 m1 md : Nat} {M : zM} {Q : Int32 → zS → zM → Prop}
theorem P_type (hI : Inv m0 m1 md M) {w : Int64} {n : Int32} (hQ : ∀ x a' b' c' M1, z_R l g yX10_type cX10_type 5 [.ref 99, .long w, .int n] x a' b' c' M1 → Q x (ZS a' b' c') M1) : AMet l g yX9_type cX9_type 6 (some .int) 29 0 0 [.ref 0, .long w, .int n] (ZS m0 m1 md) M (z_Qi Q) := by
  obtain ⟨i1, ⟨T, tp, hf, hg⟩, i3, i4, i5, i6, i7, i8, i9⟩ := id hI
  have hT := hf.2.1.1
  refine C_X9_type (d := 28) hf.1 hT (fun hb => hQ _ m0 m1 md M (fun Q2 h2 => ?_)) (fun k hk hl => hQ _ m0 m1 md M (fun Q2 h2 => ?_)) (fun k hk hl M1 f1 g1 g2 g3 => hQ _ m0 m1 md M1 (fun Q2 h2 => ?_))
  · exact C_X10_type (d := 28) hg.1 hT (fun _ => h2 M hI) (fun k' hk' => absurd ⟨k', hk'⟩ hb) (fun k' hk' => absurd ⟨k', hk'⟩ hb)
  · refine C_X10_type (d := 28) hg.1 hT (fun z => absurd ⟨k, hk⟩ z) (fun _ _ _ => h2 M hI) (fun k' hk' hl' => ?_)
    have e := z_nIi (a := k) (b := k') (by have := hk.2.2.1; omega) (by have := hk'.2.2.1; omega) (hk.1.symm.trans hk'.1)
    omega
  · have kk : ∀ c, 99 ≤ c → M1 c = M c := fun c hc => f1 c (by omega) (by omega)
    refine C_X10_type (d := 28) (T := T) (by rw [kk 99 (by omega)]; exact hg.1) hT (fun z => absurd ⟨k, hk⟩ z) (fun k' hk' hl' => ?_) (fun k' hk' hl' M2 f2 g4 g5 g6 g7 => ?_)
    · have e := z_nIi (a := k) (b := k') (by have := hk.2.2.1; omega) (by have := hk'.2.2.1; omega) (hk.1.symm.trans hk'.1)
      omega
    · have e := z_nIi (a := k) (b := k') (by have := hk.2.2.1; omega) (by have := hk'.2.2.1; omega) (hk.1.symm.trans hk'.1)
      subst e
      have v : ∀ c, (((1 ≤ c ∧ c ≤ 2) ∨ (20 ≤ c ∧ c < 64) ∨ (70 ≤ c ∧ c ≤ 86) ∨ (89 ≤ c ∧ c ≤ 98) ∨ c = 100 ∨ (104 ≤ c ∧ c ≤ 108) ∨ (113 ≤ c ∧ c ≤ 115) ∨ (121 ≤ c ∧ c ≤ 123) ∨ (125 ≤ c ∧ c ≤ 129) ∨ c = 131 ∨ (133 ≤ c ∧ c ≤ 135)) ∧ c ≠ 1 ∧ c ≠ 2 ∧ c ≠ 100) → M2 c = M c := fun c hc => by rw [f2 c (by omega) (by omega), f1 c (by omega) (by omega)]
      have v9 : ∀ j, j ≠ 1 → M2 99 j = M 99 j := fun j hj => by rw [g4 j hj, kk 99 (by omega)]
      have v0 : ∀ j, j ≠ 100 → M2 0 j = M 0 j := fun j _ => by rw [f2 0 (by decide) (by decide), f1 0 (by decide) (by decide)]
      refine h2 M2 ⟨i1.fr (fun c c1 c2 => v c (by omega)) (fun c c1 c2 => v c (by omega)), ?_, i3.fr (v 59 (by omega)) (v9 16 (by decide)) (v 61 (by omega)) (v 62 (by omega)) (v 63 (by omega)) (v 113 (by omega)) (v 114 (by omega)) (v 115 (by omega)), i4.fr (v 70 (by omega)) (v 72 (by omega)) (v 73 (by omega)) (v 74 (by omega)) (v 75 (by omega)) (v9 25 (by decide)) (v 121 (by omega)) (v 122 (by omega)) (v 123 (by omega)), i5.fr (fun c c1 c2 => v c (by omega)) (v 125 (by omega)) (v 126 (by omega)), i6.fr (fun c c1 c2 => v c (by omega)) (v9 34 (by decide)) (fun c c1 c2 => v c (by omega)), i7.fr (v0 14 (by decide)) (v0 15 (by decide)) (v9 32 (by decide)) (v9 33 (by decide)), i8.fr (v0 13 (by decide)) (v9 39 (by decide)) (v 89 (by omega)) (v 131 (by omega)), i9.fr (fun c c1 c2 => v c (by omega)) (fun c c1 c2 => v c (by omega))⟩
      have tok : pp_tok (fun j => if j < T then tp j else z_by w (k - 1 - (j - T))) (T + k) := ⟨by omega, fun i hi => by
        by_cases c : i < T
        · simp only [if_pos c]; exact hf.2.1.2 i c
        · simp only [if_neg c]; exact hk.2.2.2 _ (by have := hk.2.1; omega)⟩
      refine ⟨T + k, fun j => if j < T then tp j else z_by w (k - 1 - (j - T)), ⟨by rw [f2 1 (by decide) (by decide)]; exact g1, tok, fun i hi => ?_⟩, ⟨g5, tok, fun i hi => ?_⟩⟩
      · rw [f2 2 (by decide) (by decide)]
        by_cases c : i < T
        · simp only [if_pos c]; rw [g2 i c]; exact hf.2.2 i c
        · simp only [if_neg c]
          have := g3 (i - T) (by omega)
          rw [show T + (i - T) = i by omega] at this
          exact this
      · by_cases c : i < T
        · simp only [if_pos c]; rw [g6 i c, kk 100 (by omega)]; exact hg.2.2 i c
        · simp only [if_neg c]
          have := g7 (i - T) (by omega)
          rw [show T + (i - T) = i by omega] at this
          exact this
theorem P_clear (hI : Inv m0 m1 md M)  (hQ : ∀ x a' b' c' M1, z_R l g yX10_clear cX10_clear 2 [.ref 99] x a' b' c' M1 → Q x (ZS a' b' c') M1) : AMet l g yX9_clear cX9_clear 2 (some .int) 29 0 0 [.ref 0] (ZS m0 m1 md) M (z_Qi Q) := by
  obtain ⟨i1, i2, i3, i4, i5, ⟨t, tk, tt, tn, t1, t2, t3, t4, t5⟩, i7, i8, i9⟩ := id hI
  refine C_X9_clear (d := 29) (hQ _ m0 m1 md _ (fun Q2 h2 => ?_))
  refine C_X10_clear (d := 29) ?_
  rw [z_st_ne (by decide), t2]
  rw [t1] at h2
  have v : ∀ c, (((1 ≤ c ∧ c ≤ 2) ∨ (20 ≤ c ∧ c < 64) ∨ (70 ≤ c ∧ c ≤ 86) ∨ (89 ≤ c ∧ c ≤ 98) ∨ c = 100 ∨ (104 ≤ c ∧ c ≤ 108) ∨ (113 ≤ c ∧ c ≤ 115) ∨ (121 ≤ c ∧ c ≤ 123) ∨ (125 ≤ c ∧ c ≤ 129) ∨ c = 131 ∨ (133 ≤ c ∧ c ≤ 135)) ∧ c ≠ 83) → z_st (z_st M 83 3 (nI 0)) 99 34 (nI 0) c = M c := fun c hc => by rw [z_st_ne (by omega), z_st_ne (by omega)]
  have v9 : ∀ j, j ≠ 34 → z_st (z_st M 83 3 (nI 0)) 99 34 (nI 0) 99 j = M 99 j := fun j hj => by rw [z_st_o hj, z_st_ne (by decide)]
  have v0 : ∀ j, j ≠ 100 → z_st (z_st M 83 3 (nI 0)) 99 34 (nI 0) 0 j = M 0 j := fun j _ => by rw [z_st_ne (by decide), z_st_ne (by decide)]
  refine h2 _ ⟨i1.fr (fun c c1 c2 => v c (by omega)) (fun c c1 c2 => v c (by omega)), i2.fr (v 1 (by omega)) (v 2 (by omega)) (v9 1 (by decide)) (v 100 (by omega)), i3.fr (v 59 (by omega)) (v9 16 (by decide)) (v 61 (by omega)) (v 62 (by omega)) (v 63 (by omega)) (v 113 (by omega)) (v 114 (by omega)) (v 115 (by omega)), i4.fr (v 70 (by omega)) (v 72 (by omega)) (v 73 (by omega)) (v 74 (by omega)) (v 75 (by omega)) (v9 25 (by decide)) (v 121 (by omega)) (v 122 (by omega)) (v 123 (by omega)), i5.fr (fun c c1 c2 => v c (by omega)) (v 125 (by omega)) (v 126 (by omega)), ?_, i7.fr (v0 14 (by decide)) (v0 15 (by decide)) (v9 32 (by decide)) (v9 33 (by decide)), i8.fr (v0 13 (by decide)) (v9 39 (by decide)) (v 89 (by omega)) (v 131 (by omega)), i9.fr (fun c c1 c2 => v c (by omega)) (fun c c1 c2 => v c (by omega))⟩
  exact ⟨0, tk, tt, tn, by rw [z_st_ne (by decide), z_st_v], z_st_v _ _ _ _, by decide, fun k hk => absurd hk (by omega), fun k hk => absurd hk (by omega)⟩
theorem P_thing (hI : Inv m0 m1 md M) {k b n : Int32} (hQ : ∀ x a' b' c' M1, z_R l g yX10_thing cX10_thing 6 [.ref 99, .int k, .int b, .int n] x a' b' c' M1 → Q x (ZS a' b' c') M1) : AMet l g yX9_thing cX9_thing 4 (some .int) 29 0 0 [.ref 0, .int k, .int b, .int n] (ZS m0 m1 md) M (z_Qi Q) := by
  obtain ⟨i1, i2, i3, i4, i5, ⟨t, tk, tt, tn, t1, t2, t3, t4, t5⟩, i7, i8, i9⟩ := id hI
  have ex : (∃ i, i < t ∧ z_th M 84 85 86 k b n i) ↔ (∃ i, i < t ∧ z_th M 127 128 129 k b n i) := by
    constructor
    · rintro ⟨i, hi, h⟩
      refine ⟨i, hi, ?_⟩
      obtain ⟨q1, q2, q3, q4, q5, q6⟩ := t4 i hi
      unfold z_th at h ⊢
      rw [q4, q5, q6, ← q1, ← q2, ← q3]; exact h
    · rintro ⟨i, hi, h⟩
      refine ⟨i, hi, ?_⟩
      obtain ⟨q1, q2, q3, q4, q5, q6⟩ := t4 i hi
      unfold z_th at h ⊢
      rw [q1, q2, q3, ← q4, ← q5, ← q6]; exact h
  refine C_X9_thing (d := 28) t1 t3 (fun hb => hQ _ m0 m1 md M (fun Q2 h2 => ?_)) (fun hg he => hQ _ m0 m1 md M (fun Q2 h2 => ?_)) (fun hg he h6 => hQ _ m0 m1 md M (fun Q2 h2 => ?_)) (fun hg he h6 => hQ _ m0 m1 md _ (fun Q2 h2 => ?_))
  · exact C_X10_thing (d := 28) t2 t3 (fun _ => h2 M hI) (fun z => absurd z hb) (fun z => absurd z hb) (fun z => absurd z hb)
  · exact C_X10_thing (d := 28) t2 t3 (fun z => absurd hg z) (fun _ _ => h2 M hI) (fun _ z => absurd (ex.mp he) z) (fun _ z => absurd (ex.mp he) z)
  · exact C_X10_thing (d := 28) t2 t3 (fun z => absurd hg z) (fun _ z => absurd (ex.mpr z) he) (fun _ _ _ => h2 M hI) (fun _ _ z => absurd h6 (by omega))
  · have e9 : ∀ c, 99 ≤ c → z_st (z_st (z_st (z_st M 84 t k) 85 t b) 86 t n) 83 3 (nI (t + 1)) c = M c := fun c hc => by rw [z_st_ne (by omega), z_st_ne (by omega), z_st_ne (by omega), z_st_ne (by omega)]
    have q84 : z_st (z_st (z_st (z_st M 84 t k) 85 t b) 86 t n) 83 3 (nI (t + 1)) 84 = upd (M 84) t k := by rw [z_st_ne (by decide), z_st_ne (by decide), z_st_ne (by decide), z_st_at]
    have q85 : z_st (z_st (z_st (z_st M 84 t k) 85 t b) 86 t n) 83 3 (nI (t + 1)) 85 = upd (M 85) t b := by rw [z_st_ne (by decide), z_st_ne (by decide), z_st_at, z_st_ne (by decide)]
    have q86 : z_st (z_st (z_st (z_st M 84 t k) 85 t b) 86 t n) 83 3 (nI (t + 1)) 86 = upd (M 86) t n := by rw [z_st_ne (by decide), z_st_at, z_st_ne (by decide), z_st_ne (by decide)]
    have q83 : z_st (z_st (z_st (z_st M 84 t k) 85 t b) 86 t n) 83 3 (nI (t + 1)) 83 3 = nI (t + 1) := z_st_v _ _ _ _
    have fo : ∀ c, c ≠ 83 → c ≠ 84 → c ≠ 85 → c ≠ 86 → z_st (z_st (z_st (z_st M 84 t k) 85 t b) 86 t n) 83 3 (nI (t + 1)) c = M c := fun c c0 c1 c2 c3 => by rw [z_st_ne c0, z_st_ne c3, z_st_ne c2, z_st_ne c1]
    generalize z_st (z_st (z_st (z_st M 84 t k) 85 t b) 86 t n) 83 3 (nI (t + 1)) = M1 at e9 q84 q85 q86 q83 fo ⊢
    have ex1 : (∃ i, i < t ∧ z_th M1 127 128 129 k b n i) → (∃ i, i < t ∧ z_th M 127 128 129 k b n i) := fun ⟨i, hi, h⟩ => ⟨i, hi, by unfold z_th at h ⊢; rw [e9 127 (by omega), e9 128 (by omega), e9 129 (by omega)] at h; exact h⟩
    refine C_X10_thing (d := 28) (t := t) (by rw [e9 99 (by omega)]; exact t2) t3 (fun z => absurd hg z) (fun _ z => absurd (ex.mpr (ex1 z)) he) (fun _ _ z => absurd h6 (by omega)) (fun _ _ _ => ?_)
    have v : ∀ c, (((1 ≤ c ∧ c ≤ 2) ∨ (20 ≤ c ∧ c < 64) ∨ (70 ≤ c ∧ c ≤ 86) ∨ (89 ≤ c ∧ c ≤ 98) ∨ c = 100 ∨ (104 ≤ c ∧ c ≤ 108) ∨ (113 ≤ c ∧ c ≤ 115) ∨ (121 ≤ c ∧ c ≤ 123) ∨ (125 ≤ c ∧ c ≤ 129) ∨ c = 131 ∨ (133 ≤ c ∧ c ≤ 135)) ∧ ¬ (83 ≤ c ∧ c ≤ 86) ∧ ¬ (127 ≤ c ∧ c ≤ 129)) → z_st (z_st (z_st (z_st M1 127 t k) 128 t b) 129 t n) 99 34 (nI (t + 1)) c = M c := fun c hc => by rw [z_st_ne (by omega), z_st_ne (by omega), z_st_ne (by omega), z_st_ne (by omega)]; exact fo c (by omega) (by omega) (by omega) (by omega)
    have v9 : ∀ j, j ≠ 34 → z_st (z_st (z_st (z_st M1 127 t k) 128 t b) 129 t n) 99 34 (nI (t + 1)) 99 j = M 99 j := fun j hj => by rw [z_st_o hj, z_st_ne (by decide), z_st_ne (by decide), z_st_ne (by decide), e9 99 (by omega)]
    have v0 : ∀ j, j ≠ 100 → z_st (z_st (z_st (z_st M1 127 t k) 128 t b) 129 t n) 99 34 (nI (t + 1)) 0 j = M 0 j := fun j _ => by rw [z_st_ne (by decide), z_st_ne (by decide), z_st_ne (by decide), z_st_ne (by decide), fo 0 (by decide) (by decide) (by decide) (by decide)]
    refine h2 _ ⟨i1.fr (fun c c1 c2 => v c (by omega)) (fun c c1 c2 => v c (by omega)), i2.fr (v 1 (by omega)) (v 2 (by omega)) (v9 1 (by decide)) (v 100 (by omega)), i3.fr (v 59 (by omega)) (v9 16 (by decide)) (v 61 (by omega)) (v 62 (by omega)) (v 63 (by omega)) (v 113 (by omega)) (v 114 (by omega)) (v 115 (by omega)), i4.fr (v 70 (by omega)) (v 72 (by omega)) (v 73 (by omega)) (v 74 (by omega)) (v 75 (by omega)) (v9 25 (by decide)) (v 121 (by omega)) (v 122 (by omega)) (v 123 (by omega)), i5.fr (fun c c1 c2 => v c (by omega)) (v 125 (by omega)) (v 126 (by omega)), ?_, i7.fr (v0 14 (by decide)) (v0 15 (by decide)) (v9 32 (by decide)) (v9 33 (by decide)), i8.fr (v0 13 (by decide)) (v9 39 (by decide)) (v 89 (by omega)) (v 131 (by omega)), i9.fr (fun c c1 c2 => v c (by omega)) (fun c c1 c2 => v c (by omega))⟩
    obtain ⟨z1, z2, z3, z4, z5, z6⟩ := hg
    unfold z_tl at z4
    unfold z_nl at z6
    obtain ⟨kk, hk, rfl, hk2⟩ := z_nI (v := k) (n := 2) z1 z2
    obtain ⟨bb, hb, rfl, hb2⟩ := z_nI (v := b) (n := 11) z3 (by split at z4 <;> omega)
    obtain ⟨nn, hn, rfl, hn2⟩ := z_nI (v := n) (n := 7) z5 (by (repeat' split at z6) <;> omega)
    refine ⟨t + 1, fun j => if j = t then kk else tk j, fun j => if j = t then bb else tt j, fun j => if j = t then nn else tn j, ?_, z_st_v _ _ _ _, by omega, fun j hj => ?_, fun j hj => ?_⟩
    · rw [z_st_ne (by decide), z_st_ne (by decide), z_st_ne (by decide), z_st_ne (by decide)]; exact q83
    · have a84 : z_st (z_st (z_st (z_st M1 127 t (nI kk)) 128 t (nI bb)) 129 t (nI nn)) 99 34 (nI (t + 1)) 84 = upd (M 84) t (nI kk) := by rw [z_st_ne (by decide), z_st_ne (by decide), z_st_ne (by decide), z_st_ne (by decide)]; exact q84
      have a85 : z_st (z_st (z_st (z_st M1 127 t (nI kk)) 128 t (nI bb)) 129 t (nI nn)) 99 34 (nI (t + 1)) 85 = upd (M 85) t (nI bb) := by rw [z_st_ne (by decide), z_st_ne (by decide), z_st_ne (by decide), z_st_ne (by decide)]; exact q85
      have a86 : z_st (z_st (z_st (z_st M1 127 t (nI kk)) 128 t (nI bb)) 129 t (nI nn)) 99 34 (nI (t + 1)) 86 = upd (M 86) t (nI nn) := by rw [z_st_ne (by decide), z_st_ne (by decide), z_st_ne (by decide), z_st_ne (by decide)]; exact q86
      have b7 : z_st (z_st (z_st (z_st M1 127 t (nI kk)) 128 t (nI bb)) 129 t (nI nn)) 99 34 (nI (t + 1)) 127 = upd (M 127) t (nI kk) := by rw [z_st_ne (by decide), z_st_ne (by decide), z_st_ne (by decide), z_st_at, e9 127 (by omega)]
      have b8 : z_st (z_st (z_st (z_st M1 127 t (nI kk)) 128 t (nI bb)) 129 t (nI nn)) 99 34 (nI (t + 1)) 128 = upd (M 128) t (nI bb) := by rw [z_st_ne (by decide), z_st_ne (by decide), z_st_at, z_st_ne (by decide), e9 128 (by omega)]
      have b9 : z_st (z_st (z_st (z_st M1 127 t (nI kk)) 128 t (nI bb)) 129 t (nI nn)) 99 34 (nI (t + 1)) 129 = upd (M 129) t (nI nn) := by rw [z_st_ne (by decide), z_st_at, z_st_ne (by decide), z_st_ne (by decide), e9 129 (by omega)]
      rw [a84, a85, a86, b7, b8, b9]
      by_cases e : j = t
      · subst e; simp only [if_true, z_upd_at]; exact ⟨trivial, trivial, trivial, trivial, trivial, trivial⟩
      · simp only [if_neg e, z_upd_ne e]; exact t4 j (by omega)
    · by_cases e : j = t
      · subst e
        simp only [if_true]
        refine ⟨by omega, by omega, by omega, fun z => ?_⟩
        rw [if_pos (by omega)] at z6
        omega
      · simp only [if_neg e]; exact t5 j (by omega)
theorem P_give (hI : Inv m0 m1 md M) {s : Int32} (hQ : ∀ x a' b' c' M1, z_R l g yX10_give cX10_give 3 [.ref 99, .int s] x a' b' c' M1 → Q x (ZS a' b' c') M1) : AMet l g yX9_give cX9_give 2 (some .int) 29 0 0 [.ref 0, .int s] (ZS m0 m1 md) M (z_Qi Q) := by
  obtain ⟨i1, i2, i3, ⟨L, kd, tk, nb, hB, hG, hS⟩, ⟨kc, hK⟩, i6, i7, i8, i9⟩ := id hI
  have i4 := hI.2.2.2.1
  have h48 := hB.2.1
  refine C_X9_give (d := 27) hB.1 hB.2.1 (fun hb => hQ _ m0 m1 md M (fun Q2 h2 => ?_)) (fun k hk e1 => hQ _ m0 m1 md _ (fun Q2 h2 => ?_))
  · exact C_X10_give (d := 28) hG.1 hG.2.1 (fun _ => h2 M hI) (fun k hk e1 => absurd (by rw [e1, z_tt (by omega)]; omega) hb)
  · subst e1
    have f1 : ∀ c, c ≠ 77 + 2 * k → c ≠ 78 + 2 * k → z_row (z_st M (77 + 2 * k) 1 (nI L)) (78 + 2 * k) (va_cpy (M 75) (M (78 + 2 * k)) 0 0 L) c = M c := fun c c1 c2 => by rw [z_row_ne _ c2, z_st_ne c1]
    have g1 : z_row (z_st M (77 + 2 * k) 1 (nI L)) (78 + 2 * k) (va_cpy (M 75) (M (78 + 2 * k)) 0 0 L) (77 + 2 * k) 1 = nI L := by rw [z_row_ne _ (by omega), z_st_v]
    have g2 : ∀ i, i < L → z_row (z_st M (77 + 2 * k) 1 (nI L)) (78 + 2 * k) (va_cpy (M 75) (M (78 + 2 * k)) 0 0 L) (78 + 2 * k) i = M 75 i := fun i hi => by rw [z_row_at, pk_cpy_in (by omega) (by omega)]; congr 1; omega
    generalize z_row (z_st M (77 + 2 * k) 1 (nI L)) (78 + 2 * k) (va_cpy (M 75) (M (78 + 2 * k)) 0 0 L) = M1 at f1 g1 g2 ⊢
    have kk : ∀ c, 99 ≤ c → M1 c = M c := fun c hc => f1 c (by omega) (by omega)
    refine C_X10_give (d := 28) (L := L) (by rw [kk 99 (by omega)]; exact hG.1) h48 (fun z => absurd (by rw [z_tt (by omega)]; omega) z) (fun k' hk' e1 M2 f2 g3 g4 g5 => ?_)
    have q := z_nIi (by omega) (by omega) e1
    subst q
    have v : ∀ c, (((1 ≤ c ∧ c ≤ 2) ∨ (20 ≤ c ∧ c < 64) ∨ (70 ≤ c ∧ c ≤ 86) ∨ (89 ≤ c ∧ c ≤ 98) ∨ c = 100 ∨ (104 ≤ c ∧ c ≤ 108) ∨ (113 ≤ c ∧ c ≤ 115) ∨ (121 ≤ c ∧ c ≤ 123) ∨ (125 ≤ c ∧ c ≤ 129) ∨ c = 131 ∨ (133 ≤ c ∧ c ≤ 135)) ∧ ¬ (77 ≤ c ∧ c ≤ 82) ∧ ¬ (125 ≤ c ∧ c ≤ 126)) → M2 c = M c := fun c hc => by rw [f2 c (by omega) (by omega) (by omega), f1 c (by omega) (by omega)]
    have v9 : ∀ j, j ≠ 100 → M2 99 j = M 99 j := fun j _ => by rw [f2 99 (by decide) (by decide) (by decide), kk 99 (by omega)]
    have v0 : ∀ j, j ≠ 100 → M2 0 j = M 0 j := fun j _ => by rw [f2 0 (by decide) (by decide) (by decide), f1 0 (by omega) (by omega)]
    refine h2 M2 ⟨i1.fr (fun c c1 c2 => v c (by omega)) (fun c c1 c2 => v c (by omega)), i2.fr (v 1 (by omega)) (v 2 (by omega)) (v9 1 (by decide)) (v 100 (by omega)), i3.fr (v 59 (by omega)) (v9 16 (by decide)) (v 61 (by omega)) (v 62 (by omega)) (v 63 (by omega)) (v 113 (by omega)) (v 114 (by omega)) (v 115 (by omega)), i4.fr (v 70 (by omega)) (v 72 (by omega)) (v 73 (by omega)) (v 74 (by omega)) (v 75 (by omega)) (v9 25 (by decide)) (v 121 (by omega)) (v 122 (by omega)) (v 123 (by omega)), ?_, i6.fr (fun c c1 c2 => v c (by omega)) (v9 34 (by decide)) (fun c c1 c2 => v c (by omega)), i7.fr (v0 14 (by decide)) (v0 15 (by decide)) (v9 32 (by decide)) (v9 33 (by decide)), i8.fr (v0 13 (by decide)) (v9 39 (by decide)) (v 89 (by omega)) (v 131 (by omega)), i9.fr (fun c c1 c2 => v c (by omega)) (fun c c1 c2 => v c (by omega))⟩
    refine ⟨fun j => if j = k then L else kc j, fun j hj => ?_⟩
    obtain ⟨q1, q2, q3, q4⟩ := hK j hj
    rw [f2 (77 + 2 * j) (by omega) (by omega) (by omega), f2 (78 + 2 * j) (by omega) (by omega) (by omega), g3]
    by_cases e : j = k
    · subst e
      simp only [if_true, z_upd_at]
      refine ⟨g1, trivial, h48, fun i hi => ?_⟩
      rw [g2 i hi, g4 i hi, kk 121 (by omega), kk 122 (by omega), kk 123 (by omega)]
      exact (P_held hB hG hS hK hi).2
    · simp only [if_neg e, z_upd_ne e]
      rw [f1 (77 + 2 * j) (by omega) (by omega), f1 (78 + 2 * j) (by omega) (by omega), kk 125 (by omega)]
      refine ⟨q1, q2, q3, fun i hi => ?_⟩
      rw [q4 i hi, g5 _ (by omega), kk 126 (by omega)]
end PAIR3
