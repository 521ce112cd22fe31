/-! PAIRS: the class's method and then the reference's, over the invariant. -/
def z_R (l : Launch) (g : zG) (y : MethodName) (cc : ByteArray) (nL : Nat) (av : List Value) (r : Int32) (m0 m1 md : Nat) (M1 : zM) : Prop := ∀ Q2 : Int32 → zS → zM → Prop, (∀ M2, Inv m0 m1 md M2 → Q2 r (ZS m0 m1 md) M2) → AMet l g y cc nL (some .int) 29 0 0 av (ZS m0 m1 md) M1 (z_Qi Q2)
theorem z_tt {a : Nat} (h : a < 1000) : (nI a).toInt = (a : Int) := z_ti (by omega)
theorem z_sA5 {M M' : zM} (h : ∀ c, c ≠ 65 → c ≠ 66 → c ≠ 67 → c ≠ 68 → c ≠ 69 → M' c = M c) : ∀ c, ¬ z_scr c → M' c = M c := fun c hc => h c (fun e => hc (by unfold z_scr; omega)) (fun e => hc (by unfold z_scr; omega)) (fun e => hc (by unfold z_scr; omega)) (fun e => hc (by unfold z_scr; omega)) (fun e => hc (by unfold z_scr; omega))
theorem z_sA6 {M M' : zM} (h : ∀ c, c ≠ 65 → c ≠ 66 → c ≠ 67 → c ≠ 68 → c ≠ 69 → c ≠ 87 → M' c = M c) : ∀ c, ¬ z_scr c → M' c = M c := fun c hc => h c (fun e => hc (by unfold z_scr; omega)) (fun e => hc (by unfold z_scr; omega)) (fun e => hc (by unfold z_scr; omega)) (fun e => hc (by unfold z_scr; omega)) (fun e => hc (by unfold z_scr; omega)) (fun e => hc (by unfold z_scr; omega))
theorem z_sB5 {M M' : zM} (h : ∀ c, c ≠ 116 → c ≠ 117 → c ≠ 118 → c ≠ 119 → c ≠ 120 → M' c = M c) : ∀ c, ¬ z_scr c → M' c = M c := fun c hc => h c (fun e => hc (by unfold z_scr; omega)) (fun e => hc (by unfold z_scr; omega)) (fun e => hc (by unfold z_scr; omega)) (fun e => hc (by unfold z_scr; omega)) (fun e => hc (by unfold z_scr; omega))
theorem z_sB6 {M M' : zM} (h : ∀ c, c ≠ 116 → c ≠ 117 → c ≠ 118 → c ≠ 119 → c ≠ 120 → c ≠ 130 → M' c = M c) : ∀ c, ¬ z_scr c → M' c = M c := fun c hc => h c (fun e => hc (by unfold z_scr; omega)) (fun e => hc (by unfold z_scr; omega)) (fun e => hc (by unfold z_scr; omega)) (fun e => hc (by unfold z_scr; omega)) (fun e => hc (by unfold z_scr; omega)) (fun e => hc (by unfold z_scr; omega))
theorem z_s1 {M M' : zM} {k : Nat} (hk : z_scr k) (h : ∀ c, c ≠ k → M' c = M c) : ∀ c, ¬ z_scr c → M' c = M c := fun c hc => h c (fun e => hc (by rw [e]; exact hk))
theorem z_pr15 {n : Nat} {mk : Nat → Nat} (h : ∀ r, r < n → mk r < 4) : z_pr0 n 15 mk = fun _ => true := by
  funext j
  unfold z_pr0
  by_cases hj : j < n
  · have h4 := h j hj
    have : ∀ k, k < 4 → Nat.testBit 15 k = true := by decide
    rw [decide_eq_true hj, this _ h4]; rfl
  · rw [decide_eq_false hj]; rfl
section PAIR1
variable {l : Launch} {g : zG} {m0 m1 md : Nat} {M : zM} {Q : Int32 → zS → zM → Prop}
theorem P_rule (hI : Inv m0 m1 md M) {m r w : Int32} (hQ : ∀ x a b c M1, z_R l g yX10_rule cX10_rule 5 [.ref 99, .int m, .int r, .int w] x a b c M1 → Q x (ZS a b c) M1) : AMet l g yX9_rule cX9_rule 5 (some .int) 29 0 0 [.ref 0, .int m, .int r, .int w] (ZS m0 m1 md) M (z_Qi Q) := by
  obtain ⟨⟨hb0, hb1, hbd, d1, d2, d3, ns, Hs, As, Ns, Ks, h⟩, -⟩ := id hI
  refine C_X9_rule (d := 27) hb0 hb1 (ns := ns) (fun m hm => ⟨(h m hm).1.1, (h m hm).1.2.1⟩) (hQ _ m0 m1 md M (fun Q2 h2 => ?_))
  have e : f_rule M m0 m1 m r w = g_rule M m r w := by
    unfold f_rule g_rule
    by_cases c1 : 0 ≤ m.toInt ∧ m.toInt ≤ 1
    · have nc1 := not_not_intro c1
      rw [if_neg nc1, if_neg nc1]
      obtain ⟨a, ha, rfl, ha2⟩ := z_nI (v := m) (n := 1) c1.1 c1.2
      obtain ⟨k1, k2, k3⟩ := h a (by omega)
      have h8 := k1.2.1
      rw [nI_clamp (n := a) (by omega), k1.1, k2.1]
      by_cases c2 : 0 ≤ r.toInt ∧ r.toInt ≤ (nI (ns a)).toInt - 1
      · have nc2 := not_not_intro c2
        rw [if_neg nc2, if_neg nc2]
        rw [z_ti (by omega)] at c2
        obtain ⟨b, hb, rfl, hb2⟩ := z_nI (v := r) (n := 7) c2.1 (by omega)
        by_cases c3 : 0 ≤ w.toInt ∧ w.toInt ≤ 2
        · have nc3 := not_not_intro c3
          rw [if_neg nc3, if_neg nc3]
          obtain ⟨c, hc, rfl, hc2⟩ := z_nI (v := w) (n := 2) c3.1 c3.2
          rw [nI_clamp (n := b) (by omega), nI_clamp (n := c) (by omega)]
          have hbn : b < ns a := by omega
          obtain ⟨q1, q2, q3, -⟩ := k1.2.2 b hbn
          obtain ⟨p1, p2, p3, -⟩ := k2.2.2 b hbn
          rcases (show c = 0 ∨ c = 1 ∨ c = 2 by omega) with rfl | rfl | rfl
          · exact (k3 b hbn).1.trans (k3 b hbn).2.1.symm
          · exact q2.trans p2.symm
          · exact q3.trans p3.symm
        · rw [if_pos c3, if_pos c3]
      · rw [if_pos c2, if_pos c2]
    · rw [if_pos c1, if_pos c1]
  rw [e] at h2
  exact C_X10_rule (d := 27) (ns := ns) (fun m hm => ⟨(h m hm).2.1.1, (h m hm).2.1.2.1⟩) (h2 M hI)
theorem P_chooses (hI : Inv m0 m1 md M) {m s i t : Int32} (hQ : ∀ x a b c M1, z_R l g yX10_chooses cX10_chooses 5 [.ref 99, .int m, .int s, .int i, .int t] x a b c M1 → Q x (ZS a b c) M1) : AMet l g yX9_chooses cX9_chooses 5 (some .int) 29 0 0 [.ref 0, .int m, .int s, .int i, .int t] (ZS m0 m1 md) M (z_Qi Q) := by
  obtain ⟨⟨hb0, hb1, hbd, d1, d2, d3, ns, Hs, As, Ns, Ks, h⟩, -⟩ := id hI
  refine C_X9_chooses (d := 27) hb0 hb1 (ns := ns) (Hs := Hs) (As := As) (Ns := Ns) (fun m hm => (h m hm).1) (fun hb => hQ _ m0 m1 md M (fun Q2 h2 => ?_)) (fun a b c e e1 e2 e3 e4 l1 l2 l3 l4 => hQ _ m0 m1 md M (fun Q2 h2 => ?_))
  · exact C_X10_chooses (d := 27) (ns := ns) (Hs := Hs) (As := As) (Ns := Ns) (fun m hm => (h m hm).2.1) (fun _ => h2 M hI) (fun a b c e e1 e2 e3 e4 l1 l2 l3 l4 => absurd (by rw [e1, e2, e3, e4, z_tt (by omega), z_tt (by omega), z_tt (by omega), z_tt (by omega)]; omega) hb)
  · subst e1; subst e2; subst e3; subst e4
    refine C_X10_chooses (d := 27) (ns := ns) (Hs := Hs) (As := As) (Ns := Ns) (fun m hm => (h m hm).2.1) (fun hb => absurd (by rw [z_tt (by omega), z_tt (by omega), z_tt (by omega), z_tt (by omega)]; omega) hb) (fun a' b' c' e' e1 e2 e3 e4 l1 l2 l3 l4 => ?_)
    have q1 := z_nIi (by omega) (by omega) e1
    have q2 := z_nIi (by omega) (by omega) e2
    have q3 := z_nIi (by omega) (by omega) e3
    have q4 := z_nIi (by omega) (by omega) e4
    subst q1; subst q2; subst q3; subst q4
    exact h2 M hI
theorem P_play (hI : Inv m0 m1 md M) {m t w : Int32} (hQ : ∀ x a b c M1, z_R l g yX10_play cX10_play 4 [.ref 99, .int m, .int t, .int w] x a b c M1 → Q x (ZS a b c) M1) : AMet l g yX9_play cX9_play 4 (some .int) 29 0 0 [.ref 0, .int m, .int t, .int w] (ZS m0 m1 md) M (z_Qi Q) := by
  obtain ⟨⟨hb0, hb1, hbd, d1, d2, d3, ns, Hs, As, Ns, Ks, h⟩, -, ⟨T, sg, lt, ms, w1, w2, w3, w4, w5⟩, -⟩ := id hI
  have wf : ∀ t, t < 12 → M 61 t = nI (sg t) ∧ M 62 t = nI (lt t) ∧ sg t < 16 ∧ lt t < 2 := fun t ht => ⟨(w5 t ht).1, (w5 t ht).2.1, (w5 t ht).2.2.2.2.2.2.1, (w5 t ht).2.2.2.2.2.2.2.1⟩
  have wg : ∀ t, t < 12 → M 113 t = nI (sg t) ∧ M 114 t = nI (lt t) ∧ sg t < 16 ∧ lt t < 2 := fun t ht => ⟨(w5 t ht).2.2.2.1, (w5 t ht).2.2.2.2.1, (w5 t ht).2.2.2.2.2.2.1, (w5 t ht).2.2.2.2.2.2.2.1⟩
  refine C_X9_play (d := 26) w1 w3 w4 hb0 hb1 (ns := ns) (Hs := Hs) (As := As) (Ns := Ns) (fun m hm => (h m hm).1) wf (fun hb => hQ _ m0 m1 md M (fun Q2 h2 => ?_)) (fun a b c e1 e2 e3 l1 l2 l3 M1 f1 => hQ _ m0 m1 md M1 (fun Q2 h2 => ?_))
  · exact C_X10_play (d := 27) w2 w3 w4 (ns := ns) (Hs := Hs) (As := As) (Ns := Ns) (fun m hm => (h m hm).2.1) wg (fun _ => h2 M hI) (fun a b c e1 e2 e3 l1 l2 l3 => absurd (by rw [e1, e2, e3, z_tt (by omega), z_tt (by omega), z_tt (by omega)]; omega) hb)
  · subst e1; subst e2; subst e3
    have hI1 := hI.scr (z_sA5 f1)
    have k : ∀ c, 99 ≤ c → M1 c = M c := fun c hc => f1 c (by omega) (by omega) (by omega) (by omega) (by omega)
    refine C_X10_play (d := 27) (by rw [k 99 (by omega)]; exact w2) w3 w4 (ns := ns) (Hs := Hs) (As := As) (Ns := Ns) (fun m hm => g_mach_frame (fun c c1 c2 => k c (by omega)) (h m hm).2.1) (by rw [k 113 (by omega), k 114 (by omega)]; exact wg) (fun hb => absurd (by rw [z_tt (by omega), z_tt (by omega), z_tt (by omega)]; omega) hb) (fun a' b' c' e1 e2 e3 l1 l2 l3 M2 f2 => ?_)
    have q1 := z_nIi (by omega) (by omega) e1
    have q2 := z_nIi (by omega) (by omega) e2
    have q3 := z_nIi (by omega) (by omega) e3
    subst q1; subst q2; subst q3
    exact h2 M2 (hI1.scr (z_sB5 f2))
theorem P_kept (hI : Inv m0 m1 md M) {k i : Int32} (hQ : ∀ x a b c M1, z_R l g yX10_kept cX10_kept 3 [.ref 99, .int k, .int i] x a b c M1 → Q x (ZS a b c) M1) : AMet l g yX9_kept cX9_kept 3 (some .int) 29 0 0 [.ref 0, .int k, .int i] (ZS m0 m1 md) M (z_Qi Q) := by
  obtain ⟨-, -, -, -, ⟨kc, h⟩, -⟩ := id hI
  refine C_X9_kept (d := 27) (hQ _ m0 m1 md M (fun Q2 h2 => ?_))
  have e : f_kept M k i = g_kept M k i := by
    unfold f_kept g_kept
    by_cases c1 : 0 ≤ k.toInt ∧ k.toInt ≤ 2
    · have nc1 := not_not_intro c1
      rw [if_neg nc1, if_neg nc1]
      obtain ⟨a, ha, rfl, ha2⟩ := z_nI (v := k) (n := 2) c1.1 c1.2
      obtain ⟨k1, k2, k3, k4⟩ := h a (by omega)
      rw [nI_clamp (n := a) (by omega), k1, k2]
      by_cases c2 : 0 ≤ i.toInt ∧ i.toInt ≤ 47
      · have nc2 := not_not_intro c2
        rw [if_neg nc2, if_neg nc2]
        obtain ⟨b, hb, rfl, hb2⟩ := z_nI (v := i) (n := 47) c2.1 c2.2
        rw [nI_clamp (n := b) (by omega), z_ti (n := kc a) (by omega)]
        by_cases c3 : (nI b).toInt < (kc a : Int)
        · rw [if_pos c3, if_pos c3, k4 b (by omega)]
        · rw [if_neg c3, if_neg c3]
      · rw [if_pos c2, if_pos c2]
    · rw [if_pos c1, if_pos c1]
  rw [e] at h2
  exact C_X10_kept (d := 28) (h2 M hI)
theorem z_cnt_congr {P P' : Nat → Bool} : ∀ n, (∀ i, i < n → P i = P' i) → z_cnt P n = z_cnt P' n
  | 0, _ => rfl
  | n + 1, h => by
    unfold z_cnt
    rw [z_cnt_congr n (fun i hi => h i (by omega)), h n (by omega)]
theorem P_held {L : Nat} {kd tk nb kc : Nat → Nat} (hB : f_bk M L kd tk nb) (hG : g_bk M L kd tk nb) (hS : ∀ i, i < L → M 75 i = z_sealF (M 72) (M 73) (M 74) (i + 1)) (hK : ∀ k, k < 3 → M (77 + 2 * k) 1 = nI (kc k) ∧ M 125 k = nI (kc k) ∧ kc k ≤ 48 ∧ ∀ i, i < kc k → M (78 + 2 * k) i = M 126 (48 * k + i)) {a : Nat} (ha : a < L) : f_held M kc a = g_held M kc (fun i => z_sealF (M 121) (M 122) (M 123) (i + 1)) a ∧ M 75 a = z_sealF (M 121) (M 122) (M 123) (a + 1) := by
  have e0 : M 75 a = z_sealF (M 121) (M 122) (M 123) (a + 1) := by
    rw [hS a ha]
    refine z_sealF_congr (a + 1) (fun i hi => ?_)
    obtain ⟨p1, p2, p3, -⟩ := hB.2.2 i (by omega)
    obtain ⟨q1, q2, q3, -⟩ := hG.2.2 i (by omega)
    rw [p1, p2, p3, q1, q2, q3]; exact ⟨rfl, rfl, rfl⟩
  refine ⟨?_, e0⟩
  have e1 : z_cnt (f_ps M kc a) 3 = z_cnt (g_ps M kc (fun i => z_sealF (M 121) (M 122) (M 123) (i + 1)) a) 3 := by
    refine z_cnt_congr 3 (fun k hk => ?_)
    unfold f_ps g_ps
    by_cases c : a < kc k
    · rw [(hK k hk).2.2.2 a c, e0]
    · rw [decide_eq_false (fun z => c z.1), decide_eq_false (fun z => c z.1)]
  have e2 : z_cnt (f_ps M kc a) 3 ≤ z_cnt (z_pw kc) 3 := by
    refine z_cnt_mono 3 (fun k hk h => ?_)
    have := of_decide_eq_true h
    unfold z_pw
    exact decide_eq_true (by omega)
  unfold f_held g_held z_held
  rw [← e1]
  by_cases c : z_cnt (z_pw kc) 3 = 1
  · rw [if_pos c, if_pos c]
    by_cases c2 : z_cnt (f_ps M kc a) 3 = 1
    · rw [decide_eq_true c2, decide_eq_true (by omega)]
    · rw [decide_eq_false c2, decide_eq_false (by omega)]
  · rw [if_neg c, if_neg c]
theorem P_line (hI : Inv m0 m1 md M) {i w : Int32} (hQ : ∀ x a b c M1, z_R l g yX10_line cX10_line 3 [.ref 99, .int i, .int w] x a b c M1 → Q x (ZS a b c) M1) : AMet l g yX9_line cX9_line 3 (some .int) 29 0 0 [.ref 0, .int i, .int w] (ZS m0 m1 md) M (z_Qi Q) := by
  obtain ⟨-, -, -, ⟨L, kd, tk, nb, hB, hG, hS⟩, ⟨kc, hK⟩, -⟩ := id hI
  have h48 := hB.2.1
  refine C_X9_line (d := 27) hB.1 hB.2.1 (kc := kc) (fun k hk => ⟨(hK k hk).1, (hK k hk).2.2.1⟩) (fun hb => hQ _ m0 m1 md M (fun Q2 h2 => ?_)) (fun a c l1 l2 e1 e2 => hQ _ m0 m1 md M (fun Q2 h2 => ?_))
  · exact C_X10_line (d := 27) hG.1 hG.2.1 (kc := kc) (fun k hk => ⟨(hK k hk).2.1, (hK k hk).2.2.1⟩) (fun _ => h2 M hI) (fun a c l1 l2 e1 e2 => absurd (by rw [e1, e2, z_tt (by omega), z_tt (by omega)]; omega) hb)
  · subst e1; subst e2
    refine C_X10_line (d := 27) hG.1 hG.2.1 (kc := kc) (fun k hk => ⟨(hK k hk).2.1, (hK k hk).2.2.1⟩) (fun hb => absurd (by rw [z_tt (by omega), z_tt (by omega)]; omega) hb) (fun a' c' l1' l2' e1 e2 M2 f2 => ?_)
    have q1 := z_nIi (by omega) (by omega) e1
    have q2 := z_nIi (by omega) (by omega) e2
    subst q1; subst q2
    obtain ⟨y1, y2⟩ := P_held hB hG hS hK l1
    obtain ⟨p1, p2, p3, -⟩ := hB.2.2 a l1
    obtain ⟨q1, q2, q3, -⟩ := hG.2.2 a l1
    rw [← y1, ← y2, q1, q2, q3, ← p1, ← p2, ← p3]
    exact h2 M2 (hI.scr (z_s1 (by unfold z_scr; omega) f2))
theorem P_torn (hI : Inv m0 m1 md M) (hQ : ∀ x a b c M1, z_R l g yX10_torn cX10_torn 2 [.ref 99] x a b c M1 → Q x (ZS a b c) M1) : AMet l g yX9_torn cX9_torn 3 (some .int) 29 0 0 [.ref 0] (ZS m0 m1 md) M (z_Qi Q) := by
  obtain ⟨-, -, -, ⟨L, kd, tk, nb, hB, hG, hS⟩, ⟨kc, hK⟩, -⟩ := id hI
  have e : z_cnt (z_pw kc) 3 = 0 ↔ kc 0 + kc 1 + kc 2 = 0 := by
    unfold z_cnt z_cnt z_cnt z_cnt z_pw
    by_cases c0 : 0 < kc 0
    · simp [c0]; omega
    · by_cases c1 : 0 < kc 1
      · simp [c1]; omega
      · by_cases c2 : 0 < kc 2
        · simp [c2]; omega
        · simp [c0, c1, c2]; omega
  refine C_X9_torn (d := 28) hB.1 hB.2.1 (kc := kc) (fun k hk => ⟨(hK k hk).1, (hK k hk).2.2.1⟩) (fun hb => hQ _ m0 m1 md M (fun Q2 h2 => ?_)) (fun hb => hQ _ m0 m1 md M (fun Q2 h2 => ?_))
  · exact C_X10_torn (d := 28) hG.1 hG.2.1 (kc := kc) (fun k hk => ⟨(hK k hk).2.1, (hK k hk).2.2.1⟩) (fun _ => h2 M hI) (fun z => absurd (e.mp hb) z)
  · refine C_X10_torn (d := 28) hG.1 hG.2.1 (kc := kc) (fun k hk => ⟨(hK k hk).2.1, (hK k hk).2.2.1⟩) (fun z => absurd (e.mpr z) hb) (fun _ M2 f2 => ?_)
    have e2 : z_fnd (fun i => !g_held M kc (fun i => z_sealF (M 121) (M 122) (M 123) (i + 1)) i) 0 L = z_fnd (fun i => !f_held M kc i) 0 L := z_fnd_congr L 0 (fun i _ hi => by rw [(P_held hB hG hS hK (a := i) (by omega)).1])
    rw [e2]
    exact h2 M2 (hI.scr (z_s1 (by unfold z_scr; omega) f2))
theorem P_count (hI : Inv m0 m1 md M) {w : Int32} (hQ : ∀ x a b c M1, z_R l g yX10_count cX10_count 4 [.ref 99, .int w] x a b c M1 → Q x (ZS a b c) M1) : AMet l g yX9_count cX9_count 2 (some .int) 29 0 0 [.ref 0, .int w] (ZS m0 m1 md) M (z_Qi Q) := by
  obtain ⟨⟨hb0, hb1, hbd, d1, d2, d3, ns, Hs, As, Ns, Ks, h⟩, -, ⟨T, sg, lt, ms, w1, w2, w3, w4, w5⟩, ⟨L, kd, tk, nb, hB, hG, hS⟩, -, ⟨t, tk', tt, tn, t1, t2, t3, t4, t5⟩, -⟩ := id hI
  refine C_X9_count (d := 28) hb0 hb1 hB.1 hB.2.1 (hQ _ m0 m1 md M (fun Q2 h2 => ?_))
  have e : f_count M m0 m1 L w = g_count M L w := by
    have e0 := (h 0 (by decide)).1.1.trans (h 0 (by decide)).2.1.1.symm
    have e1 := (h 1 (by decide)).1.1.trans (h 1 (by decide)).2.1.1.symm
    have e2 : z_cnt (z_lostP (M 72)) L = z_cnt (z_lostP (M 121)) L := z_cnt_congr L (fun i hi => by unfold z_lostP; rw [(hB.2.2 i hi).1, (hG.2.2 i hi).1])
    unfold f_count g_count
    rw [w1, w2, hB.1, hG.1, t1, t2, e2, show M m0 4 = M 104 0 from e0, show M m1 4 = M 104 1 from e1]
  rw [e] at h2
  exact C_X10_count (d := 29) hG.1 hG.2.1 (h2 M hI)
theorem P_differs (hI : Inv m0 m1 md M) (hQ : ∀ x a b c M1, z_R l g yX10_differs cX10_differs 4 [.ref 99] x a b c M1 → Q x (ZS a b c) M1) : AMet l g yX9_differs cX9_differs 3 (some .int) 29 0 0 [.ref 0] (ZS m0 m1 md) M (z_Qi Q) := by
  obtain ⟨⟨hb0, hb1, hbd, d1, d2, d3, ns, Hs, As, Ns, Ks, h⟩, -, ⟨T, sg, lt, ms, w1, w2, w3, w4, w5⟩, ⟨L, kd, tk, nb, hB, hG, hS⟩, -⟩ := id hI
  refine C_X9_differs (d := 27) w1 w4 hb0 (h 0 (by decide)).1 hB (sg := sg) (lt := lt) (fun t ht => ⟨(w5 t ht).1, (w5 t ht).2.1, (w5 t ht).2.2.2.2.2.2.1, (w5 t ht).2.2.2.2.2.2.2.1⟩) (fun M1 f1 => hQ _ m0 m1 md M1 (fun Q2 h2 => ?_))
  have hI1 := hI.scr (z_sA5 f1)
  have k : ∀ c, 99 ≤ c → M1 c = M c := fun c hc => f1 c (by omega) (by omega) (by omega) (by omega) (by omega)
  refine C_X10_differs (d := 27) (by rw [k 99 (by omega)]; exact w2) w4 (g_mach_frame (fun c c1 c2 => k c (by omega)) (h 0 (by decide)).2.1) (by unfold g_bk; rw [k 99 (by omega), k 121 (by omega), k 122 (by omega), k 123 (by omega)]; exact hG) (by rw [k 113 (by omega), k 114 (by omega)]; exact fun t ht => ⟨(w5 t ht).2.2.2.1, (w5 t ht).2.2.2.2.1, (w5 t ht).2.2.2.2.2.2.1, (w5 t ht).2.2.2.2.2.2.2.1⟩) (fun M2 f2 => h2 M2 (hI1.scr (z_sB5 f2)))
end PAIR1
