theorem z_uS0 (tk tt tn sg : Nat → Nat) : ∀ k, z_uS 0 tk tt tn sg k = sg
  | 0 => rfl
  | k + 1 => by
    funext t
    show (if Nat.testBit 0 k = true ∧ tk k = 0 ∧ t = tt k then _ else z_uS 0 tk tt tn sg k t) = sg t
    rw [if_neg (by rw [Nat.zero_testBit]; exact fun z => Bool.false_ne_true z.1), z_uS0 tk tt tn sg k]
theorem z_uL0 (tk tt lt : Nat → Nat) : ∀ k, z_uL 0 tk tt lt k = lt
  | 0 => rfl
  | k + 1 => by
    funext t
    show (if Nat.testBit 0 k = true ∧ tk k = 1 ∧ t = tt k then _ else z_uL 0 tk tt lt k t) = lt t
    rw [if_neg (by rw [Nat.zero_testBit]; exact fun z => Bool.false_ne_true z.1), z_uL0 tk tt lt k]
theorem z_uP0 (tk tn : Nat → Nat) (pr : Nat → Bool) : ∀ k, z_uP 0 tk tn pr k = pr
  | 0 => rfl
  | k + 1 => by
    funext r
    show (z_uP 0 tk tn pr k r && !(Nat.testBit 0 k && tk k == 2 && tn k == r)) = pr r
    rw [Nat.zero_testBit, z_uP0 tk tn pr k]
    simp
theorem z_ch_pr {n : Nat} {H : Nat → Nat → Nat → Bool} {pr pr' : Nat → Bool} (h : ∀ r, r < n → pr r = pr' r) (st x : Nat) : z_ch n H pr st x = z_ch n H pr' st x := z_fst_congr n 0 (fun i _ hi => by rw [h i (by omega)])
theorem z_ps_pr {n : Nat} {H : Nat → Nat → Nat → Bool} {N : Nat → Int32} {pr pr' : Nat → Bool} {x : Nat → Nat} (h : ∀ r, r < n → pr r = pr' r) : ∀ t, z_ps n H N pr x t = z_ps n H N pr' x t
  | 0 => rfl
  | t + 1 => by
    show z_nx n N (z_ch n H pr (z_ps n H N pr x t) (x t)) (z_ps n H N pr x t) = z_nx n N (z_ch n H pr' (z_ps n H N pr' x t) (x t)) (z_ps n H N pr' x t)
    rw [z_ps_pr h t, z_ch_pr h]
theorem z_oa_pr {n : Nat} {H : Nat → Nat → Nat → Bool} {A : Nat → Nat} {N : Nat → Int32} {sg lt : Nat → Nat} {pr pr' : Nat → Bool} (h : ∀ r, r < n → pr r = pr' r) (t : Nat) : z_oa n H A N sg lt pr t = z_oa n H A N sg lt pr' t := by
  unfold z_oa
  rw [z_ps_pr h t, z_ch_pr h]
theorem z_V {n : Nat} {H : Nat → Nat → Nat → Bool} {A : Nat → Nat} {N : Nat → Int32} {mk tk tt tn sg lt : Nat → Nat} {t : Nat} {a : Int32} {tick : Nat} : z_Vg n H A N mk tk tt tn sg lt t a tick = z_Vf n H A N mk sg lt a tick := by
  funext so
  unfold z_Vg z_Vf
  rw [z_uS0, z_uL0, z_uP0, z_oa_pr (pr := z_pr0 n so mk) (pr' := z_pr1 n so mk) (fun r hr => by unfold z_pr0 z_pr1; rw [decide_eq_true hr]; simp)]
theorem I_d.iff {M : zM} (hd : I_d M) {T : Nat} (hT : T ≤ 12) : ((M 0 14).toInt = -4 ∨ ¬ (0 ≤ (M 0 15).toInt ∧ (M 0 15).toInt < T)) ↔ ¬ (0 ≤ (M 99 33).toInt ∧ (M 99 33).toInt < T) := by
  rcases hd with ⟨e1, e2⟩ | ⟨a, k, ha, hk, e1, e2, e3, e4⟩
  · rw [e1, e2, z_m4]; omega
  · rw [e1, e3, e4, z_ti (by omega), z_ti (by omega)]; omega
theorem I_d.told {M : zM} (hd : I_d M) (h : ¬ (M 0 14).toInt = -4) : M 99 32 = M 0 14 ∧ M 99 33 = M 0 15 := by
  rcases hd with ⟨e1, e2⟩ | ⟨a, k, ha, hk, e1, e2, e3, e4⟩
  · rw [e1, z_m4] at h; exact absurd rfl h
  · rw [e1, e2, e3, e4]; exact ⟨rfl, rfl⟩
theorem Inv.wy {m0 m1 md : Nat} {M : zM} (hI : Inv m0 m1 md M) : ∃ (T n t : Nat) (H : Nat → Nat → Nat → Bool) (A : Nat → Nat) (N : Nat → Int32) (mk tk tt tn sg lt : Nat → Nat), f_wy M m0 T n t H A N mk tk tt tn sg lt ∧ g_wy M T n t H A N mk tk tt tn sg lt ∧ z_pr0 n 15 mk = fun _ => true := by
  obtain ⟨⟨hb0, hb1, hbd, d1, d2, d3, ns, Hs, As, Ns, Ks, h⟩, -, ⟨T, sg, lt, ms, w1, w2, w3, w4, w5⟩, -, -, ⟨t, tk, tt, tn, t1, t2, t3, t4, t5⟩, -⟩ := hI
  obtain ⟨k1, k2, k3⟩ := h 0 (by decide)
  refine ⟨T, ns 0, t, Hs 0, As 0, Ns 0, Ks 0, tk, tt, tn, sg, lt, ⟨w1, w3, w4, hb0, k1, fun r hr => ⟨(k3 r hr).1, (k3 r hr).2.2⟩, t1, t3, fun k hk => ⟨(t4 k hk).1, (t4 k hk).2.1, (t4 k hk).2.2.1⟩, t5, fun i hi => ⟨(w5 i hi).1, (w5 i hi).2.1, (w5 i hi).2.2.2.2.2.2.1, (w5 i hi).2.2.2.2.2.2.2.1⟩⟩, ⟨w2, w3, w4, k2, fun r hr => ⟨?_, (k3 r hr).2.2⟩, t2, t3, fun k hk => (t4 k hk).2.2.2, t5, fun i hi => ⟨(w5 i hi).2.2.2.1, (w5 i hi).2.2.2.2.1, (w5 i hi).2.2.2.2.2.2.1, (w5 i hi).2.2.2.2.2.2.2.1⟩⟩, z_pr15 (fun r hr => (k3 r hr).2.2)⟩
  have := (k3 r hr).2.1
  rw [show 8 * 0 + r = r by omega] at this
  exact this
section PAIR2
variable {l : Launch} {g : zG} {m0 m1 md : Nat} {M : zM} {Q : Int32 → zS → zM → Prop}
theorem P_because (hI : Inv m0 m1 md M) (hQ : ∀ x a b c M1, z_R l g yX10_because cX10_because 1 [.ref 99] x a b c M1 → Q x (ZS a b c) M1) : AMet l g yX9_because cX9_because 1 (some .int) 29 0 0 [.ref 0] (ZS m0 m1 md) M (z_Qi Q) := by
  obtain ⟨T, n, t, H, A, N, mk, tk, tt, tn, sg, lt, hf, hg, hp⟩ := hI.wy
  have hd := hI.2.2.2.2.2.2.1
  have hiff := hd.iff (T := T) hf.2.2.1
  refine C_X9_because (d := 23) hf (fun hn => hQ _ m0 m1 md M (fun Q2 h2 => ?_)) (fun tick e1 e2 e3 M1 f1 => hQ _ m0 m1 md M1 (fun Q2 h2 => ?_))
  · exact C_X10_because (d := 24) hg (fun _ => h2 M hI) (fun tick e4 e5 => absurd (by rw [e4, z_tt (by have := hf.2.2.1; omega)]; omega) (hiff.mp hn))
  · have hI1 := hI.scr (z_sA6 f1)
    have k : ∀ c, 99 ≤ c → M1 c = M c := fun c hc => f1 c (by omega) (by omega) (by omega) (by omega) (by omega) (by omega)
    have hT := hf.2.2.1
    obtain ⟨y1, y2⟩ := hd.told e1
    refine C_X10_because (d := 24) (g_wy_frame (fun c hc => k c (by omega)) hg) (fun hn => absurd (by rw [k 99 (by omega), y2, e2, z_tt (by omega)]; omega) hn) (fun tick' e4 e5 M2 f2 => ?_)
    rw [k 99 (by omega), y2, e2] at e4
    have q := z_nIi (by omega) (by omega) e4
    subst q
    rw [k 99 (by omega), y1, hp]
    exact h2 M2 (hI1.scr (z_sB6 f2))
theorem P_enough (hI : Inv m0 m1 md M) (hQ : ∀ x a b c M1, z_R l g yX10_enough cX10_enough 1 [.ref 99] x a b c M1 → Q x (ZS a b c) M1) : AMet l g yX9_enough cX9_enough 1 (some .int) 29 0 0 [.ref 0] (ZS m0 m1 md) M (z_Qi Q) := by
  obtain ⟨T, n, t, H, A, N, mk, tk, tt, tn, sg, lt, hf, hg, hp⟩ := hI.wy
  have hd := hI.2.2.2.2.2.2.1
  have hiff := hd.iff (T := T) hf.2.2.1
  refine C_X9_enough (d := 23) hf (fun hn => hQ _ m0 m1 md M (fun Q2 h2 => ?_)) (fun tick e1 e2 e3 M1 f1 => hQ _ m0 m1 md M1 (fun Q2 h2 => ?_))
  · exact C_X10_enough (d := 24) hg (fun _ => h2 M hI) (fun tick e4 e5 => absurd (by rw [e4, z_tt (by have := hf.2.2.1; omega)]; omega) (hiff.mp hn))
  · have hI1 := hI.scr (z_sA6 f1)
    have k : ∀ c, 99 ≤ c → M1 c = M c := fun c hc => f1 c (by omega) (by omega) (by omega) (by omega) (by omega) (by omega)
    have hT := hf.2.2.1
    obtain ⟨y1, y2⟩ := hd.told e1
    refine C_X10_enough (d := 24) (g_wy_frame (fun c hc => k c (by omega)) hg) (fun hn => absurd (by rw [k 99 (by omega), y2, e2, z_tt (by omega)]; omega) hn) (fun tick' e4 e5 M2 f2 => ?_)
    rw [k 99 (by omega), y2, e2] at e4
    have q := z_nIi (by omega) (by omega) e4
    subst q
    rw [k 99 (by omega), y1, hp]
    exact h2 M2 (hI1.scr (z_sB6 f2))
theorem P_sets (hI : Inv m0 m1 md M) {w : Int32} (hQ : ∀ x a b c M1, z_R l g yX10_sets cX10_sets 4 [.ref 99, .int w] x a b c M1 → Q x (ZS a b c) M1) : AMet l g yX9_sets cX9_sets 4 (some .int) 29 0 0 [.ref 0, .int w] (ZS m0 m1 md) M (z_Qi Q) := by
  obtain ⟨T, n, t, H, A, N, mk, tk, tt, tn, sg, lt, hf, hg, hp⟩ := hI.wy
  have hd := hI.2.2.2.2.2.2.1
  have hiff := hd.iff (T := T) hf.2.2.1
  have hT := hf.2.2.1
  refine C_X9_sets (d := 24) hf (fun hb => hQ _ m0 m1 md M (fun Q2 h2 => ?_)) (fun hw hn => hQ _ m0 m1 md M (fun Q2 h2 => ?_)) (fun wn tick e0 l0 e1 e2 e3 M1 f1 => hQ _ m0 m1 md M1 (fun Q2 h2 => ?_))
  · exact C_X10_sets (d := 25) hg (fun _ => h2 M hI) (fun z => absurd z hb) (fun wn tick e0 l0 e4 e5 => absurd (by rw [e0, z_tt (by omega)]; omega) hb)
  · exact C_X10_sets (d := 25) hg (fun z => absurd hw z) (fun _ _ => h2 M hI) (fun wn tick e0 l0 e4 e5 => absurd (by rw [e4, z_tt (by omega)]; omega) (hiff.mp hn))
  · subst e0
    have hI1 := hI.scr (z_sA6 f1)
    have k : ∀ c, 99 ≤ c → M1 c = M c := fun c hc => f1 c (by omega) (by omega) (by omega) (by omega) (by omega) (by omega)
    obtain ⟨y1, y2⟩ := hd.told e1
    refine C_X10_sets (d := 25) (g_wy_frame (fun c hc => k c (by omega)) hg) (fun z => absurd (by rw [z_tt (by omega)]; omega) z) (fun _ hn => absurd (by rw [k 99 (by omega), y2, e2, z_tt (by omega)]; omega) hn) (fun wn' tick' e0 l0' e4 e5 M2 f2 => ?_)
    rw [k 99 (by omega), y2, e2] at e4
    have q := z_nIi (by omega) (by omega) e4
    have q' := z_nIi (by omega) (by omega) e0
    subst q; subst q'
    rw [k 99 (by omega), y1, hp]
    exact h2 M2 (hI1.scr (z_sB6 f2))
theorem P_part (hI : Inv m0 m1 md M) {w : Int32} (hQ : ∀ x a b c M1, z_R l g yX10_part cX10_part 4 [.ref 99, .int w] x a b c M1 → Q x (ZS a b c) M1) : AMet l g yX9_part cX9_part 5 (some .int) 29 0 0 [.ref 0, .int w] (ZS m0 m1 md) M (z_Qi Q) := by
  obtain ⟨T, n, t, H, A, N, mk, tk, tt, tn, sg, lt, hf, hg, hp⟩ := hI.wy
  have hd := hI.2.2.2.2.2.2.1
  have hiff := hd.iff (T := T) hf.2.2.1
  have hT := hf.2.2.1
  refine C_X9_part (d := 25) hf (fun hb => hQ _ m0 m1 md M (fun Q2 h2 => ?_)) (fun hw hn => hQ _ m0 m1 md M (fun Q2 h2 => ?_)) (fun wn tick e0 l0 e1 e2 e3 M1 f1 => hQ _ m0 m1 md M1 (fun Q2 h2 => ?_))
  · exact C_X10_part (d := 26) hg (fun _ => h2 M hI) (fun z => absurd z hb) (fun wn tick e0 l0 e4 e5 => absurd (by rw [e0, z_tt (by omega)]; omega) hb)
  · exact C_X10_part (d := 26) hg (fun z => absurd hw z) (fun _ _ => h2 M hI) (fun wn tick e0 l0 e4 e5 => absurd (by rw [e4, z_tt (by omega)]; omega) (hiff.mp hn))
  · subst e0
    have hI1 := hI.scr (z_sA5 f1)
    have k : ∀ c, 99 ≤ c → M1 c = M c := fun c hc => f1 c (by omega) (by omega) (by omega) (by omega) (by omega)
    obtain ⟨y1, y2⟩ := hd.told e1
    refine C_X10_part (d := 26) (g_wy_frame (fun c hc => k c (by omega)) hg) (fun z => absurd (by rw [z_tt (by omega)]; omega) z) (fun _ hn => absurd (by rw [k 99 (by omega), y2, e2, z_tt (by omega)]; omega) hn) (fun wn' tick' e0 l0' e4 e5 M2 f2 => ?_)
    rw [k 99 (by omega), y2, e2] at e4
    have q := z_nIi (by omega) (by omega) e4
    have q' := z_nIi (by omega) (by omega) e0
    subst q; subst q'
    rw [k 99 (by omega), y1, z_V]
    exact h2 M2 (hI1.scr (z_sB5 f2))
theorem P_otherwise (hI : Inv m0 m1 md M) {w : Int32} (hQ : ∀ x a b c M1, z_R l g yX10_otherwise cX10_otherwise 2 [.ref 99, .int w] x a b c M1 → Q x (ZS a b c) M1) : AMet l g yX9_otherwise cX9_otherwise 2 (some .int) 29 0 0 [.ref 0, .int w] (ZS m0 m1 md) M (z_Qi Q) := by
  obtain ⟨T, n, t, H, A, N, mk, tk, tt, tn, sg, lt, hf, hg, hp⟩ := hI.wy
  have hd := hI.2.2.2.2.2.2.1
  have hiff := hd.iff (T := T) hf.2.2.1
  obtain ⟨a1, hT1, hT, a4, a5, a6, a7, a8, a9, a10, a11⟩ := hf
  have h64 : 2 ^ t ≤ 64 := by
    have : ∀ t, t ≤ 6 → 2 ^ t ≤ 64 := by decide
    exact this t a8
  have G : ∀ M1 : zM, (∀ c, 99 ≤ c → M1 c = M c) → g_wy M1 T n t H A N mk tk tt tn sg lt := fun M1 k => g_wy_frame (fun c hc => k c (by omega)) hg
  refine C_X9_otherwise (d := 25) a1 hT1 hT a4 a5 a11 a7 a8 a9 a10 (fun hb => hQ _ m0 m1 md M (fun Q2 h2 => ?_)) (fun hw hn => hQ _ m0 m1 md M (fun Q2 h2 => ?_)) (fun e tick e0 l0 e1 e2 e3 M1 f1 => hQ _ m0 m1 md M1 (fun Q2 h2 => ?_))
  · obtain ⟨b1, -, -, b4, b5, b6, -, b8, b9, b10⟩ := hg
    exact C_X10_otherwise (d := 26) b1 hT1 hT b4 b5 b6 a8 b8 b9 b10 (fun _ => h2 M hI) (fun z => absurd z hb) (fun wn tick e0 l0 e4 e5 => absurd (by rw [e0, z_tt (by omega)]; omega) hb)
  · obtain ⟨b1, -, -, b4, b5, b6, -, b8, b9, b10⟩ := hg
    exact C_X10_otherwise (d := 26) b1 hT1 hT b4 b5 b6 a8 b8 b9 b10 (fun z => absurd hw z) (fun _ _ => h2 M hI) (fun wn tick e0 l0 e4 e5 => absurd (by rw [e4, z_tt (by omega)]; omega) (hiff.mp hn))
  · subst e0
    have hI1 := hI.scr (z_sA5 f1)
    have k : ∀ c, 99 ≤ c → M1 c = M c := fun c hc => f1 c (by omega) (by omega) (by omega) (by omega) (by omega)
    obtain ⟨y1, y2⟩ := hd.told e1
    obtain ⟨b1, -, -, b4, b5, b6, -, b8, b9, b10⟩ := G M1 k
    refine C_X10_otherwise (d := 26) b1 hT1 hT b4 b5 b6 a8 b8 b9 b10 (fun z => absurd (by rw [z_tt (by omega)]; omega) z) (fun _ hn => absurd (by rw [k 99 (by omega), y2, e2, z_tt (by omega)]; omega) hn) (fun wn' tick' e0 l0' e4 e5 M2 f2 => ?_)
    rw [k 99 (by omega), y2, e2] at e4
    have q := z_nIi (by omega) (by omega) e4
    have q' := z_nIi (by omega) (by omega) e0
    subst q; subst q'
    rw [k 99 (by omega), y1, hp]
    exact h2 M2 (hI1.scr (z_sB5 f2))
theorem P_careful (hI : Inv m0 m1 md M) {k b : Int32} (hQ : ∀ x a b' c M1, z_R l g yX10_careful cX10_careful 4 [.ref 99, .int k, .int b] x a b' c M1 → Q x (ZS a b' c) M1) : AMet l g yX9_careful cX9_careful 3 (some .int) 29 0 0 [.ref 0, .int k, .int b] (ZS m0 m1 md) M (z_Qi Q) := by
  obtain ⟨⟨hb0, hb1, hbd, d1, d2, d3, ns, Hs, As, Ns, Ks, h⟩, -, ⟨T, sg, lt, ms, w1, w2, w3, w4, w5⟩, -⟩ := id hI
  obtain ⟨k1, k2, k3⟩ := h 1 (by decide)
  have wg : ∀ t, t < 12 → M 113 t = nI (sg t) ∧ M 114 t = nI (lt t) ∧ sg t < 16 ∧ lt t < 2 := fun t ht => ⟨(w5 t ht).2.2.2.1, (w5 t ht).2.2.2.2.1, (w5 t ht).2.2.2.2.2.2.1, (w5 t ht).2.2.2.2.2.2.2.1⟩
  have wm : ∀ t, t < 12 → M 115 t = nI (ms t) ∧ ms t < 16 := fun t ht => ⟨(w5 t ht).2.2.2.2.2.1, (w5 t ht).2.2.2.2.2.2.2.2⟩
  refine C_X9_careful (d := 27) w1 w3 w4 hb1 k1 (ms := ms) (sg := sg) (lt := lt) (fun t ht => ⟨(w5 t ht).2.2.1, (w5 t ht).2.2.2.2.2.2.2.2⟩) (fun t ht => ⟨(w5 t ht).1, (w5 t ht).2.1, (w5 t ht).2.2.2.2.2.2.1, (w5 t ht).2.2.2.2.2.2.2.1⟩) (fun hb => hQ _ m0 m1 md M (fun Q2 h2 => ?_)) (fun tick bn e1 l1 e2 l2 M1 f1 => hQ _ m0 m1 md M1 (fun Q2 h2 => ?_))
  · exact C_X10_careful (d := 27) w2 w3 w4 k2 wm wg (fun _ => h2 M hI) (fun tick bn e1 l1 e2 l2 => absurd (by rw [e1, e2, z_tt (by omega), z_tt (by omega)]; omega) hb)
  · subst e1; subst e2
    have hI1 := hI.scr (z_sA5 f1)
    have kk : ∀ c, 99 ≤ c → M1 c = M c := fun c hc => f1 c (by omega) (by omega) (by omega) (by omega) (by omega)
    refine C_X10_careful (d := 27) (by rw [kk 99 (by omega)]; exact w2) w3 w4 (g_mach_frame (fun c c1 c2 => kk c (by omega)) k2) (by rw [kk 115 (by omega)]; exact wm) (by rw [kk 113 (by omega), kk 114 (by omega)]; exact wg) (fun hb => absurd (by rw [z_tt (by omega), z_tt (by omega)]; omega) hb) (fun tick' bn' e1 l1' e2 l2' M2 f2 => ?_)
    have q1 := z_nIi (by omega) (by omega) e1
    have q2 := z_nIi (by omega) (by omega) e2
    subst q1; subst q2
    exact h2 M2 (hI1.scr (z_sB5 f2))
theorem P_saying (hI : Inv m0 m1 md M) {f s t : Int32} (hQ : ∀ x a b' c M1, z_R l g yX10_saying cX10_saying 8 [.ref 99, .int f, .int s, .int t] x a b' c M1 → Q x (ZS a b' c) M1) : AMet l g yX9_saying cX9_saying 7 (some .int) 29 0 0 [.ref 0, .int f, .int s, .int t] (ZS m0 m1 md) M (z_Qi Q) := by
  obtain ⟨⟨hb0, hb1, hbd, d1, d2, d3, ns, Hs, As, Ns, Ks, h⟩, -⟩ := id hI
  obtain ⟨k1, k2, k3⟩ := h 0 (by decide)
  refine C_X9_saying (d := 27) hb0 k1 (fun hb => hQ _ m0 m1 md M (fun Q2 h2 => ?_)) (fun k e1 l1 M1 f1 => hQ _ m0 m1 md M1 (fun Q2 h2 => ?_))
  · exact C_X10_saying (d := 27) k2 (fun _ => h2 M hI) (fun k e1 l1 => absurd (by rw [e1, z_tt (by omega)]; omega) hb)
  · subst e1
    have hI1 := hI.scr (z_s1 (by unfold z_scr; omega) f1)
    refine C_X10_saying (d := 27) (g_mach_frame (fun c c1 c2 => f1 c (by omega)) k2) (fun hb => absurd (by rw [z_tt (by omega)]; omega) hb) (fun k' e1 l1' => ?_)
    have q1 := z_nIi (by omega) (by omega) e1
    subst q1
    exact h2 M1 hI1
theorem P_broken (hI : Inv m0 m1 md M) (hQ : ∀ x a b' c M1, z_R l g yX10_broken cX10_broken 3 [.ref 99] x a b' c M1 → Q x (ZS a b' c) M1) : AMet l g yX9_broken cX9_broken 3 (some .int) 29 0 0 [.ref 0] (ZS m0 m1 md) M (z_Qi Q) := by
  obtain ⟨⟨hb0, hb1, hbd, d1, d2, d3, ns, Hs, As, Ns, Ks, h⟩, -, ⟨T, sg, lt, ms, w1, w2, w3, w4, w5⟩, -, -, -, -, ⟨hh, D, y1, y2, y3, y4⟩, -⟩ := id hI
  obtain ⟨k1, k2, k3⟩ := h 0 (by decide)
  have wg : ∀ t, t < 12 → M 113 t = nI (sg t) ∧ M 114 t = nI (lt t) ∧ sg t < 16 ∧ lt t < 2 := fun t ht => ⟨(w5 t ht).2.2.2.1, (w5 t ht).2.2.2.2.1, (w5 t ht).2.2.2.2.2.2.1, (w5 t ht).2.2.2.2.2.2.2.1⟩
  refine C_X9_broken (d := 26) w1 w4 hb0 k1 y3 (sg := sg) (lt := lt) (fun t ht => ⟨(w5 t ht).1, (w5 t ht).2.1, (w5 t ht).2.2.2.2.2.2.1, (w5 t ht).2.2.2.2.2.2.2.1⟩) (fun hb => hQ _ m0 m1 md M (fun Q2 h2 => ?_)) (fun hb M1 f1 => hQ _ m0 m1 md M1 (fun Q2 h2 => ?_))
  · exact C_X10_broken (d := 27) w2 w4 k2 y4 wg (fun _ => h2 M hI) (fun z => absurd (by rw [y2, ← y1]; exact hb) z)
  · have hI1 := hI.scr (z_sA5 f1)
    have kk : ∀ c, 99 ≤ c → M1 c = M c := fun c hc => f1 c (by omega) (by omega) (by omega) (by omega) (by omega)
    refine C_X10_broken (d := 27) (D := D) (by rw [kk 99 (by omega)]; exact w2) w4 (g_mach_frame (fun c c1 c2 => kk c (by omega)) k2) (by unfold g_dut; rw [kk 131 (by omega)]; exact y4) (by rw [kk 113 (by omega), kk 114 (by omega)]; exact wg) (fun z => absurd (by rw [y1, ← y2, ← kk 99 (by omega)]; exact z) hb) (fun _ M2 f2 => h2 M2 (hI1.scr (z_sB5 f2)))
theorem P_doing (hI : Inv m0 m1 md M) {a k : Int32} (hQ : ∀ x a' b' c M1, z_R l g yX10_doing cX10_doing 3 [.ref 99, .int a, .int k] x a' b' c M1 → Q x (ZS a' b' c) M1) : AMet l g yX9_doing cX9_doing 3 (some .int) 29 0 0 [.ref 0, .int a, .int k] (ZS m0 m1 md) M (z_Qi Q) := by
  obtain ⟨T, n, t, H, A, N, mk, tk, tt, tn, sg, lt, hf, hg, hp⟩ := hI.wy
  obtain ⟨a1, hT1, hT, a4, a5, a6, a7, a8, a9, a10, a11⟩ := hf
  have G : ∀ M1 : zM, (∀ c, 99 ≤ c → M1 c = M c) → g_wy M1 T n t H A N mk tk tt tn sg lt := fun M1 k => g_wy_frame (fun c hc => k c (by omega)) hg
  refine C_X9_doing (d := 25) a1 hT1 hT a4 a5 a11 a7 a8 a9 a10 (fun hb => hQ _ m0 m1 md M (fun Q2 h2 => ?_)) (fun tick e1 l1 l2 l3 M1 f1 g1 => hQ _ m0 m1 md M1 (fun Q2 h2 => ?_))
  · obtain ⟨b1, -, -, b4, b5, b6, -, b8, b9, b10⟩ := hg
    exact C_X10_doing (d := 26) b1 hT1 hT b4 b5 b6 a8 b8 b9 b10 (fun _ => h2 M hI) (fun tick e1 l1 l2 l3 => absurd (by rw [e1, z_tt (by omega)]; omega) hb)
  · subst e1
    have kk : ∀ c, 99 ≤ c → M1 c = M c := fun c hc => f1 c (by omega) (by omega) (by omega) (by omega) (by omega) (by omega)
    obtain ⟨b1, -, -, b4, b5, b6, -, b8, b9, b10⟩ := G M1 kk
    refine C_X10_doing (d := 26) b1 hT1 hT b4 b5 b6 a8 b8 b9 b10 (fun z => absurd (by rw [z_tt (by omega)]; omega) z) (fun tick' e4 l1' l2' l3' M2 f2 g2 => ?_)
    have q := z_nIi (by omega) (by omega) e4
    subst q
    rw [hp]
    obtain ⟨aa, ha, rfl, ha2⟩ := z_nI (v := a) (n := 3) l2 l3
    obtain ⟨i1, i2, i3, i4, i5, i6, i7, i8, i9⟩ := hI
    have w : ∀ c, c ≠ 0 → c ≠ 99 → ¬ z_scr c → M2 c = M c := fun c c0 c9 hc => by rw [f2 c c9 (fun e => hc (by unfold z_scr; omega)) (fun e => hc (by unfold z_scr; omega)) (fun e => hc (by unfold z_scr; omega)) (fun e => hc (by unfold z_scr; omega)) (fun e => hc (by unfold z_scr; omega)), f1 c c0 (fun e => hc (by unfold z_scr; omega)) (fun e => hc (by unfold z_scr; omega)) (fun e => hc (by unfold z_scr; omega)) (fun e => hc (by unfold z_scr; omega)) (fun e => hc (by unfold z_scr; omega))]
    have v : ∀ c, ((1 ≤ c ∧ c ≤ 2) ∨ (20 ≤ c ∧ c < 64) ∨ (70 ≤ c ∧ c ≤ 86) ∨ (89 ≤ c ∧ c ≤ 98) ∨ c = 100 ∨ (104 ≤ c ∧ c ≤ 108) ∨ (113 ≤ c ∧ c ≤ 115) ∨ (121 ≤ c ∧ c ≤ 123) ∨ (125 ≤ c ∧ c ≤ 129) ∨ c = 131 ∨ (133 ≤ c ∧ c ≤ 135)) → M2 c = M c := fun c hc => w c (by omega) (by omega) (by unfold z_scr; omega)
    have v9 : ∀ j, j ≠ 32 → j ≠ 33 → M2 99 j = M 99 j := fun j j1 j2 => by rw [g2, z_upd_ne j2, z_upd_ne j1, kk 99 (by omega)]
    have e0 : M2 0 = M1 0 := f2 0 (by decide) (by decide) (by decide) (by decide) (by decide) (by decide)
    refine h2 M2 ⟨i1.fr (fun c c1 c2 => v c (by omega)) (fun c c1 c2 => v c (by omega)), i2.fr (v 1 (by omega)) (v 2 (by omega)) (v9 1 (by decide) (by decide)) (v 100 (by omega)), i3.fr (v 59 (by omega)) (v9 16 (by decide) (by decide)) (v 61 (by omega)) (v 62 (by omega)) (v 63 (by omega)) (v 113 (by omega)) (v 114 (by omega)) (v 115 (by omega)), i4.fr (v 70 (by omega)) (v 72 (by omega)) (v 73 (by omega)) (v 74 (by omega)) (v 75 (by omega)) (v9 25 (by decide) (by decide)) (v 121 (by omega)) (v 122 (by omega)) (v 123 (by omega)), i5.fr (fun c c1 c2 => v c (by omega)) (v 125 (by omega)) (v 126 (by omega)), i6.fr (fun c c1 c2 => v c (by omega)) (v9 34 (by decide) (by decide)) (fun c c1 c2 => v c (by omega)), Or.inr ⟨aa, tick, by omega, by omega, ?_, ?_, ?_, ?_⟩, i8.fr ?_ (v9 39 (by decide) (by decide)) (v 89 (by omega)) (v 131 (by omega)), i9.fr (fun c c1 c2 => v c (by omega)) (fun c c1 c2 => v c (by omega))⟩
    · rw [e0, g1, z_upd_ne (by decide), z_upd_at]
    · rw [g2, z_upd_ne (by decide), z_upd_at]
    · rw [e0, g1, z_upd_at]
    · rw [g2, z_upd_at]
    · rw [e0, g1, z_upd_ne (by decide), z_upd_ne (by decide)]
end PAIR2
