theorem pp_st_le {tp : Nat → Nat} {n : Nat} : ∀ r, (pp_st tp n r).2 ≤ n
  | 0 => Nat.zero_le _
  | r + 1 => (pp_pass_le (tp := tp) (c := 59) (by decide) (pp_c_le (tp := tp) (pp_st_le r)).2.2.2.2.1).1
/-- a machine of the clauses that were read -/
def p_H (tp : Nat → Nat) (n r st x : Nat) : Bool := (pp_c2 tp n (pp_st tp n r)).2 st x
def p_A (tp : Nat → Nat) (n r : Nat) : Nat := (pp_c4 tp n (pp_st tp n r)).1
def p_N (tp : Nat → Nat) (n r : Nat) : Int32 := (pp_c6 tp n (pp_st tp n r)).1
def p_M (tp : Nat → Nat) (n r : Nat) : Nat := (pp_dig tp n (pp_st tp n r)).1
theorem z_newM {tp : Nat → Nat} {n b a K : Nat} {M : zM} (hK : K ≤ 8) (hf : M b 4 = nI K) (hr : f_ru tp n M b K) (hg : M 104 a = nI K) (hm : g_rm tp n M a K) : f_mach M b K (p_H tp n) (p_A tp n) (p_N tp n) ∧ g_mach M a K (p_H tp n) (p_A tp n) (p_N tp n) ∧ ∀ r, r < K → M (b + 1) r = nI (p_M tp n r) ∧ M 105 (8 * a + r) = nI (p_M tp n r) ∧ p_M tp n r < 4 := by
  have hc := fun r => pp_c_le (tp := tp) (pp_st_le (tp := tp) (n := n) r)
  refine ⟨⟨hf, hK, fun r h => ?_⟩, ⟨hg, hK, fun r h => ?_⟩, fun r h => ⟨(hr r h).1, (hm r h).1, (hc r).2.2.2.2.2.1⟩⟩
  · obtain ⟨q1, q2, q3, q4⟩ := hr r h
    refine ⟨(hc r).2.2.2.2.2.2.1, q2, q3, (hc r).2.2.2.2.2.2.2, fun st x hs hx => ?_⟩
    rw [pw_sh1 _ hx, q4 st hs x hx]
    exact Iff.rfl
  · obtain ⟨q1, q2, q3, q4⟩ := hm r h
    refine ⟨(hc r).2.2.2.2.2.2.1, q2, q3, (hc r).2.2.2.2.2.2.2, fun st x hs hx => ?_⟩
    rw [q4 (32 * st + x) (by omega), show (32 * st + x) / 32 = st by omega, show (32 * st + x) % 32 = x by omega]
    show (pp_c2 tp n (pp_st tp n r)).2 st x = true ↔ _
    cases (pp_c2 tp n (pp_st tp n r)).2 st x <;> decide
theorem z_oldM {M M' : zM} {b o a n : Nat} {H : Nat → Nat → Nat → Bool} {A : Nat → Nat} {N : Nat → Int32} {K : Nat → Nat} {v : Int32} (hb : zMb b) (ho : o < 2) (ha : a < 2) (hne : o ≠ a) (h : f_mach M b n H A N ∧ g_mach M o n H A N ∧ ∀ r, r < n → M (b + 1) r = nI (K r) ∧ M 105 (8 * o + r) = nI (K r) ∧ K r < 4) (h1 : ∀ c, b ≤ c → c < b + 13 → M' c = M c) (h2 : M' 104 = upd (M 104) a v) (h3 : ∀ t, ¬ (8 * a ≤ t ∧ t < 8 * a + 8) → M' 105 t = M 105 t ∧ M' 106 t = M 106 t ∧ M' 107 t = M 107 t) (h4 : ∀ t, ¬ (1024 * a ≤ t ∧ t < 1024 * a + 1024) → M' 108 t = M 108 t) : f_mach M' b n H A N ∧ g_mach M' o n H A N ∧ ∀ r, r < n → M' (b + 1) r = nI (K r) ∧ M' 105 (8 * o + r) = nI (K r) ∧ K r < 4 := by
  obtain ⟨k1, k2, k3⟩ := h
  have h8 := k1.2.1
  refine ⟨f_mach_frame hb h1 k1, ⟨by rw [h2, z_upd_ne hne]; exact k2.1, k2.2.1, fun r hr => ?_⟩, fun r hr => ?_⟩
  · obtain ⟨q1, q2, q3, q4, q5⟩ := k2.2.2 r hr
    obtain ⟨w1, w2, w3⟩ := h3 (8 * o + r) (by omega)
    refine ⟨q1, by rw [w2]; exact q2, by rw [w3]; exact q3, q4, fun st x hs hx => ?_⟩
    rw [h4 _ (by omega)]; exact q5 st x hs hx
  · rw [h1 (b + 1) (by omega) (by omega), (h3 (8 * o + r) (by omega)).1]; exact k3 r hr
theorem zMb_dis {a b : Nat} (ha : zMb a) (hb : zMb b) (h : a ≠ b) {c : Nat} (h1 : a ≤ c) (h2 : c < a + 13) : ¬ (b ≤ c ∧ c < b + 13) := by
  rcases ha with rfl | rfl | rfl <;> rcases hb with rfl | rfl | rfl <;> omega
section PAIR8
variable {l : Launch} {g : zG} {m0 m1 md : Nat} {M : zM} {Q : Int32 → zS → zM → Prop}
theorem I_m.fr2 {M' : zM} (hI : I_m m0 m1 md M) (h1 : ∀ c, ((m0 ≤ c ∧ c < m0 + 13) ∨ (m1 ≤ c ∧ c < m1 + 13)) → M' c = M c) (h2 : ∀ c, 104 ≤ c → c ≤ 108 → M' c = M c) : I_m m0 m1 md M' := by
  obtain ⟨a1, a2, a3, a4, a5, a6, ns, Hs, As, Ns, Ks, h⟩ := hI
  refine ⟨a1, a2, a3, a4, a5, a6, ns, Hs, As, Ns, Ks, fun m hm => ?_⟩
  obtain ⟨b1, b2, b3⟩ := h m hm
  have hh : ∀ c, z_bs m0 m1 m ≤ c → c < z_bs m0 m1 m + 13 → M' c = M c := fun c c1 c2 => h1 c (by unfold z_bs at c1 c2; exact (Classical.em (m = 0)).elim (fun e => by rw [if_pos e] at c1 c2; omega) (fun e => by rw [if_neg e] at c1 c2; omega))
  exact ⟨f_mach_frame (zMa_b a1 a2) hh b1, g_mach_frame h2 b2, fun r hr => by rw [hh _ (by omega) (by omega), h2 105 (by decide) (by decide)]; exact b3 r hr⟩
theorem P_rules (hI : Inv m0 m1 md M) {m : Int32} (hQ : ∀ x a' b' c' M1, z_R l g yX10_rules cX10_rules 6 [.ref 99, .int m] x a' b' c' M1 → Q x (ZS a' b' c') M1) : AMet l g yX9_rules cX9_rules 4 (some .int) 29 0 0 [.ref 0, .int m] (ZS m0 m1 md) M (z_Qi Q) := by
  obtain ⟨⟨hb0, hb1, hbd, d1, d2, d3, ns, Hs, As, Ns, Ks, h⟩, ⟨n, tp, hf, hg⟩, i3, i4, i5, i6, i7, i8, i9⟩ := id hI
  have i1 := hI.1
  have hl0 := zMb_lt hb0
  have hl1 := zMb_lt hb1
  have hld := zMb_lt hbd
  have hK := pp_st_run (tp := tp) (n := n) 7 0 (by omega) (Nat.zero_le _)
  have hK8 : (pp_K tp n).1 ≤ 8 := hK.2.1
  refine C_X9_rules (d := 6) hb0 hb1 hbd hf (fun hb => hQ _ m0 m1 md M (fun Q2 h2 => ?_)) (fun hm hE M1 f1 g1 => hQ _ m0 m1 md M1 (fun Q2 h2 => ?_)) (fun a ha em hE M1 f1 g1 g2 g3 => ?_)
  · exact C_X10_rules (d := 24) hg (fun _ => h2 M hI) (fun z => absurd z hb) (fun a ha em => absurd (by rw [em, z_tt (by omega)]; omega) hb)
  · have kk : ∀ c, 99 ≤ c → M1 c = M c := fun c hc => f1 c (by omega) (by omega)
    refine C_X10_rules (d := 24) (hg.fr (by rw [kk 99 (by omega)]) (kk 100 (by omega))) (fun z => absurd hm z) (fun _ _ M2 f2 g4 g5 => ?_) (fun a ha em hE' => absurd (hE'.symm.trans hE) Bool.false_ne_true)
    have lo : ∀ c, c < 99 → M2 c = M1 c := fun c hc => f2 c (by omega) (by omega) (by omega)
    have v : ∀ c, (((1 ≤ c ∧ c ≤ 2) ∨ (20 ≤ c ∧ c < 64) ∨ (70 ≤ c ∧ c ≤ 86) ∨ (89 ≤ c ∧ c ≤ 98) ∨ c = 100 ∨ (104 ≤ c ∧ c ≤ 108) ∨ (113 ≤ c ∧ c ≤ 115) ∨ (121 ≤ c ∧ c ≤ 123) ∨ (125 ≤ c ∧ c ≤ 129) ∨ c = 131 ∨ (133 ≤ c ∧ c ≤ 135)) ∧ c ≠ 1 ∧ c ≠ 2 ∧ ¬ (20 ≤ c ∧ c < 59)) → M2 c = M c := fun c hc => by rw [f2 c (by omega) (by omega) (by omega), f1 c (by omega) (by omega)]
    have v9 : ∀ j, (j ≠ 1 ∧ j ≠ 2 ∧ j ≠ 3) → M2 99 j = M 99 j := fun j hj => by rw [g4 j hj.1 hj.2.1 hj.2.2, kk 99 (by omega)]
    have v0 : ∀ j, j ≠ 100 → M2 0 j = M 0 j := fun j _ => by rw [lo 0 (by decide), f1 0 (by omega) (by omega)]
    refine h2 M2 ⟨?_, ?_, i3.fr (v 59 (by omega)) (v9 16 (by decide)) (v 61 (by omega)) (v 62 (by omega)) (v 63 (by omega)) (v 113 (by omega)) (v 114 (by omega)) (v 115 (by omega)), i4.fr (v 70 (by omega)) (v 72 (by omega)) (v 73 (by omega)) (v 74 (by omega)) (v 75 (by omega)) (v9 25 (by decide)) (v 121 (by omega)) (v 122 (by omega)) (v 123 (by omega)), i5.fr (fun c c1 c2 => v c (by omega)) (v 125 (by omega)) (v 126 (by omega)), i6.fr (fun c c1 c2 => v c (by omega)) (v9 34 (by decide)) (fun c c1 c2 => v c (by omega)), i7.fr (v0 14 (by decide)) (v0 15 (by decide)) (v9 32 (by decide)) (v9 33 (by decide)), i8.fr (v0 13 (by decide)) (v9 39 (by decide)) (v 89 (by omega)) (v 131 (by omega)), i9.fr (fun c c1 c2 => v c (by omega)) (fun c c1 c2 => v c (by omega))⟩
    · exact i1.fr2 (fun c hc => by
        rw [lo c (by omega), f1 c (by omega) (by rcases hc with hc | hc; exact zMb_dis hb0 hbd d2 hc.1 hc.2; exact zMb_dis hb1 hbd d3 hc.1 hc.2)]) (fun c c1 c2 => v c (by omega))
    · exact ⟨0, tp, ⟨by rw [lo 1 (by decide)]; exact g1, ⟨by decide, fun i hi => absurd hi (by omega)⟩, fun i hi => absurd hi (by omega)⟩, ⟨g5, ⟨by decide, fun i hi => absurd hi (by omega)⟩, fun i hi => absurd hi (by omega)⟩⟩
  · subst em
    have kk : ∀ c, 99 ≤ c → M1 c = M c := fun c hc => f1 c (by omega) (by omega)
    have R : ∀ (a0 a1 ad : Nat), (∀ M2, (∀ c, c ≠ 99 → ¬ (101 ≤ c ∧ c ≤ 112) → M2 c = M1 c) → (∀ j, j ≠ 1 → j ≠ 2 → j ≠ 3 → M2 99 j = M1 99 j) → M2 99 1 = nI 0 → M2 104 = upd (M 104) a (nI (pp_K tp n).1) → g_rm tp n M2 a (pp_K tp n).1 → (∀ t, ¬ (8 * a ≤ t ∧ t < 8 * a + 8) → M2 105 t = M 105 t ∧ M2 106 t = M 106 t ∧ M2 107 t = M 107 t) → (∀ t, ¬ (1024 * a ≤ t ∧ t < 1024 * a + 1024) → M2 108 t = M 108 t) → I_m a0 a1 ad M2) → z_R l g yX10_rules cX10_rules 6 [.ref 99, .int (nI a)] (pp_ans (pp_E tp n) (pp_K tp n).1) a0 a1 ad M1 := by
      intro a0 a1 ad hIm Q2 h2
      refine C_X10_rules (d := 24) (hg.fr (by rw [kk 99 (by omega)]) (kk 100 (by omega))) (fun z => absurd (by rw [z_tt (by omega)]; omega) z) (fun _ hE' => absurd (hE.symm.trans hE') Bool.false_ne_true) (fun a' ha' em' hE' M2 f2 g4 g5 g6 g7 g8 g9 => ?_)
      have q := z_nIi (by omega) (by omega) em'
      subst q
      rw [kk 104 (by omega)] at g6
      rw [kk 105 (by omega), kk 106 (by omega), kk 107 (by omega)] at g8
      rw [kk 108 (by omega)] at g9
      have lo : ∀ c, c < 99 → M2 c = M1 c := fun c hc => f2 c (by omega) (by omega)
      have v : ∀ c, (((1 ≤ c ∧ c ≤ 2) ∨ (20 ≤ c ∧ c < 64) ∨ (70 ≤ c ∧ c ≤ 86) ∨ (89 ≤ c ∧ c ≤ 98) ∨ c = 100 ∨ (104 ≤ c ∧ c ≤ 108) ∨ (113 ≤ c ∧ c ≤ 115) ∨ (121 ≤ c ∧ c ≤ 123) ∨ (125 ≤ c ∧ c ≤ 129) ∨ c = 131 ∨ (133 ≤ c ∧ c ≤ 135)) ∧ c ≠ 1 ∧ c ≠ 2 ∧ ¬ (20 ≤ c ∧ c < 59) ∧ ¬ (104 ≤ c ∧ c ≤ 108)) → M2 c = M c := fun c hc => by rw [f2 c (by omega) (by omega), f1 c (by omega) (by omega)]
      have v9 : ∀ j, (j ≠ 1 ∧ j ≠ 2 ∧ j ≠ 3) → M2 99 j = M 99 j := fun j hj => by rw [g4 j hj.1 hj.2.1 hj.2.2, kk 99 (by omega)]
      have v0 : ∀ j, j ≠ 100 → M2 0 j = M 0 j := fun j _ => by rw [lo 0 (by decide), f1 0 (by omega) (by omega)]
      refine h2 M2 ⟨?_, ?_, i3.fr (v 59 (by omega)) (v9 16 (by decide)) (v 61 (by omega)) (v 62 (by omega)) (v 63 (by omega)) (v 113 (by omega)) (v 114 (by omega)) (v 115 (by omega)), i4.fr (v 70 (by omega)) (v 72 (by omega)) (v 73 (by omega)) (v 74 (by omega)) (v 75 (by omega)) (v9 25 (by decide)) (v 121 (by omega)) (v 122 (by omega)) (v 123 (by omega)), i5.fr (fun c c1 c2 => v c (by omega)) (v 125 (by omega)) (v 126 (by omega)), i6.fr (fun c c1 c2 => v c (by omega)) (v9 34 (by decide)) (fun c c1 c2 => v c (by omega)), i7.fr (v0 14 (by decide)) (v0 15 (by decide)) (v9 32 (by decide)) (v9 33 (by decide)), i8.fr (v0 13 (by decide)) (v9 39 (by decide)) (v 89 (by omega)) (v 131 (by omega)), i9.fr (fun c c1 c2 => v c (by omega)) (fun c c1 c2 => v c (by omega))⟩
      · exact hIm M2 f2 g4 g5 g6 g7 g8 g9
      · exact ⟨0, tp, ⟨by rw [lo 1 (by decide)]; exact g1, ⟨by decide, fun i hi => absurd hi (by omega)⟩, fun i hi => absurd hi (by omega)⟩, ⟨g5, ⟨by decide, fun i hi => absurd hi (by omega)⟩, fun i hi => absurd hi (by omega)⟩⟩
    rcases (show a = 0 ∨ a = 1 by omega) with rfl | rfl
    · show Q _ (ZS md m1 m0) M1
      refine hQ _ md m1 m0 M1 (R md m1 m0 (fun M2 f2 g4 g5 g6 g7 g8 g9 => ?_))
      have lo : ∀ c, c < 99 → M2 c = M1 c := fun c hc => f2 c (by omega) (by omega)
      have nw := z_newM (tp := tp) (n := n) (b := md) (a := 0) (M := M2) hK8 (by rw [lo md (by omega)]; exact g2) (fun i hi => by rw [lo _ (by omega), lo _ (by omega), lo _ (by omega), lo _ (by omega)]; exact g3 i hi) (by rw [g6, z_upd_at]) g7
      have ol := z_oldM (M' := M2) hb1 (o := 1) (a := 0) (by decide) (by decide) (by decide) (h 1 (by decide)) (fun c c1 c2 => by
        have c1 : m1 ≤ c := c1
        have c2 : c < m1 + 13 := c2
        rw [lo c (by omega), f1 c (by omega) (zMb_dis hb1 hbd d3 c1 c2)]) g6 g8 g9
      refine ⟨hbd, hb1, hb0, d3.symm, d2.symm, d1.symm, fun m => if m = 0 then (pp_K tp n).1 else ns m, fun m => if m = 0 then p_H tp n else Hs m, fun m => if m = 0 then p_A tp n else As m, fun m => if m = 0 then p_N tp n else Ns m, fun m => if m = 0 then p_M tp n else Ks m, fun m hm => ?_⟩
      rcases (show m = 0 ∨ m = 1 by omega) with rfl | rfl
      · exact nw
      · exact ol
    · show Q _ (ZS m0 md m1) M1
      refine hQ _ m0 md m1 M1 (R m0 md m1 (fun M2 f2 g4 g5 g6 g7 g8 g9 => ?_))
      have lo : ∀ c, c < 99 → M2 c = M1 c := fun c hc => f2 c (by omega) (by omega)
      have nw := z_newM (tp := tp) (n := n) (b := md) (a := 1) (M := M2) hK8 (by rw [lo md (by omega)]; exact g2) (fun i hi => by rw [lo _ (by omega), lo _ (by omega), lo _ (by omega), lo _ (by omega)]; exact g3 i hi) (by rw [g6, z_upd_at]) g7
      have ol := z_oldM (M' := M2) hb0 (o := 0) (a := 1) (by decide) (by decide) (by decide) (h 0 (by decide)) (fun c c1 c2 => by
        have c1 : m0 ≤ c := c1
        have c2 : c < m0 + 13 := c2
        rw [lo c (by omega), f1 c (by omega) (zMb_dis hb0 hbd d2 c1 c2)]) g6 g8 g9
      refine ⟨hb0, hbd, hb1, d2, d1, d3.symm, fun m => if m = 1 then (pp_K tp n).1 else ns m, fun m => if m = 1 then p_H tp n else Hs m, fun m => if m = 1 then p_A tp n else As m, fun m => if m = 1 then p_N tp n else Ns m, fun m => if m = 1 then p_M tp n else Ks m, fun m hm => ?_⟩
      rcases (show m = 0 ∨ m = 1 by omega) with rfl | rfl
      · exact ol
      · exact nw
theorem P_duty (hI : Inv m0 m1 md M)  (hQ : ∀ x a' b' c' M1, z_R l g yX10_duty cX10_duty 2 [.ref 99] x a' b' c' M1 → Q x (ZS a' b' c') M1) : AMet l g yX9_duty cX9_duty 2 (some .int) 29 0 0 [.ref 0] (ZS m0 m1 md) M (z_Qi Q) := by
  obtain ⟨i1, ⟨n, tp, hf, hg⟩, i3, i4, i5, i6, i7, i8, i9⟩ := id hI
  refine C_X9_duty (d := 7) hf (fun hE M1 f1 g1 => hQ _ m0 m1 md M1 (fun Q2 h2 => ?_)) (fun hE M1 f1 g0 g13 g1 g2 => hQ _ m0 m1 md M1 (fun Q2 h2 => ?_))
  · have kk : ∀ c, 99 ≤ c → M1 c = M c := fun c hc => f1 c (by omega)
    refine C_X10_duty (d := 25) (hg.fr (by rw [kk 99 (by omega)]) (kk 100 (by omega))) (fun _ M2 f2 g4 g5 => ?_) (fun hE' => absurd (hE'.symm.trans hE) Bool.false_ne_true)
    have lo : ∀ c, c < 99 → M2 c = M1 c := fun c hc => f2 c (by omega) (by omega) (by omega)
    have v : ∀ c, (((1 ≤ c ∧ c ≤ 2) ∨ (20 ≤ c ∧ c < 64) ∨ (70 ≤ c ∧ c ≤ 86) ∨ (89 ≤ c ∧ c ≤ 98) ∨ c = 100 ∨ (104 ≤ c ∧ c ≤ 108) ∨ (113 ≤ c ∧ c ≤ 115) ∨ (121 ≤ c ∧ c ≤ 123) ∨ (125 ≤ c ∧ c ≤ 129) ∨ c = 131 ∨ (133 ≤ c ∧ c ≤ 135)) ∧ c ≠ 1 ∧ c ≠ 2) → M2 c = M c := fun c hc => by rw [f2 c (by omega) (by omega) (by omega), f1 c (by omega)]
    have v9 : ∀ j, (j ≠ 1 ∧ j ≠ 2 ∧ j ≠ 3) → M2 99 j = M 99 j := fun j hj => by rw [g4 j hj.1 hj.2.1 hj.2.2, kk 99 (by omega)]
    have v0 : ∀ j, j ≠ 100 → M2 0 j = M 0 j := fun j _ => by rw [lo 0 (by decide), f1 0 (by omega)]
    refine h2 M2 ⟨i1.fr (fun c c1 c2 => v c (by omega)) (fun c c1 c2 => v c (by omega)), ?_, i3.fr (v 59 (by omega)) (v9 16 (by decide)) (v 61 (by omega)) (v 62 (by omega)) (v 63 (by omega)) (v 113 (by omega)) (v 114 (by omega)) (v 115 (by omega)), i4.fr (v 70 (by omega)) (v 72 (by omega)) (v 73 (by omega)) (v 74 (by omega)) (v 75 (by omega)) (v9 25 (by decide)) (v 121 (by omega)) (v 122 (by omega)) (v 123 (by omega)), i5.fr (fun c c1 c2 => v c (by omega)) (v 125 (by omega)) (v 126 (by omega)), i6.fr (fun c c1 c2 => v c (by omega)) (v9 34 (by decide)) (fun c c1 c2 => v c (by omega)), i7.fr (v0 14 (by decide)) (v0 15 (by decide)) (v9 32 (by decide)) (v9 33 (by decide)), i8.fr (v0 13 (by decide)) (v9 39 (by decide)) (v 89 (by omega)) (v 131 (by omega)), i9.fr (fun c c1 c2 => v c (by omega)) (fun c c1 c2 => v c (by omega))⟩
    exact ⟨0, tp, ⟨by rw [lo 1 (by decide)]; exact g1, ⟨by decide, fun i hi => absurd hi (by omega)⟩, fun i hi => absurd hi (by omega)⟩, ⟨g5, ⟨by decide, fun i hi => absurd hi (by omega)⟩, fun i hi => absurd hi (by omega)⟩⟩
  · have kk : ∀ c, 99 ≤ c → M1 c = M c := fun c hc => f1 c (by omega) (by omega) (by omega)
    refine C_X10_duty (d := 25) (hg.fr (by rw [kk 99 (by omega)]) (kk 100 (by omega))) (fun hE' => absurd (hE.symm.trans hE') Bool.false_ne_true) (fun _ M2 f2 g4 g5 g6 g7 => ?_)
    have lo : ∀ c, c < 99 → M2 c = M1 c := fun c hc => f2 c (by omega) (by omega) (by omega) (by omega)
    have v : ∀ c, (((1 ≤ c ∧ c ≤ 2) ∨ (20 ≤ c ∧ c < 64) ∨ (70 ≤ c ∧ c ≤ 86) ∨ (89 ≤ c ∧ c ≤ 98) ∨ c = 100 ∨ (104 ≤ c ∧ c ≤ 108) ∨ (113 ≤ c ∧ c ≤ 115) ∨ (121 ≤ c ∧ c ≤ 123) ∨ (125 ≤ c ∧ c ≤ 129) ∨ c = 131 ∨ (133 ≤ c ∧ c ≤ 135)) ∧ c ≠ 1 ∧ c ≠ 2 ∧ c ≠ 89 ∧ c ≠ 131) → M2 c = M c := fun c hc => by rw [f2 c (by omega) (by omega) (by omega) (by omega), f1 c (by omega) (by omega) (by omega)]
    have v9 : ∀ j, (j ≠ 1 ∧ j ≠ 2 ∧ j ≠ 3 ∧ j ≠ 39) → M2 99 j = M 99 j := fun j hj => by rw [g4 j hj.1 hj.2.1 hj.2.2.1 hj.2.2.2, kk 99 (by omega)]
    have v0 : ∀ j, j ≠ 13 → M2 0 j = M 0 j := fun j hj => by rw [lo 0 (by decide), g0 j hj]
    refine h2 M2 ⟨i1.fr (fun c c1 c2 => v c (by omega)) (fun c c1 c2 => v c (by omega)), ?_, i3.fr (v 59 (by omega)) (v9 16 (by decide)) (v 61 (by omega)) (v 62 (by omega)) (v 63 (by omega)) (v 113 (by omega)) (v 114 (by omega)) (v 115 (by omega)), i4.fr (v 70 (by omega)) (v 72 (by omega)) (v 73 (by omega)) (v 74 (by omega)) (v 75 (by omega)) (v9 25 (by decide)) (v 121 (by omega)) (v 122 (by omega)) (v 123 (by omega)), i5.fr (fun c c1 c2 => v c (by omega)) (v 125 (by omega)) (v 126 (by omega)), i6.fr (fun c c1 c2 => v c (by omega)) (v9 34 (by decide)) (fun c c1 c2 => v c (by omega)), i7.fr (v0 14 (by decide)) (v0 15 (by decide)) (v9 32 (by decide)) (v9 33 (by decide)), ?_, i9.fr (fun c c1 c2 => v c (by omega)) (fun c c1 c2 => v c (by omega))⟩
    · exact ⟨0, tp, ⟨by rw [lo 1 (by decide)]; exact g1, ⟨by decide, fun i hi => absurd hi (by omega)⟩, fun i hi => absurd hi (by omega)⟩, ⟨g5, ⟨by decide, fun i hi => absurd hi (by omega)⟩, fun i hi => absurd hi (by omega)⟩⟩
    · refine ⟨true, fun a st x => (pp_T tp n true 5 (false, 0)).2 (4 * a + st) x, by rw [lo 0 (by decide)]; exact g13, g6, fun a st x ha hs hx => ?_, fun a st x ha hs hx => ?_⟩
      · rw [lo 89 (by decide), pw_sh0 _ hx, g2 (4 * a + st) (by omega) x hx]
      · rw [g7 (128 * a + (32 * st + x)) (by omega), show (128 * a + (32 * st + x)) / 128 = a by omega, show (128 * a + (32 * st + x)) % 128 / 32 = st by omega, show (128 * a + (32 * st + x)) % 32 = x by omega]
        show (pp_T tp n true 5 (false, 0)).2 (4 * a + st) x = true ↔ _
        generalize (pp_T tp n true 5 (false, 0)).2 (4 * a + st) x = bb
        cases bb <;> decide
end PAIR8
