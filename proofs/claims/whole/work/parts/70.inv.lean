/-! THE INVARIANT: the class's cells against the reference's. -/
def I_m (m0 m1 md : Nat) (M : zM) : Prop := zMb m0 ∧ zMb m1 ∧ zMb md ∧ m0 ≠ m1 ∧ m0 ≠ md ∧ m1 ≠ md ∧ ∃ (ns : Nat → Nat) (Hs : Nat → Nat → Nat → Nat → Bool) (As : Nat → Nat → Nat) (Ns : Nat → Nat → Int32) (Ks : Nat → Nat → Nat), ∀ m, m < 2 → f_mach M (z_bs m0 m1 m) (ns m) (Hs m) (As m) (Ns m) ∧ g_mach M m (ns m) (Hs m) (As m) (Ns m) ∧ ∀ r, r < ns m → M (z_bs m0 m1 m + 1) r = nI (Ks m r) ∧ M 105 (8 * m + r) = nI (Ks m r) ∧ Ks m r < 4
def I_t (M : zM) : Prop := ∃ n tp, f_tp M n tp ∧ g_tp M n tp
def I_w (M : zM) : Prop := ∃ (T : Nat) (sg lt ms : Nat → Nat), M 59 1 = nI T ∧ M 99 16 = nI T ∧ 1 ≤ T ∧ T ≤ 12 ∧ ∀ t, t < 12 → M 61 t = nI (sg t) ∧ M 62 t = nI (lt t) ∧ M 63 t = nI (ms t) ∧ M 113 t = nI (sg t) ∧ M 114 t = nI (lt t) ∧ M 115 t = nI (ms t) ∧ sg t < 16 ∧ lt t < 2 ∧ ms t < 16
def I_b (M : zM) : Prop := ∃ (L : Nat) (kd tk nb : Nat → Nat), f_bk M L kd tk nb ∧ g_bk M L kd tk nb ∧ ∀ i, i < L → M 75 i = z_sealF (M 72) (M 73) (M 74) (i + 1)
def I_k (M : zM) : Prop := ∃ kc : Nat → Nat, ∀ k, k < 3 → M (77 + 2 * k) 1 = nI (kc k) ∧ M 125 k = nI (kc k) ∧ kc k ≤ 48 ∧ ∀ i, i < kc k → M (78 + 2 * k) i = M 126 (48 * k + i)
def I_h (M : zM) : Prop := ∃ (t : Nat) (tk tt tn : Nat → Nat), M 83 3 = nI t ∧ M 99 34 = nI t ∧ t ≤ 6 ∧ (∀ k, k < t → M 84 k = nI (tk k) ∧ M 85 k = nI (tt k) ∧ M 86 k = nI (tn k) ∧ M 127 k = nI (tk k) ∧ M 128 k = nI (tt k) ∧ M 129 k = nI (tn k)) ∧ z_tok t tk tt tn
def I_d (M : zM) : Prop := (M 0 14 = -4 ∧ M 99 33 = -4) ∨ ∃ a k, a < 4 ∧ k < 12 ∧ M 0 14 = nI a ∧ M 99 32 = nI a ∧ M 0 15 = nI k ∧ M 99 33 = nI k
def I_y (M : zM) : Prop := ∃ (h : Bool) (D : Nat → Nat → Nat → Bool), M 0 13 = z_bI h ∧ M 99 39 = z_bI h ∧ f_dut M D ∧ g_dut M D
def I_s1 (M : zM) (k : Nat) : Prop := ((M (91 + 2 * k) 1 = -4 ∧ M 133 k = -1) ∨ ∃ v, v < 3 ∧ M (91 + 2 * k) 1 = nI v ∧ M 133 k = nI v) ∧ (∃ z, z ≤ 48 ∧ M (91 + 2 * k) 2 = nI z ∧ M 134 k = nI z) ∧ (∀ i, i < 48 → M (92 + 2 * k) i = M 135 (48 * k + i)) ∧ (M 133 k = nI 0 → ∀ i, i < 48 → M 135 (48 * k + i) = nI 0 ∨ M 135 (48 * k + i) = nI 1)
def I_s (M : zM) : Prop := ∀ k, k < 4 → I_s1 M k
def Inv (m0 m1 md : Nat) (M : zM) : Prop := I_m m0 m1 md M ∧ I_t M ∧ I_w M ∧ I_b M ∧ I_k M ∧ I_h M ∧ I_d M ∧ I_y M ∧ I_s M
section FRAMES
variable {M M' : zM} {m0 m1 md : Nat}
theorem zMb_bs {m : Nat} (h0 : zMb m0) (h1 : zMb m1) : 20 ≤ z_bs m0 m1 m ∧ z_bs m0 m1 m + 13 ≤ 59 := by
  have a := zMb_lt h0
  have b := zMb_lt h1
  unfold z_bs; split <;> omega
theorem I_m.fr (hI : I_m m0 m1 md M) (h1 : ∀ c, 20 ≤ c → c < 59 → M' c = M c) (h2 : ∀ c, 104 ≤ c → c ≤ 108 → M' c = M c) : I_m m0 m1 md M' := by
  obtain ⟨a1, a2, a3, a4, a5, a6, ns, Hs, As, Ns, Ks, h⟩ := hI
  refine ⟨a1, a2, a3, a4, a5, a6, ns, Hs, As, Ns, Ks, fun m hm => ?_⟩
  obtain ⟨b1, b2, b3⟩ := h m hm
  have hb := zMb_bs (m := m) a1 a2
  exact ⟨f_mach_frame (zMa_b a1 a2) (fun c c1 c2 => h1 c (by omega) (by omega)) b1, g_mach_frame h2 b2, fun r hr => by rw [h1 _ (by omega) (by omega), h2 105 (by decide) (by decide)]; exact b3 r hr⟩
theorem I_t.fr (hI : I_t M) (h1 : M' 1 = M 1) (h2 : M' 2 = M 2) (h3 : M' 99 1 = M 99 1) (h4 : M' 100 = M 100) : I_t M' := by
  obtain ⟨n, tp, a, b⟩ := hI
  exact ⟨n, tp, a.fr h1 h2, b.fr h3 h4⟩
theorem I_w.fr (hI : I_w M) (h1 : M' 59 = M 59) (h2 : M' 99 16 = M 99 16) (h3 : M' 61 = M 61) (h4 : M' 62 = M 62) (h5 : M' 63 = M 63) (h6 : M' 113 = M 113) (h7 : M' 114 = M 114) (h8 : M' 115 = M 115) : I_w M' := by
  unfold I_w at hI ⊢
  rw [h1, h2, h3, h4, h5, h6, h7, h8]; exact hI
theorem I_b.fr (hI : I_b M) (h1 : M' 70 = M 70) (h2 : M' 72 = M 72) (h3 : M' 73 = M 73) (h4 : M' 74 = M 74) (h5 : M' 75 = M 75) (h6 : M' 99 25 = M 99 25) (h7 : M' 121 = M 121) (h8 : M' 122 = M 122) (h9 : M' 123 = M 123) : I_b M' := by
  unfold I_b f_bk g_bk at hI ⊢
  rw [h1, h2, h3, h4, h5, h6, h7, h8, h9]; exact hI
theorem I_k.fr (hI : I_k M) (h1 : ∀ c, 77 ≤ c → c ≤ 82 → M' c = M c) (h2 : M' 125 = M 125) (h3 : M' 126 = M 126) : I_k M' := by
  obtain ⟨kc, h⟩ := hI
  exact ⟨kc, fun k hk => by rw [h1 (77 + 2 * k) (by omega) (by omega), h1 (78 + 2 * k) (by omega) (by omega), h2, h3]; exact h k hk⟩
theorem I_h.fr (hI : I_h M) (h1 : ∀ c, 83 ≤ c → c ≤ 86 → M' c = M c) (h2 : M' 99 34 = M 99 34) (h3 : ∀ c, 127 ≤ c → c ≤ 129 → M' c = M c) : I_h M' := by
  unfold I_h at hI ⊢
  rw [h1 83 (by decide) (by decide), h1 84 (by decide) (by decide), h1 85 (by decide) (by decide), h1 86 (by decide) (by decide), h2, h3 127 (by decide) (by decide), h3 128 (by decide) (by decide), h3 129 (by decide) (by decide)]; exact hI
theorem I_d.fr (hI : I_d M) (h1 : M' 0 14 = M 0 14) (h2 : M' 0 15 = M 0 15) (h3 : M' 99 32 = M 99 32) (h4 : M' 99 33 = M 99 33) : I_d M' := by
  unfold I_d at hI ⊢
  rw [h1, h2, h3, h4]; exact hI
theorem I_y.fr (hI : I_y M) (h1 : M' 0 13 = M 0 13) (h2 : M' 99 39 = M 99 39) (h3 : M' 89 = M 89) (h4 : M' 131 = M 131) : I_y M' := by
  unfold I_y f_dut g_dut at hI ⊢
  rw [h1, h2, h3, h4]; exact hI
theorem I_s.fr (hI : I_s M) (h1 : ∀ c, 91 ≤ c → c ≤ 98 → M' c = M c) (h2 : ∀ c, 133 ≤ c → c ≤ 135 → M' c = M c) : I_s M' := by
  intro k hk
  have h := hI k hk
  unfold I_s1 at h ⊢
  rw [h1 _ (by omega) (by omega), h1 (92 + 2 * k) (by omega) (by omega), h2 133 (by decide) (by decide), h2 134 (by decide) (by decide), h2 135 (by decide) (by decide)]; exact h
/-- cells that hold nothing between calls -/
def z_scr (c : Nat) : Prop := (3 ≤ c ∧ c ≤ 19) ∨ (64 ≤ c ∧ c ≤ 69) ∨ c = 87 ∨ c = 88 ∨ (101 ≤ c ∧ c ≤ 103) ∨ (109 ≤ c ∧ c ≤ 112) ∨ (116 ≤ c ∧ c ≤ 120) ∨ c = 124 ∨ c = 130 ∨ c = 132 ∨ c = 136
theorem Inv.fr (hI : Inv m0 m1 md M) (h : ∀ c, ¬ z_scr c → c ≠ 99 → M' c = M c) (h9 : ∀ j, j ≠ 2 → j ≠ 3 → M' 99 j = M 99 j) : Inv m0 m1 md M' := by
  obtain ⟨a1, a2, a3, a4, a5, a6, a7, a8, a9⟩ := hI
  have k : ∀ c, ((c ≤ 2) ∨ (20 ≤ c ∧ c < 64) ∨ (70 ≤ c ∧ c ≤ 86) ∨ (89 ≤ c ∧ c ≤ 98) ∨ c = 100 ∨ (104 ≤ c ∧ c ≤ 108) ∨ (113 ≤ c ∧ c ≤ 115) ∨ (121 ≤ c ∧ c ≤ 123) ∨ (125 ≤ c ∧ c ≤ 129) ∨ c = 131 ∨ (133 ≤ c ∧ c ≤ 135)) → M' c = M c := fun c hc => h c (by unfold z_scr; omega) (by omega)
  exact ⟨a1.fr (fun c c1 c2 => k c (by omega)) (fun c c1 c2 => k c (by omega)), a2.fr (k 1 (by omega)) (k 2 (by omega)) (h9 1 (by decide) (by decide)) (k 100 (by omega)),
    a3.fr (k 59 (by omega)) (h9 16 (by decide) (by decide)) (k 61 (by omega)) (k 62 (by omega)) (k 63 (by omega)) (k 113 (by omega)) (k 114 (by omega)) (k 115 (by omega)),
    a4.fr (k 70 (by omega)) (k 72 (by omega)) (k 73 (by omega)) (k 74 (by omega)) (k 75 (by omega)) (h9 25 (by decide) (by decide)) (k 121 (by omega)) (k 122 (by omega)) (k 123 (by omega)),
    a5.fr (fun c c1 c2 => k c (by omega)) (k 125 (by omega)) (k 126 (by omega)), a6.fr (fun c c1 c2 => k c (by omega)) (h9 34 (by decide) (by decide)) (fun c c1 c2 => k c (by omega)),
    a7.fr (by rw [k 0 (by omega)]) (by rw [k 0 (by omega)]) (h9 32 (by decide) (by decide)) (h9 33 (by decide) (by decide)), a8.fr (by rw [k 0 (by omega)]) (h9 39 (by decide) (by decide)) (k 89 (by omega)) (k 131 (by omega)), a9.fr (fun c c1 c2 => k c (by omega)) (fun c c1 c2 => k c (by omega))⟩
theorem Inv.scr (hI : Inv m0 m1 md M) (h : ∀ c, ¬ z_scr c → M' c = M c) : Inv m0 m1 md M' := hI.fr (fun c hc _ => h c hc) (fun j _ _ => by rw [h 99 (by unfold z_scr; omega)])
end FRAMES
theorem z_nIi {a b : Nat} (ha : a < 2 ^ 31) (hb : b < 2 ^ 31) (h : nI a = nI b) : a = b := by
  have := congrArg Int32.toInt h
  rw [z_ti ha, z_ti hb] at this
  omega
/-- the invariant behind the constructors -/
theorem z_dz (x : Nat) : (((Int32.toUInt32 0 >>> ((nI x).toUInt32 &&& Int32.toUInt32 31)).toInt32) &&& nI 1) = 0 ∨ 32 ≤ x := by
  rcases Nat.lt_or_ge x 32 with h | h
  · left
    have : ∀ x, x < 32 → (((Int32.toUInt32 0 >>> ((nI x).toUInt32 &&& Int32.toUInt32 31)).toInt32) &&& nI 1) = 0 := by decide +kernel
    exact this x h
  · exact Or.inr h
theorem Inv_0 : Inv 20 33 46 zMZ := by
  refine ⟨⟨Or.inl rfl, Or.inr (Or.inl rfl), Or.inr (Or.inr rfl), by decide, by decide, by decide, fun _ => 0, fun _ _ _ _ => false, fun _ _ => 0, fun _ _ => 0, fun _ _ => 0, fun m hm => ?_⟩, ⟨0, fun _ => 0, ⟨rfl, ⟨by decide, fun i hi => absurd hi (Nat.not_lt_zero _)⟩, fun i hi => absurd hi (Nat.not_lt_zero _)⟩, ⟨rfl, ⟨by decide, fun i hi => absurd hi (Nat.not_lt_zero _)⟩, fun i hi => absurd hi (Nat.not_lt_zero _)⟩⟩,
    ⟨4, fun _ => 0, fun _ => 0, fun _ => 15, rfl, rfl, by decide, by decide, fun t ht => ⟨rfl, rfl, ?_, rfl, rfl, ?_, show 0 < 16 by decide, show 0 < 2 by decide, show 15 < 16 by decide⟩⟩, ⟨0, fun _ => 0, fun _ => 0, fun _ => 0, ⟨rfl, by decide, fun i hi => absurd hi (Nat.not_lt_zero _)⟩, ⟨rfl, by decide, fun i hi => absurd hi (Nat.not_lt_zero _)⟩, fun i hi => absurd hi (Nat.not_lt_zero _)⟩,
    ⟨fun _ => 0, fun k hk => ?_⟩, ⟨0, fun _ => 0, fun _ => 0, fun _ => 0, rfl, rfl, by decide, fun k hk => absurd hk (Nat.not_lt_zero _), fun k hk => absurd hk (Nat.not_lt_zero _)⟩, Or.inl ⟨rfl, rfl⟩, ⟨false, fun _ _ _ => false, rfl, rfl, fun a st x ha hs hx => ?_, fun a st x ha hs hx => ?_⟩, fun k hk => ?_⟩
  · rcases (show m = 0 ∨ m = 1 by omega) with rfl | rfl
    · exact ⟨⟨rfl, Nat.zero_le _, fun r hr => absurd hr (Nat.not_lt_zero _)⟩, ⟨rfl, Nat.zero_le _, fun r hr => absurd hr (Nat.not_lt_zero _)⟩, fun r hr => absurd hr (Nat.not_lt_zero _)⟩
    · exact ⟨⟨rfl, Nat.zero_le _, fun r hr => absurd hr (Nat.not_lt_zero _)⟩, ⟨rfl, Nat.zero_le _, fun r hr => absurd hr (Nat.not_lt_zero _)⟩, fun r hr => absurd hr (Nat.not_lt_zero _)⟩
  · show (if t < 12 then nI 15 else 0) = nI 15
    rw [if_pos ht]
  · show (if t < 12 then nI 15 else 0) = nI 15
    rw [if_pos ht]
  · rcases (show k = 0 ∨ k = 1 ∨ k = 2 by omega) with rfl | rfl | rfl <;> exact ⟨rfl, rfl, Nat.zero_le _, fun i hi => absurd hi (Nat.not_lt_zero _)⟩
  · show (false = true ↔ ¬ ((((0 : Int32).toUInt32 >>> ((nI x).toUInt32 &&& Int32.toUInt32 31)).toInt32) &&& nI 1).toInt = 0)
    rcases z_dz x with h | h
    · rw [h]; decide
    · omega
  · show (false = true ↔ ¬ (0 : Int32).toInt = 0)
    decide
  · rcases (show k = 0 ∨ k = 1 ∨ k = 2 ∨ k = 3 by omega) with rfl | rfl | rfl | rfl <;> exact ⟨Or.inl ⟨rfl, rfl⟩, ⟨0, by decide, rfl, rfl⟩, fun i _ => rfl, fun _ i _ => Or.inl rfl⟩
