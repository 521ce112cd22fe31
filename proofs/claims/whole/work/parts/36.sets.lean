def z_W (pr : Nat → Bool) (n : Nat) (H : Nat → Nat → Nat → Bool) (A : Nat → Nat) (N : Nat → Int32) (tk tt tn sg lt : Nat → Nat) (t : Nat) (a : Int32) (tick s : Nat) : Bool := decide (a.toInt = (z_oa n H A N (z_uS s tk tt tn sg t) (z_uL s tk tt lt t) (z_uP s tk tn pr t) tick : Int))
def z_bI (b : Bool) : Int32 := if b then nI 1 else nI 0
theorem z_bI_ti (b : Bool) : (z_bI b).toInt = if b then 1 else 0 := by cases b <;> decide
def g_wy (M : zM) (T n t : Nat) (H : Nat → Nat → Nat → Bool) (A : Nat → Nat) (N : Nat → Int32) (mk tk tt tn sg lt : Nat → Nat) : Prop := M 99 16 = nI T ∧ 1 ≤ T ∧ T ≤ 12 ∧ g_mach M 0 n H A N ∧ (∀ r, r < n → M 105 r = nI (mk r) ∧ mk r < 4) ∧ M 99 34 = nI t ∧ t ≤ 6 ∧ (∀ k, k < t → M 127 k = nI (tk k) ∧ M 128 k = nI (tt k) ∧ M 129 k = nI (tn k)) ∧ z_tok t tk tt tn ∧ (∀ i, i < 12 → M 113 i = nI (sg i) ∧ M 114 i = nI (lt i) ∧ sg i < 16 ∧ lt i < 2)
def f_wy (M : zM) (m0 T n t : Nat) (H : Nat → Nat → Nat → Bool) (A : Nat → Nat) (N : Nat → Int32) (mk tk tt tn sg lt : Nat → Nat) : Prop := M 59 1 = nI T ∧ 1 ≤ T ∧ T ≤ 12 ∧ zMb m0 ∧ f_mach M m0 n H A N ∧ (∀ r, r < n → M (m0 + 1) r = nI (mk r) ∧ mk r < 4) ∧ M 83 3 = nI t ∧ t ≤ 6 ∧ (∀ k, k < t → M 84 k = nI (tk k) ∧ M 85 k = nI (tt k) ∧ M 86 k = nI (tn k)) ∧ z_tok t tk tt tn ∧ (∀ i, i < 12 → M 61 i = nI (sg i) ∧ M 62 i = nI (lt i) ∧ sg i < 16 ∧ lt i < 2)
section SETS
variable {l : Launch} {g : zG} {d m0 m1 md : Nat} {M : zM} {T n t : Nat} {H : Nat → Nat → Nat → Bool} {A : Nat → Nat} {N : Nat → Int32} {mk tk tt tn sg lt : Nat → Nat}
theorem g_wy_frame {M' : zM} (h : ∀ c, c = 99 ∨ (104 ≤ c ∧ c ≤ 108) ∨ c = 113 ∨ c = 114 ∨ (127 ≤ c ∧ c ≤ 129) → M' c = M c) (hw : g_wy M T n t H A N mk tk tt tn sg lt) : g_wy M' T n t H A N mk tk tt tn sg lt := by
  unfold g_wy g_mach at hw ⊢
  rw [h 99 (by omega), h 104 (by omega), h 105 (by omega), h 106 (by omega), h 107 (by omega), h 108 (by omega), h 113 (by omega), h 114 (by omega), h 127 (by omega), h 128 (by omega), h 129 (by omega)]
  exact hw
theorem f_wy_frame {M' : zM} (h : ∀ c, c = 59 ∨ (20 ≤ c ∧ c < 59) ∨ c = 61 ∨ c = 62 ∨ (83 ≤ c ∧ c ≤ 86) → M' c = M c) (hw : f_wy M m0 T n t H A N mk tk tt tn sg lt) : f_wy M' m0 T n t H A N mk tk tt tn sg lt := by
  obtain ⟨w1, w2, w3, w4, w5, w6, w7, w8, w9, w10, w11⟩ := hw
  have hbl := zMb_lt w4
  have hbg : 20 ≤ m0 := by unfold zMb at w4; omega
  refine ⟨by rw [h 59 (by omega)]; exact w1, w2, w3, w4, f_mach_frame w4 (fun c c1 c2 => h c (by omega)) w5, by rw [h (m0 + 1) (by omega)]; exact w6, by rw [h 83 (by omega)]; exact w7, w8, by rw [h 84 (by omega), h 85 (by omega), h 86 (by omega)]; exact w9, w10, by rw [h 61 (by omega), h 62 (by omega)]; exact w11⟩
theorem L_X10_tries (hw : g_wy M T n t H A N mk tk tt tn sg lt) {tick : Nat} (hd : M 99 33 = nI tick) (htick : tick < T) {Q : zS → zM → Prop} (hQ : ∀ M', (∀ c, c ≠ 116 → c ≠ 117 → c ≠ 118 → c ≠ 119 → c ≠ 120 → c ≠ 130 → M' c = M c) → (∀ s, s < 2 ^ t → M' 130 s = z_bI (z_W (z_pr0 n 15 mk) n H A N tk tt tn sg lt t (M 99 32) tick s)) → Q (ZS m0 m1 md) M') :
    ∀ (z e : Nat), e + z = 2 ^ t → ∀ M', (∀ c, c ≠ 116 → c ≠ 117 → c ≠ 118 → c ≠ 119 → c ≠ 120 → c ≠ 130 → M' c = M c) → (∀ s, s < e → M' 130 s = z_bI (z_W (z_pr0 n 15 mk) n H A N tk tt tn sg lt t (M 99 32) tick s)) → AW l g RX10 cX10_tries 2 none false (d + 3) 0 0 2 [some (.ref 99), some (.int (nI e))] [] (ZS m0 m1 md) M' (z_Qv Q) := by
  intro z
  induction z with
  | zero =>
    intro e he M' h1 h2
    have he : e = 2 ^ t := by omega
    subst he
    have hw' := g_wy_frame (M' := M') (fun c hc => h1 c (by omega) (by omega) (by omega) (by omega) (by omega) (by omega)) hw
    obtain ⟨w1, w2, w3, w4, w5, w6, w7, w8, w9, w10⟩ := hw'
    have eb := z_allB t (by omega)
    have p6 := z_p6 w7
    refine AW.iload_n 3 dX10_tries_2 rfl rfl ?_
    refine AW.iconst 4 (nI 1) dX10_tries_3 (by decide) rfl ?_
    refine AW.aload_n 5 dX10_tries_4 rfl rfl ?_
    refine AW.getI 8 dX10_tries_5 fX10_244 rfl (zI rfl rfl) rfl ?_
    refine AW.topi (nI t) w6 ?_
    refine AW.ishl 9 dX10_tries_8 rfl ?_
    refine AW.topi (nI (2 ^ t)) eb ?_
    refine AW.icmpN_ge 12 31 dX10_tries_9 (by decide) rfl (by omega) (by omega) (fun b9 => ?_) (fun b9 => absurd b9 (by omega))
    refine AW.vret dX10_tries_31 rfl rfl ⟨rfl, ?_⟩
    exact hQ M' h1 h2
  | succ z ih =>
    intro e he M' h1 h2
    have hw' := g_wy_frame (M' := M') (fun c hc => h1 c (by omega) (by omega) (by omega) (by omega) (by omega) (by omega)) hw
    obtain ⟨w1, w2, w3, w4, w5, w6, w7, w8, w9, w10⟩ := hw'
    have eb := z_allB t (by omega)
    have p6 := z_p6 w7
    have e99 : M' 99 = M 99 := h1 99 (by decide) (by decide) (by decide) (by decide) (by decide) (by decide)
    have hd' : M' 99 33 = nI tick := by rw [e99]; exact hd
    refine AW.iload_n 3 dX10_tries_2 rfl rfl ?_
    refine AW.iconst 4 (nI 1) dX10_tries_3 (by decide) rfl ?_
    refine AW.aload_n 5 dX10_tries_4 rfl rfl ?_
    refine AW.getI 8 dX10_tries_5 fX10_244 rfl (zI rfl rfl) rfl ?_
    refine AW.topi (nI t) w6 ?_
    refine AW.ishl 9 dX10_tries_8 rfl ?_
    refine AW.topi (nI (2 ^ t)) eb ?_
    refine AW.icmpN_ge 12 31 dX10_tries_9 (by decide) rfl (by omega) (by omega) (fun b9 => absurd b9 (by omega)) (fun b9 => ?_)
    refine AW.aload_n 13 dX10_tries_12 rfl rfl ?_
    refine AW.getR 16 dX10_tries_13 fX10_108 rfl (zI rfl rfl) rfl rfl ?_
    refine AW.iload_n 17 dX10_tries_16 rfl rfl ?_
    refine AW.aload_n 18 dX10_tries_17 rfl rfl ?_
    refine AW.iload_n 19 dX10_tries_18 rfl rfl ?_
    refine AW.bipush 21 (nI 15) dX10_tries_19 (by decide) rfl ?_
    refine AW.cVi2 24 dX10_tries_21 kX10_250 (zI rfl rfl) (Nat.le_of_ble_eq_true rfl) rfl (C_X10_comesBy (M := M') (T := T) (tick := tick) w1 w3 w4 w5 w6 w7 w8 w9 w10 (s := e) (so := 15) (by omega) (by decide) hd' htick (fun b21 M3 f1 => ?_) (fun b21 M3 f1 => ?_))
    · skip
      refine AW.bast 25 dX10_tries_24 (zA rfl rfl) rfl (by omega) (by decide) rfl rfl ?_
      refine AW.iinc1 28 _ dX10_tries_25 (z_inc1 _) (by decide) rfl rfl ?_
      refine AW.goto 2 dX10_tries_28 (by decide) ?_
      refine ih (e + 1) (by omega) _ (fun c c1 c2 c3 c4 c5 c6 => ?_) (fun s hs => ?_)
      · rw [z_st_ne c6, f1 c c1 c2 c3 c4 c5]; exact h1 c c1 c2 c3 c4 c5 c6
      · rw [z_st_at, f1 130 (by decide) (by decide) (by decide) (by decide) (by decide)]
        rw [e99] at b21
        by_cases h : s = e
        · subst h; simp only [upd, if_true]; first | rw [z_bI, z_W, decide_eq_true b21, if_pos rfl] | rw [z_bI, z_W, decide_eq_false b21, if_neg (by decide)]
        · simp only [upd, if_neg h]; exact h2 s (by omega)
    · skip
      refine AW.bast 25 dX10_tries_24 (zA rfl rfl) rfl (by omega) (by decide) rfl rfl ?_
      refine AW.iinc1 28 _ dX10_tries_25 (z_inc1 _) (by decide) rfl rfl ?_
      refine AW.goto 2 dX10_tries_28 (by decide) ?_
      refine ih (e + 1) (by omega) _ (fun c c1 c2 c3 c4 c5 c6 => ?_) (fun s hs => ?_)
      · rw [z_st_ne c6, f1 c c1 c2 c3 c4 c5]; exact h1 c c1 c2 c3 c4 c5 c6
      · rw [z_st_at, f1 130 (by decide) (by decide) (by decide) (by decide) (by decide)]
        rw [e99] at b21
        by_cases h : s = e
        · subst h; simp only [upd, if_true]; first | rw [z_bI, z_W, decide_eq_true b21, if_pos rfl] | rw [z_bI, z_W, decide_eq_false b21, if_neg (by decide)]
        · simp only [upd, if_neg h]; exact h2 s (by omega)
theorem C_X10_tries (hw : g_wy M T n t H A N mk tk tt tn sg lt) {tick : Nat} (hd : M 99 33 = nI tick) (htick : tick < T) {Q : zS → zM → Prop} (hQ : ∀ M', (∀ c, c ≠ 116 → c ≠ 117 → c ≠ 118 → c ≠ 119 → c ≠ 120 → c ≠ 130 → M' c = M c) → (∀ s, s < 2 ^ t → M' 130 s = z_bI (z_W (z_pr0 n 15 mk) n H A N tk tt tn sg lt t (M 99 32) tick s)) → Q (ZS m0 m1 md) M') : AMet l g yX10_tries cX10_tries 2 none (d + 3) 0 0 [.ref 99] (ZS m0 m1 md) M (z_Qv Q) := by
  refine AMet.of (ini := false) rfl (fun h => by first | rfl | cases h) (Nat.le_of_ble_eq_true rfl) ?_
  show AW l g RX10 cX10_tries 2 none false _ _ _ 0 [some (.ref 99), none] [] _ _ _
  refine AW.iconst 1 (nI 0) dX10_tries_0 (by decide) rfl ?_
  refine AW.istn1 2 dX10_tries_1 (by decide) rfl rfl ?_
  exact L_X10_tries hw hd htick hQ (2 ^ t) 0 (by omega) M (fun _ _ _ _ _ _ _ => rfl) (fun s hs => absurd hs (by omega))
theorem L_X9_tryAllSets (hw : f_wy M m0 T n t H A N mk tk tt tn sg lt) {tick : Nat} (hd : M 0 15 = nI tick) (htick : tick < T) {Q : zS → zM → Prop} (hQ : ∀ M', (∀ c, c ≠ 65 → c ≠ 66 → c ≠ 67 → c ≠ 68 → c ≠ 69 → c ≠ 87 → M' c = M c) → (∀ s, s < 2 ^ t → M' 87 s = z_bI (z_W (fun _ => true) n H A N tk tt tn sg lt t (M 0 14) tick s)) → Q (ZS m0 m1 md) M') :
    ∀ (z e : Nat), e + z = 2 ^ t → ∀ M', (∀ c, c ≠ 65 → c ≠ 66 → c ≠ 67 → c ≠ 68 → c ≠ 69 → c ≠ 87 → M' c = M c) → (∀ s, s < e → M' 87 s = z_bI (z_W (fun _ => true) n H A N tk tt tn sg lt t (M 0 14) tick s)) → AW l g RX9 cX9_tryAllSets 2 none false (d + 4) 0 0 2 [some (.ref 0), some (.int (nI e))] [] (ZS m0 m1 md) M' (z_Qv Q) := by
  intro z
  induction z with
  | zero =>
    intro e he M' h1 h2
    have he : e = 2 ^ t := by omega
    subst he
    have hw' := f_wy_frame (M' := M') (fun c hc => h1 c (by omega) (by omega) (by omega) (by omega) (by omega) (by omega)) hw
    obtain ⟨w1, w2, w3, w4, w5, w6, w7, w8, w9, w10, w11⟩ := hw'
    have p6 := z_p6 w8
    refine AW.iload_n 3 dX9_tryAllSets_2 rfl rfl ?_
    refine AW.aload_n 4 dX9_tryAllSets_3 rfl rfl ?_
    refine AW.getR 7 dX9_tryAllSets_4 fX9_67 rfl (zI rfl rfl) rfl rfl ?_
    refine AW.cVi0 10 dX9_tryAllSets_7 kX9_259 (zI rfl rfl) (Nat.le_of_ble_eq_true rfl) rfl (C_X7_allBits w7 w8 ?_)
    refine AW.icmpN_gt 13 30 dX9_tryAllSets_10 (by decide) rfl (by omega) (by omega) (fun b10 => ?_) (fun b10 => absurd b10 (by omega))
    refine AW.vret dX9_tryAllSets_30 rfl rfl ⟨rfl, ?_⟩
    exact hQ M' h1 h2
  | succ z ih =>
    intro e he M' h1 h2
    have hw' := f_wy_frame (M' := M') (fun c hc => h1 c (by omega) (by omega) (by omega) (by omega) (by omega) (by omega)) hw
    obtain ⟨w1, w2, w3, w4, w5, w6, w7, w8, w9, w10, w11⟩ := hw'
    have p6 := z_p6 w8
    have e0 : M' 0 = M 0 := h1 0 (by decide) (by decide) (by decide) (by decide) (by decide) (by decide)
    have hd' : M' 0 15 = nI tick := by rw [e0]; exact hd
    refine AW.iload_n 3 dX9_tryAllSets_2 rfl rfl ?_
    refine AW.aload_n 4 dX9_tryAllSets_3 rfl rfl ?_
    refine AW.getR 7 dX9_tryAllSets_4 fX9_67 rfl (zI rfl rfl) rfl rfl ?_
    refine AW.cVi0 10 dX9_tryAllSets_7 kX9_259 (zI rfl rfl) (Nat.le_of_ble_eq_true rfl) rfl (C_X7_allBits w7 w8 ?_)
    refine AW.icmpN_gt 13 30 dX9_tryAllSets_10 (by decide) rfl (by omega) (by omega) (fun b10 => absurd b10 (by omega)) (fun b10 => ?_)
    refine AW.aload_n 14 dX9_tryAllSets_13 rfl rfl ?_
    refine AW.getR 17 dX9_tryAllSets_14 fX9_71 rfl (zI rfl rfl) rfl rfl ?_
    refine AW.iload_n 18 dX9_tryAllSets_17 rfl rfl ?_
    refine AW.aload_n 19 dX9_tryAllSets_18 rfl rfl ?_
    refine AW.iload_n 20 dX9_tryAllSets_19 rfl rfl ?_
    refine AW.cVi1 23 dX9_tryAllSets_20 kX9_248 (zI rfl rfl) (Nat.le_of_ble_eq_true rfl) rfl (C_X9_comesOtherwise (M := M') (tick := tick) w4 w5 w11 w7 w8 w9 w10 hd' (by omega) (s := e) (by omega) (fun b20 M3 f1 => ?_) (fun b20 M3 f1 => ?_))
    · skip
      refine AW.bast 24 dX9_tryAllSets_23 (zA rfl rfl) rfl (by omega) (by decide) rfl rfl ?_
      refine AW.iinc1 27 _ dX9_tryAllSets_24 (z_inc1 _) (by decide) rfl rfl ?_
      refine AW.goto 2 dX9_tryAllSets_27 (by decide) ?_
      refine ih (e + 1) (by omega) _ (fun c c1 c2 c3 c4 c5 c6 => ?_) (fun s hs => ?_)
      · rw [z_st_ne c6, f1 c c1 c2 c3 c4 c5]; exact h1 c c1 c2 c3 c4 c5 c6
      · rw [z_st_at, f1 87 (by decide) (by decide) (by decide) (by decide) (by decide)]
        rw [e0] at b20
        by_cases h : s = e
        · subst h; simp only [upd, if_true]; first | rw [z_bI, z_W, decide_eq_true b20, if_pos rfl] | rw [z_bI, z_W, decide_eq_false b20, if_neg (by decide)]
        · simp only [upd, if_neg h]; exact h2 s (by omega)
    · skip
      refine AW.bast 24 dX9_tryAllSets_23 (zA rfl rfl) rfl (by omega) (by decide) rfl rfl ?_
      refine AW.iinc1 27 _ dX9_tryAllSets_24 (z_inc1 _) (by decide) rfl rfl ?_
      refine AW.goto 2 dX9_tryAllSets_27 (by decide) ?_
      refine ih (e + 1) (by omega) _ (fun c c1 c2 c3 c4 c5 c6 => ?_) (fun s hs => ?_)
      · rw [z_st_ne c6, f1 c c1 c2 c3 c4 c5]; exact h1 c c1 c2 c3 c4 c5 c6
      · rw [z_st_at, f1 87 (by decide) (by decide) (by decide) (by decide) (by decide)]
        rw [e0] at b20
        by_cases h : s = e
        · subst h; simp only [upd, if_true]; first | rw [z_bI, z_W, decide_eq_true b20, if_pos rfl] | rw [z_bI, z_W, decide_eq_false b20, if_neg (by decide)]
        · simp only [upd, if_neg h]; exact h2 s (by omega)
theorem C_X9_tryAllSets (hw : f_wy M m0 T n t H A N mk tk tt tn sg lt) {tick : Nat} (hd : M 0 15 = nI tick) (htick : tick < T) {Q : zS → zM → Prop} (hQ : ∀ M', (∀ c, c ≠ 65 → c ≠ 66 → c ≠ 67 → c ≠ 68 → c ≠ 69 → c ≠ 87 → M' c = M c) → (∀ s, s < 2 ^ t → M' 87 s = z_bI (z_W (fun _ => true) n H A N tk tt tn sg lt t (M 0 14) tick s)) → Q (ZS m0 m1 md) M') : AMet l g yX9_tryAllSets cX9_tryAllSets 2 none (d + 4) 0 0 [.ref 0] (ZS m0 m1 md) M (z_Qv Q) := by
  refine AMet.of (ini := false) rfl (fun h => by first | rfl | cases h) (Nat.le_of_ble_eq_true rfl) ?_
  show AW l g RX9 cX9_tryAllSets 2 none false _ _ _ 0 [some (.ref 0), none] [] _ _ _
  refine AW.iconst 1 (nI 0) dX9_tryAllSets_0 (by decide) rfl ?_
  refine AW.istn1 2 dX9_tryAllSets_1 (by decide) rfl rfl ?_
  exact L_X9_tryAllSets hw hd htick hQ (2 ^ t) 0 (by omega) M (fun _ _ _ _ _ _ _ => rfl) (fun s hs => absurd hs (by omega))
end SETS
