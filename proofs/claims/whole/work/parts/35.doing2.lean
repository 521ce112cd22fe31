section DOING2
variable {l : Launch} {g : zG} {d m0 m1 md : Nat} {M : zM} {T n t : Nat} {H : Nat → Nat → Nat → Bool} {A : Nat → Nat} {N : Nat → Int32} {mk tk tt tn sg lt : Nat → Nat}
theorem g_mach_frame {M M' : zM} {m n : Nat} {H : Nat → Nat → Nat → Bool} {A : Nat → Nat} {N : Nat → Int32} (h : ∀ c, 104 ≤ c → c ≤ 108 → M' c = M c) (hG : g_mach M m n H A N) : g_mach M' m n H A N := by
  unfold g_mach at hG ⊢
  rw [h 104 (by decide) (by decide), h 106 (by decide) (by decide), h 107 (by decide) (by decide), h 108 (by decide) (by decide)]
  exact hG
theorem z_st2_ne {M : zM} {k c i j : Nat} {v w : Int32} (h : c ≠ k) : z_st (z_st M k i v) k j w c = M c := by rw [z_st_ne h, z_st_ne h]
theorem z_st2_l (M : zM) (k i j : Nat) (v w : Int32) (h : i ≠ j) : z_st (z_st M k i v) k j w k i = v := by
  rw [z_st_at, z_st_at]; simp only [upd, if_neg h, if_true]
theorem z_st2_r (M : zM) (k i j : Nat) (v w : Int32) : z_st (z_st M k i v) k j w k j = w := by
  rw [z_st_at]; simp only [upd, if_true]
theorem z_st2_o (M : zM) (k i j c : Nat) (v w : Int32) (h : c ≠ i) (h2 : c ≠ j) : z_st (z_st M k i v) k j w k c = M k c := by
  rw [z_st_at, z_st_at]; simp only [upd, if_neg h, if_neg h2]
theorem C_X10_doing (hT : M 99 16 = nI T) (hT1 : 1 ≤ T) (hT2 : T ≤ 12) (hG : g_mach M 0 n H A N) (hmk : ∀ r, r < n → M 105 r = nI (mk r) ∧ mk r < 4) (ht : M 99 34 = nI t) (ht2 : t ≤ 6) (hth : ∀ k, k < t → M 127 k = nI (tk k) ∧ M 128 k = nI (tt k) ∧ M 129 k = nI (tn k)) (hok : z_tok t tk tt tn) (hW : ∀ i, i < 12 → M 113 i = nI (sg i) ∧ M 114 i = nI (lt i) ∧ sg i < 16 ∧ lt i < 2) {a k : Int32} {Q : Int32 → zS → zM → Prop}
    (hbad : ¬ (0 ≤ a.toInt ∧ a.toInt ≤ 3 ∧ 0 ≤ k.toInt ∧ k.toInt < T) → Q (-1) (ZS m0 m1 md) M)
    (hgo : ∀ tick, k = nI tick → tick < T → 0 ≤ a.toInt → a.toInt ≤ 3 → ∀ M', (∀ c, c ≠ 99 → c ≠ 116 → c ≠ 117 → c ≠ 118 → c ≠ 119 → c ≠ 120 → M' c = M c) → M' 99 = upd (upd (M 99) 32 a) 33 (nI tick) → Q (if a.toInt = z_oa n H A N (z_uS 0 tk tt tn sg t) (z_uL 0 tk tt lt t) (z_uP 0 tk tn (z_pr0 n 15 mk) t) tick then nI 1 else nI 0) (ZS m0 m1 md) M') : AMet l g yX10_doing cX10_doing 3 (some .int) (d + 3) 0 0 [.ref 99, .int a, .int k] (ZS m0 m1 md) M (z_Qi Q) := by
  refine AMet.of (ini := false) rfl (fun h => by first | rfl | cases h) (Nat.le_of_ble_eq_true rfl) ?_
  show AW l g RX10 cX10_doing 3 (some .int) false _ _ _ 0 [some (.ref 99), some (.int a), some (.int k)] [] _ _ _
  refine AW.iload_n 1 dX10_doing_0 rfl rfl ?_
  refine AW.i2l 2 dX10_doing_1 rfl ?_
  refine AW.lconst 3 (lN 0) dX10_doing_2 rfl rfl ?_
  refine AW.ldc2 6 (lN 3) dX10_doing_3 qX10_207 rfl ?_
  refine AW.cSi3 9 dX10_doing_6 kX10_131 (Nat.le_of_ble_eq_true rfl) rfl (C_in (Int32.toInt_toInt64 _) (z_lN (by decide)) (z_lN (by decide)) (fun b6 => ?_) (fun b6 => ?_))
  · skip
    refine AW.if_eq 12 20 dX10_doing_9 (by decide) rfl (fun h => absurd h (by decide)) (fun _ => ?_)
    refine AW.aload_n 13 dX10_doing_12 rfl rfl ?_
    refine AW.iload_n 14 dX10_doing_13 rfl rfl ?_
    refine AW.cVi1 17 dX10_doing_14 kX10_184 (zI rfl rfl) (Nat.le_of_ble_eq_true rfl) rfl (C_X10_isTick hT hT1 hT2 (fun b14 => ?_) (fun b14 => ?_))
    · skip
      obtain ⟨tick, hk, rfl, hk2⟩ := z_nI (v := k) (n := 11) (by omega) (by omega)
      refine AW.if_ne 20 22 dX10_doing_17 (by decide) rfl (fun _ => ?_) (fun h => absurd h (by decide))
      refine AW.aload_n 23 dX10_doing_22 rfl rfl ?_
      refine AW.iload_n 24 dX10_doing_23 rfl rfl ?_
      refine AW.putI 27 .int dX10_doing_24 pX10_247 rfl (zI rfl rfl) rfl rfl rfl ?_
      refine AW.aload_n 28 dX10_doing_27 rfl rfl ?_
      refine AW.iload_n 29 dX10_doing_28 rfl rfl ?_
      refine AW.putI 32 .int dX10_doing_29 pX10_96 rfl (zI rfl rfl) rfl rfl rfl ?_
      refine AW.aload_n 33 dX10_doing_32 rfl rfl ?_
      refine AW.iconst 34 (nI 0) dX10_doing_33 (by decide) rfl ?_
      refine AW.bipush 36 (nI 15) dX10_doing_34 (by decide) rfl ?_
      refine AW.cVi2 39 dX10_doing_36 kX10_250 (zI rfl rfl) (Nat.le_of_ble_eq_true rfl) rfl (C_X10_comesBy (M := z_st (z_st M 99 32 a) 99 33 (nI tick)) (T := T) (tick := tick) ((z_st2_o M 99 32 33 16 a (nI tick) (by decide) (by decide)).trans hT) hT2 (g_mach_frame (fun c c1 c2 => z_st2_ne (by omega)) hG) (by rw [z_st2_ne (by decide)]; exact hmk) ((z_st2_o M 99 32 33 34 a (nI tick) (by decide) (by decide)).trans ht) ht2 (by rw [z_st2_ne (by decide), z_st2_ne (by decide), z_st2_ne (by decide)]; exact hth) hok (by rw [z_st2_ne (by decide), z_st2_ne (by decide)]; exact hW) (s := 0) (so := 15) (by decide) (by decide) (z_st2_r M 99 32 33 a (nI tick)) (by omega) (fun b36 M3 f1 => ?_) (fun b36 M3 f1 => ?_))
      · skip
        refine AW.if_eq 42 46 dX10_doing_39 (by decide) rfl (fun h => absurd h (by decide)) (fun _ => ?_)
        refine AW.iconst 43 (nI 1) dX10_doing_42 (by decide) rfl ?_
        refine AW.goto 47 dX10_doing_43 (by decide) ?_
        refine AW.iret dX10_doing_47 .int rfl rfl rfl ⟨_, rfl, ?_⟩
        rw [z_st2_l M 99 32 33 a (nI tick) (by decide)] at b36
        have e := hgo tick rfl (by omega) (by omega) (by omega) M3 (fun c c0 c1 c2 c3 c4 c5 => by rw [f1 c c1 c2 c3 c4 c5, z_st2_ne c0]) (by rw [f1 99 (by decide) (by decide) (by decide) (by decide) (by decide), z_st_at, z_st_at])
        first | (rw [if_pos b36] at e; exact e) | (rw [if_neg b36] at e; exact e)
      · skip
        refine AW.if_eq 42 46 dX10_doing_39 (by decide) rfl (fun _ => ?_) (fun h => absurd h (by decide))
        refine AW.iconst 47 (nI 0) dX10_doing_46 (by decide) rfl ?_
        refine AW.iret dX10_doing_47 .int rfl rfl rfl ⟨_, rfl, ?_⟩
        rw [z_st2_l M 99 32 33 a (nI tick) (by decide)] at b36
        have e := hgo tick rfl (by omega) (by omega) (by omega) M3 (fun c c0 c1 c2 c3 c4 c5 => by rw [f1 c c1 c2 c3 c4 c5, z_st2_ne c0]) (by rw [f1 99 (by decide) (by decide) (by decide) (by decide) (by decide), z_st_at, z_st_at])
        first | (rw [if_pos b36] at e; exact e) | (rw [if_neg b36] at e; exact e)
    · skip
      refine AW.if_ne 20 22 dX10_doing_17 (by decide) rfl (fun h => absurd h (by decide)) (fun _ => ?_)
      refine AW.iconst 21 (-1) dX10_doing_20 (by decide) rfl ?_
      refine AW.iret dX10_doing_21 .int rfl rfl rfl ⟨_, rfl, ?_⟩
      exact hbad (by omega)
  · skip
    refine AW.if_eq 12 20 dX10_doing_9 (by decide) rfl (fun _ => ?_) (fun h => absurd h (by decide))
    refine AW.iconst 21 (-1) dX10_doing_20 (by decide) rfl ?_
    refine AW.iret dX10_doing_21 .int rfl rfl rfl ⟨_, rfl, ?_⟩
    exact hbad (by omega)
theorem C_X9_doing (hT : M 59 1 = nI T) (hT1 : 1 ≤ T) (hT2 : T ≤ 12) (hb0 : zMb m0) (hF : f_mach M m0 n H A N) (hW : ∀ i, i < 12 → M 61 i = nI (sg i) ∧ M 62 i = nI (lt i) ∧ sg i < 16 ∧ lt i < 2) (ht : M 83 3 = nI t) (ht2 : t ≤ 6) (hth : ∀ k, k < t → M 84 k = nI (tk k) ∧ M 85 k = nI (tt k) ∧ M 86 k = nI (tn k)) (hok : z_tok t tk tt tn) {a k : Int32} {Q : Int32 → zS → zM → Prop}
    (hbad : ¬ (0 ≤ a.toInt ∧ a.toInt ≤ 3 ∧ 0 ≤ k.toInt ∧ k.toInt < T) → Q (-1) (ZS m0 m1 md) M)
    (hgo : ∀ tick, k = nI tick → tick < T → 0 ≤ a.toInt → a.toInt ≤ 3 → ∀ M', (∀ c, c ≠ 0 → c ≠ 65 → c ≠ 66 → c ≠ 67 → c ≠ 68 → c ≠ 69 → M' c = M c) → M' 0 = upd (upd (M 0) 14 a) 15 (nI tick) → Q (if a.toInt = z_oa n H A N (z_uS 0 tk tt tn sg t) (z_uL 0 tk tt lt t) (z_uP 0 tk tn (fun _ => true) t) tick then nI 1 else nI 0) (ZS m0 m1 md) M') : AMet l g yX9_doing cX9_doing 3 (some .int) (d + 4) 0 0 [.ref 0, .int a, .int k] (ZS m0 m1 md) M (z_Qi Q) := by
  have hbl := zMb_lt hb0
  refine AMet.of (ini := false) rfl (fun h => by first | rfl | cases h) (Nat.le_of_ble_eq_true rfl) ?_
  show AW l g RX9 cX9_doing 3 (some .int) false _ _ _ 0 [some (.ref 0), some (.int a), some (.int k)] [] _ _ _
  refine AW.iload_n 1 dX9_doing_0 rfl rfl ?_
  refine AW.iconst 2 (nI 3) dX9_doing_1 (by decide) rfl ?_
  refine AW.cSi2 5 dX9_doing_2 kX9_120 (Nat.le_of_ble_eq_true rfl) rfl (C_beyond rfl (by decide : (nI 3).toInt = 3) (fun b2 => ?_) (fun b2 => ?_))
  · skip
    refine AW.if_ne 8 16 dX9_doing_5 (by decide) rfl (fun _ => ?_) (fun h => absurd h (by decide))
    refine AW.iconst 17 (-1) dX9_doing_16 (by decide) rfl ?_
    refine AW.iret dX9_doing_17 .int rfl rfl rfl ⟨_, rfl, ?_⟩
    exact hbad (by omega)
  · skip
    refine AW.if_ne 8 16 dX9_doing_5 (by decide) rfl (fun h => absurd h (by decide)) (fun _ => ?_)
    refine AW.aload_n 9 dX9_doing_8 rfl rfl ?_
    refine AW.iload_n 10 dX9_doing_9 rfl rfl ?_
    refine AW.cVi1 13 dX9_doing_10 kX9_137 (zI rfl rfl) (Nat.le_of_ble_eq_true rfl) rfl (C_X9_noTick hT hT1 hT2 (fun b10 => ?_) (fun b10 => ?_))
    · skip
      refine AW.if_eq 16 18 dX9_doing_13 (by decide) rfl (fun h => absurd h (by decide)) (fun _ => ?_)
      refine AW.iconst 17 (-1) dX9_doing_16 (by decide) rfl ?_
      refine AW.iret dX9_doing_17 .int rfl rfl rfl ⟨_, rfl, ?_⟩
      exact hbad (by omega)
    · skip
      obtain ⟨tick, hk, rfl, hk2⟩ := z_nI (v := k) (n := 11) (by omega) (by omega)
      refine AW.if_eq 16 18 dX9_doing_13 (by decide) rfl (fun _ => ?_) (fun h => absurd h (by decide))
      refine AW.aload_n 19 dX9_doing_18 rfl rfl ?_
      refine AW.iload_n 20 dX9_doing_19 rfl rfl ?_
      refine AW.putI 23 .int dX9_doing_20 pX9_93 rfl (zI rfl rfl) rfl rfl rfl ?_
      refine AW.aload_n 24 dX9_doing_23 rfl rfl ?_
      refine AW.iload_n 25 dX9_doing_24 rfl rfl ?_
      refine AW.putI 28 .int dX9_doing_25 pX9_97 rfl (zI rfl rfl) rfl rfl rfl ?_
      refine AW.aload_n 29 dX9_doing_28 rfl rfl ?_
      refine AW.iconst 30 (nI 0) dX9_doing_29 (by decide) rfl ?_
      refine AW.cVi1 33 dX9_doing_30 kX9_248 (zI rfl rfl) (Nat.le_of_ble_eq_true rfl) rfl (C_X9_comesOtherwise (M := z_st (z_st M 0 14 a) 0 15 (nI tick)) (tick := tick) hb0 (f_mach_frame hb0 (fun c c1 c2 => z_st2_ne (by omega)) hF) (by rw [z_st2_ne (by decide), z_st2_ne (by decide)]; exact hW) (by rw [z_st2_ne (by decide)]; exact ht) ht2 (by rw [z_st2_ne (by decide), z_st2_ne (by decide), z_st2_ne (by decide)]; exact hth) hok (z_st2_r M 0 14 15 a (nI tick)) (by omega) (s := 0) (by decide) (fun b30 M3 f1 => ?_) (fun b30 M3 f1 => ?_))
      · skip
        refine AW.if_eq 36 40 dX9_doing_33 (by decide) rfl (fun h => absurd h (by decide)) (fun _ => ?_)
        refine AW.iconst 37 (nI 1) dX9_doing_36 (by decide) rfl ?_
        refine AW.goto 41 dX9_doing_37 (by decide) ?_
        refine AW.iret dX9_doing_41 .int rfl rfl rfl ⟨_, rfl, ?_⟩
        rw [z_st2_l M 0 14 15 a (nI tick) (by decide)] at b30
        have e := hgo tick rfl (by omega) (by omega) (by omega) M3 (fun c c0 c1 c2 c3 c4 c5 => by rw [f1 c c1 c2 c3 c4 c5, z_st2_ne c0]) (by rw [f1 0 (by decide) (by decide) (by decide) (by decide) (by decide), z_st_at, z_st_at])
        first | (rw [if_pos b30] at e; exact e) | (rw [if_neg b30] at e; exact e)
      · skip
        refine AW.if_eq 36 40 dX9_doing_33 (by decide) rfl (fun _ => ?_) (fun h => absurd h (by decide))
        refine AW.iconst 41 (nI 0) dX9_doing_40 (by decide) rfl ?_
        refine AW.iret dX9_doing_41 .int rfl rfl rfl ⟨_, rfl, ?_⟩
        rw [z_st2_l M 0 14 15 a (nI tick) (by decide)] at b30
        have e := hgo tick rfl (by omega) (by omega) (by omega) M3 (fun c c0 c1 c2 c3 c4 c5 => by rw [f1 c c1 c2 c3 c4 c5, z_st2_ne c0]) (by rw [f1 0 (by decide) (by decide) (by decide) (by decide) (by decide), z_st_at, z_st_at])
        first | (rw [if_pos b30] at e; exact e) | (rw [if_neg b30] at e; exact e)
theorem z_allB : ∀ t, t < 7 → (nI 1 <<< (nI t &&& 31)) = nI (2 ^ t) := by decide +kernel
theorem z_p6 {t : Nat} (h : t ≤ 6) : 2 ^ t ≤ 64 ∧ 1 ≤ 2 ^ t := by
  have : ∀ t, t < 7 → 2 ^ t ≤ 64 ∧ 1 ≤ 2 ^ t := by decide
  exact this t (by omega)
theorem C_X10_otherwise (hT : M 99 16 = nI T) (hT1 : 1 ≤ T) (hT2 : T ≤ 12) (hG : g_mach M 0 n H A N) (hmk : ∀ r, r < n → M 105 r = nI (mk r) ∧ mk r < 4) (ht : M 99 34 = nI t) (ht2 : t ≤ 6) (hth : ∀ k, k < t → M 127 k = nI (tk k) ∧ M 128 k = nI (tt k) ∧ M 129 k = nI (tn k)) (hok : z_tok t tk tt tn) (hW : ∀ i, i < 12 → M 113 i = nI (sg i) ∧ M 114 i = nI (lt i) ∧ sg i < 16 ∧ lt i < 2) {s : Int32} {Q : Int32 → zS → zM → Prop}
    (hbad : ¬ (0 ≤ s.toInt ∧ s.toInt < (2 ^ t : Nat)) → Q (-1) (ZS m0 m1 md) M) (hnot : (0 ≤ s.toInt ∧ s.toInt < (2 ^ t : Nat)) → ¬ (0 ≤ (M 99 33).toInt ∧ (M 99 33).toInt < T) → Q (-2) (ZS m0 m1 md) M)
    (hgo : ∀ e tick, s = nI e → e < 2 ^ t → M 99 33 = nI tick → tick < T → ∀ M', (∀ c, c ≠ 116 → c ≠ 117 → c ≠ 118 → c ≠ 119 → c ≠ 120 → M' c = M c) → Q (if (M 99 32).toInt = z_oa n H A N (z_uS e tk tt tn sg t) (z_uL e tk tt lt t) (z_uP e tk tn (z_pr0 n 15 mk) t) tick then nI 1 else nI 0) (ZS m0 m1 md) M') : AMet l g yX10_otherwise cX10_otherwise 2 (some .int) (d + 3) 0 0 [.ref 99, .int s] (ZS m0 m1 md) M (z_Qi Q) := by
  have p6 := z_p6 ht2
  have eb := z_allB t (by omega)
  have el : ((nI (2 ^ t - 1)).toInt64).toInt = ((2 ^ t - 1 : Nat) : Int) := by rw [Int32.toInt_toInt64]; exact z_ti (by omega)
  refine AMet.of (ini := false) rfl (fun h => by first | rfl | cases h) (Nat.le_of_ble_eq_true rfl) ?_
  show AW l g RX10 cX10_otherwise 2 (some .int) false _ _ _ 0 [some (.ref 99), some (.int s)] [] _ _ _
  refine AW.iload_n 1 dX10_otherwise_0 rfl rfl ?_
  refine AW.i2l 2 dX10_otherwise_1 rfl ?_
  refine AW.lconst 3 (lN 0) dX10_otherwise_2 rfl rfl ?_
  refine AW.iconst 4 (nI 1) dX10_otherwise_3 (by decide) rfl ?_
  refine AW.aload_n 5 dX10_otherwise_4 rfl rfl ?_
  refine AW.getI 8 dX10_otherwise_5 fX10_244 rfl (zI rfl rfl) rfl ?_
  refine AW.topi (nI t) ht ?_
  refine AW.ishl 9 dX10_otherwise_8 rfl ?_
  refine AW.topi (nI (2 ^ t)) eb ?_
  refine AW.iconst 10 (nI 1) dX10_otherwise_9 (by decide) rfl ?_
  refine AW.isubN 11 dX10_otherwise_10 (by omega) rfl ?_
  refine AW.i2l 12 dX10_otherwise_11 rfl ?_
  refine AW.cSi3 15 dX10_otherwise_12 kX10_131 (Nat.le_of_ble_eq_true rfl) rfl (C_in (Int32.toInt_toInt64 _) (z_lN (by decide)) el (fun b12 => ?_) (fun b12 => ?_))
  · skip
    obtain ⟨e, he, rfl, he2⟩ := z_nI (v := s) (n := 63) (by omega) (by omega)
    refine AW.if_ne 18 20 dX10_otherwise_15 (by decide) rfl (fun _ => ?_) (fun h => absurd h (by decide))
    refine AW.aload_n 21 dX10_otherwise_20 rfl rfl ?_
    refine AW.cVi0 24 dX10_otherwise_21 kX10_256 (zI rfl rfl) (Nat.le_of_ble_eq_true rfl) rfl (C_X10_isTold hT hT1 hT2 (fun b21 => ?_) (fun b21 => ?_))
    · skip
      obtain ⟨tick, htk, hd, htk2⟩ := z_nI (v := M 99 33) (n := 11) (by omega) (by omega)
      refine AW.if_eq 27 45 dX10_otherwise_24 (by decide) rfl (fun h => absurd h (by decide)) (fun _ => ?_)
      refine AW.aload_n 28 dX10_otherwise_27 rfl rfl ?_
      refine AW.iload_n 29 dX10_otherwise_28 rfl rfl ?_
      refine AW.bipush 31 (nI 15) dX10_otherwise_29 (by decide) rfl ?_
      refine AW.cVi2 34 dX10_otherwise_31 kX10_250 (zI rfl rfl) (Nat.le_of_ble_eq_true rfl) rfl (C_X10_comesBy (T := T) (tick := tick) hT hT2 hG hmk ht ht2 hth hok hW (s := e) (so := 15) (by omega) (by decide) hd (by omega) (fun b31 M3 f1 => ?_) (fun b31 M3 f1 => ?_))
      · skip
        refine AW.if_eq 37 41 dX10_otherwise_34 (by decide) rfl (fun h => absurd h (by decide)) (fun _ => ?_)
        refine AW.iconst 38 (nI 1) dX10_otherwise_37 (by decide) rfl ?_
        refine AW.goto 47 dX10_otherwise_38 (by decide) ?_
        refine AW.iret dX10_otherwise_47 .int rfl rfl rfl ⟨_, rfl, ?_⟩
        first | exact hnot (by omega) b21 | (have e9 := hgo e tick rfl (by omega) hd (by omega) M3 f1; first | (rw [if_pos b31] at e9; exact e9) | (rw [if_neg b31] at e9; exact e9))
      · skip
        refine AW.if_eq 37 41 dX10_otherwise_34 (by decide) rfl (fun _ => ?_) (fun h => absurd h (by decide))
        refine AW.iconst 42 (nI 0) dX10_otherwise_41 (by decide) rfl ?_
        refine AW.goto 47 dX10_otherwise_42 (by decide) ?_
        refine AW.iret dX10_otherwise_47 .int rfl rfl rfl ⟨_, rfl, ?_⟩
        first | exact hnot (by omega) b21 | (have e9 := hgo e tick rfl (by omega) hd (by omega) M3 f1; first | (rw [if_pos b31] at e9; exact e9) | (rw [if_neg b31] at e9; exact e9))
    · skip
      refine AW.if_eq 27 45 dX10_otherwise_24 (by decide) rfl (fun _ => ?_) (fun h => absurd h (by decide))
      refine AW.bipush 47 (-2) dX10_otherwise_45 (by decide) rfl ?_
      refine AW.iret dX10_otherwise_47 .int rfl rfl rfl ⟨_, rfl, ?_⟩
      first | exact hnot (by omega) b21 | (have e9 := hgo e tick rfl (by omega) hd (by omega) M3 f1; first | (rw [if_pos b31] at e9; exact e9) | (rw [if_neg b31] at e9; exact e9))
  · skip
    refine AW.if_ne 18 20 dX10_otherwise_15 (by decide) rfl (fun h => absurd h (by decide)) (fun _ => ?_)
    refine AW.iconst 19 (-1) dX10_otherwise_18 (by decide) rfl ?_
    refine AW.iret dX10_otherwise_19 .int rfl rfl rfl ⟨_, rfl, ?_⟩
    exact hbad (by omega)
theorem C_X9_otherwise (hT : M 59 1 = nI T) (hT1 : 1 ≤ T) (hT2 : T ≤ 12) (hb0 : zMb m0) (hF : f_mach M m0 n H A N) (hW : ∀ i, i < 12 → M 61 i = nI (sg i) ∧ M 62 i = nI (lt i) ∧ sg i < 16 ∧ lt i < 2) (ht : M 83 3 = nI t) (ht2 : t ≤ 6) (hth : ∀ k, k < t → M 84 k = nI (tk k) ∧ M 85 k = nI (tt k) ∧ M 86 k = nI (tn k)) (hok : z_tok t tk tt tn) {s : Int32} {Q : Int32 → zS → zM → Prop}
    (hbad : ¬ (0 ≤ s.toInt ∧ s.toInt < (2 ^ t : Nat)) → Q (-1) (ZS m0 m1 md) M) (hnot : (0 ≤ s.toInt ∧ s.toInt < (2 ^ t : Nat)) → ((M 0 14).toInt = -4 ∨ ¬ (0 ≤ (M 0 15).toInt ∧ (M 0 15).toInt < T)) → Q (-2) (ZS m0 m1 md) M)
    (hgo : ∀ e tick, s = nI e → e < 2 ^ t → ¬ (M 0 14).toInt = -4 → M 0 15 = nI tick → tick < T → ∀ M', (∀ c, c ≠ 65 → c ≠ 66 → c ≠ 67 → c ≠ 68 → c ≠ 69 → M' c = M c) → Q (if (M 0 14).toInt = z_oa n H A N (z_uS e tk tt tn sg t) (z_uL e tk tt lt t) (z_uP e tk tn (fun _ => true) t) tick then nI 1 else nI 0) (ZS m0 m1 md) M') : AMet l g yX9_otherwise cX9_otherwise 2 (some .int) (d + 4) 0 0 [.ref 0, .int s] (ZS m0 m1 md) M (z_Qi Q) := by
  have p6 := z_p6 ht2
  refine AMet.of (ini := false) rfl (fun h => by first | rfl | cases h) (Nat.le_of_ble_eq_true rfl) ?_
  show AW l g RX9 cX9_otherwise 2 (some .int) false _ _ _ 0 [some (.ref 0), some (.int s)] [] _ _ _
  refine AW.iload_n 1 dX9_otherwise_0 rfl rfl ?_
  refine AW.aload_n 2 dX9_otherwise_1 rfl rfl ?_
  refine AW.getR 5 dX9_otherwise_2 fX9_67 rfl (zI rfl rfl) rfl rfl ?_
  refine AW.cVi0 8 dX9_otherwise_5 kX9_259 (zI rfl rfl) (Nat.le_of_ble_eq_true rfl) rfl (C_X7_allBits ht ht2 ?_)
  refine AW.cSi2 11 dX9_otherwise_8 kX9_120 (Nat.le_of_ble_eq_true rfl) rfl (C_beyond rfl (z_ti (n := 2 ^ t - 1) (by omega)) (fun b8 => ?_) (fun b8 => ?_))
  · skip
    refine AW.if_eq 14 16 dX9_otherwise_11 (by decide) rfl (fun h => absurd h (by decide)) (fun _ => ?_)
    refine AW.iconst 15 (-1) dX9_otherwise_14 (by decide) rfl ?_
    refine AW.iret dX9_otherwise_15 .int rfl rfl rfl ⟨_, rfl, ?_⟩
    exact hbad (by omega)
  · skip
    obtain ⟨e, he, rfl, he2⟩ := z_nI (v := s) (n := 63) (by omega) (by omega)
    refine AW.if_eq 14 16 dX9_otherwise_11 (by decide) rfl (fun _ => ?_) (fun h => absurd h (by decide))
    refine AW.aload_n 17 dX9_otherwise_16 rfl rfl ?_
    refine AW.cVi0 20 dX9_otherwise_17 kX9_262 (zI rfl rfl) (Nat.le_of_ble_eq_true rfl) rfl (C_X9_noDoing hT hT1 hT2 (fun b17 => ?_) (fun b17 => ?_))
    · skip
      refine AW.if_eq 23 26 dX9_otherwise_20 (by decide) rfl (fun h => absurd h (by decide)) (fun _ => ?_)
      refine AW.bipush 25 (-2) dX9_otherwise_23 (by decide) rfl ?_
      refine AW.iret dX9_otherwise_25 .int rfl rfl rfl ⟨_, rfl, ?_⟩
      exact hnot (by omega) b17
    · skip
      obtain ⟨tick, htk, hd, htk2⟩ := z_nI (v := M 0 15) (n := 11) (by omega) (by omega)
      refine AW.if_eq 23 26 dX9_otherwise_20 (by decide) rfl (fun _ => ?_) (fun h => absurd h (by decide))
      refine AW.aload_n 27 dX9_otherwise_26 rfl rfl ?_
      refine AW.iload_n 28 dX9_otherwise_27 rfl rfl ?_
      refine AW.cVi1 31 dX9_otherwise_28 kX9_248 (zI rfl rfl) (Nat.le_of_ble_eq_true rfl) rfl (C_X9_comesOtherwise (tick := tick) hb0 hF hW ht ht2 hth hok hd (by omega) (s := e) (by omega) (fun b28 M3 f1 => ?_) (fun b28 M3 f1 => ?_))
      · skip
        refine AW.if_eq 34 38 dX9_otherwise_31 (by decide) rfl (fun h => absurd h (by decide)) (fun _ => ?_)
        refine AW.iconst 35 (nI 1) dX9_otherwise_34 (by decide) rfl ?_
        refine AW.goto 39 dX9_otherwise_35 (by decide) ?_
        refine AW.iret dX9_otherwise_39 .int rfl rfl rfl ⟨_, rfl, ?_⟩
        have e9 := hgo e tick rfl (by omega) (by omega) hd (by omega) M3 f1
        first | (rw [if_pos b28] at e9; exact e9) | (rw [if_neg b28] at e9; exact e9)
      · skip
        refine AW.if_eq 34 38 dX9_otherwise_31 (by decide) rfl (fun _ => ?_) (fun h => absurd h (by decide))
        refine AW.iconst 39 (nI 0) dX9_otherwise_38 (by decide) rfl ?_
        refine AW.iret dX9_otherwise_39 .int rfl rfl rfl ⟨_, rfl, ?_⟩
        have e9 := hgo e tick rfl (by omega) (by omega) hd (by omega) M3 f1
        first | (rw [if_pos b28] at e9; exact e9) | (rw [if_neg b28] at e9; exact e9)
end DOING2
