def z_hd (b : Nat) (ms sg : Nat → Nat) (t : Nat) : Nat := if b = 0 then sg t &&& ms t else sg t
theorem z_and16 : ∀ e, e < 16 → ∀ s, s < 16 → (nI e &&& nI s) = nI (e &&& s) ∧ e &&& s < 16 ∧ e &&& 15 = e := by decide +kernel
theorem z_hd_lt {b t : Nat} {ms sg : Nat → Nat} (h : sg t < 16) : z_hd b ms sg t < 16 := by
  unfold z_hd
  split
  · exact Nat.lt_of_le_of_lt Nat.and_le_left h
  · exact h
section CAREFUL
variable {l : Launch} {g : zG} {d m0 m1 md : Nat} {M : zM} {T n : Nat} {H : Nat → Nat → Nat → Bool} {A : Nat → Nat} {N : Nat → Int32} {sg lt ms : Nat → Nat}
theorem L_X10_careful (hT : M 99 16 = nI T) (hT2 : T ≤ 12) (hG : g_mach M 1 n H A N) (hM : ∀ i, i < 12 → M 115 i = nI (ms i) ∧ ms i < 16) (hW : ∀ i, i < 12 → sg i < 16 ∧ lt i < 2) {b tick : Nat} (hb : b < 2) (htick : tick < T) {Q : Int32 → zS → zM → Prop} (hQ : ∀ M', (∀ c, c ≠ 116 → c ≠ 117 → c ≠ 118 → c ≠ 119 → c ≠ 120 → M' c = M c) → Q (nI (z_oa n H A N (z_hd b ms sg) lt (fun _ => true) tick)) (ZS m0 m1 md) M') :
    ∀ (z i : Nat), i + z = T → ∀ M', (∀ c, c ≠ 116 → c ≠ 117 → c ≠ 118 → c ≠ 119 → c ≠ 120 → M' c = M c) → (∀ t, t < i → M' 116 t = nI (z_hd b ms sg t)) → (∀ t, i ≤ t → t < 12 → M' 116 t = nI (sg t)) → (∀ t, t < 12 → M' 117 t = nI (lt t)) → AW l g RX10 cX10_careful 4 (some .int) false (d + 2) 0 0 26 [some (.ref 99), some (.int (nI tick)), some (.int (nI b)), some (.int (nI i))] [] (ZS m0 m1 md) M' (z_Qi Q) := by
  intro z
  induction z with
  | zero =>
    intro i hi M' f h1 h2 h3
    have hi : i = T := by omega
    subst hi
    have e99 : M' 99 16 = nI i := by rw [f 99 (by decide) (by decide) (by decide) (by decide) (by decide)]; exact hT
    have hG' := g_mach_frame (M' := M') (fun c c1 c2 => f c (by omega) (by omega) (by omega) (by omega) (by omega)) hG
    refine AW.iload_n 27 dX10_careful_26 rfl rfl ?_
    refine AW.aload_n 28 dX10_careful_27 rfl rfl ?_
    refine AW.getI 31 dX10_careful_28 fX10_50 rfl (zI rfl rfl) rfl ?_
    refine AW.topi (nI i) e99 ?_
    refine AW.icmpN_ge 34 64 dX10_careful_31 (by decide) rfl (by omega) (by omega) (fun b31 => ?_) (fun b31 => absurd b31 (by omega))
    refine AW.aload_n 65 dX10_careful_64 rfl rfl ?_
    refine AW.iconst 66 (nI 1) dX10_careful_65 (by decide) rfl ?_
    refine AW.iconst 67 (nI 0) dX10_careful_66 (by decide) rfl ?_
    refine AW.cVv2 70 dX10_careful_67 kX10_203 (zI rfl rfl) (Nat.le_of_ble_eq_true rfl) rfl (C_X10_plays (M := M') e99 hT2 (by decide) hG' hp0 (sg := z_hd b ms sg) (lt := lt) (fun t ht => ⟨h1 t ht, h3 t (by omega), z_hd_lt (hW t (by omega)).1, (hW t (by omega)).2⟩) (fun M2 k1 k3 => ?_))
    have e := hQ M2 (fun c c1 c2 c3 c4 c5 => by rw [k1 c c3 c4 c5]; exact f c c1 c2 c3 c4 c5)
    obtain ⟨p1, p2, p3⟩ := k3 tick (by omega)
    unfold z_oa at e
    refine AW.aload_n 71 dX10_careful_70 rfl rfl ?_
    refine AW.getR 74 dX10_careful_71 fX10_75 rfl (zI rfl rfl) rfl rfl ?_
    refine AW.iload_n 75 dX10_careful_74 rfl rfl ?_
    refine AW.iald 76 dX10_careful_75 (zA rfl rfl) rfl (by omega) (by decide) rfl ?_
    refine AW.iret dX10_careful_76 .int rfl rfl rfl ⟨_, rfl, ?_⟩
    rw [← p3] at e
    exact e
  | succ z ih =>
    intro i hi M' f h1 h2 h3
    have e99 : M' 99 16 = nI T := by rw [f 99 (by decide) (by decide) (by decide) (by decide) (by decide)]; exact hT
    have q1 := h2 i (Nat.le_refl i) (by omega)
    have q2 : M' 115 i = nI (ms i) := by rw [f 115 (by decide) (by decide) (by decide) (by decide) (by decide)]; exact (hM i (by omega)).1
    have a1 := z_and16 (sg i) (hW i (by omega)).1 (ms i) (hM i (by omega)).2
    have a2 := z_and16 (sg i) (hW i (by omega)).1 15 (by decide)
    have fin : ∀ v, v = nI (z_hd b ms sg i) → AW l g RX10 cX10_careful 4 (some .int) false (d + 2) 0 0 26 [some (.ref 99), some (.int (nI tick)), some (.int (nI b)), some (.int (nI (i + 1)))] [] (ZS m0 m1 md) (z_st M' 116 i v) (z_Qi Q) := fun v hv => by
      refine ih (i + 1) (by omega) _ (fun c c1 c2 c3 c4 c5 => by rw [z_st_ne c1]; exact f c c1 c2 c3 c4 c5) (fun t ht => ?_) (fun t t1 t2 => ?_) (fun t ht => by rw [z_st_ne (by decide)]; exact h3 t ht)
      · rw [z_st_at]
        by_cases h : t = i
        · subst h; simp only [upd, if_true]; exact hv
        · simp only [upd, if_neg h]; exact h1 t (by omega)
      · rw [z_st_at]; simp only [upd, if_neg (show ¬ t = i by omega)]; exact h2 t (by omega) t2
    refine AW.iload_n 27 dX10_careful_26 rfl rfl ?_
    refine AW.aload_n 28 dX10_careful_27 rfl rfl ?_
    refine AW.getI 31 dX10_careful_28 fX10_50 rfl (zI rfl rfl) rfl ?_
    refine AW.topi (nI T) e99 ?_
    refine AW.icmpN_ge 34 64 dX10_careful_31 (by decide) rfl (by omega) (by omega) (fun b31 => absurd b31 (by omega)) (fun b31 => ?_)
    refine AW.aload_n 35 dX10_careful_34 rfl rfl ?_
    refine AW.getR 38 dX10_careful_35 fX10_63 rfl (zI rfl rfl) rfl rfl ?_
    refine AW.iload_n 39 dX10_careful_38 rfl rfl ?_
    refine AW.dup2 40 dX10_careful_39 rfl rfl rfl ?_
    refine AW.iald 41 dX10_careful_40 (zA rfl rfl) rfl (by omega) (by decide) rfl ?_
    refine AW.topi (nI (sg i)) q1 ?_
    refine AW.iload_n 42 dX10_careful_41 rfl rfl ?_
    refine AW.ifN_ne 45 54 dX10_careful_42 (by decide) rfl (by omega) (fun b42 => ?_) (fun b42 => ?_)
    · skip
      refine AW.bipush 56 (nI 15) dX10_careful_54 (by decide) rfl ?_
      refine AW.iand 57 dX10_careful_56 rfl ?_
      refine AW.iast 58 dX10_careful_57 (zA rfl rfl) rfl (by omega) (by decide) rfl ?_
      refine AW.iinc3 61 _ dX10_careful_58 (z_inc1 _) (by decide) rfl rfl ?_
      refine AW.goto 26 dX10_careful_61 (by decide) ?_
      first | exact fin _ (by rw [z_hd, if_pos b42]; exact a1.1) | exact fin _ (by rw [z_hd, if_neg b42, a2.1, a2.2.2])
    · skip
      refine AW.aload_n 46 dX10_careful_45 rfl rfl ?_
      refine AW.getR 49 dX10_careful_46 fX10_60 rfl (zI rfl rfl) rfl rfl ?_
      refine AW.iload_n 50 dX10_careful_49 rfl rfl ?_
      refine AW.iald 51 dX10_careful_50 (zA rfl rfl) rfl (by omega) (by decide) rfl ?_
      refine AW.topi (nI (ms i)) q2 ?_
      refine AW.goto 56 dX10_careful_51 (by decide) ?_
      refine AW.iand 57 dX10_careful_56 rfl ?_
      refine AW.iast 58 dX10_careful_57 (zA rfl rfl) rfl (by omega) (by decide) rfl ?_
      refine AW.iinc3 61 _ dX10_careful_58 (z_inc1 _) (by decide) rfl rfl ?_
      refine AW.goto 26 dX10_careful_61 (by decide) ?_
      first | exact fin _ (by rw [z_hd, if_pos b42]; exact a1.1) | exact fin _ (by rw [z_hd, if_neg b42, a2.1, a2.2.2])
theorem C_X10_careful (hT : M 99 16 = nI T) (hT1 : 1 ≤ T) (hT2 : T ≤ 12) (hG : g_mach M 1 n H A N) (hM : ∀ i, i < 12 → M 115 i = nI (ms i) ∧ ms i < 16) (hW : ∀ t, t < 12 → M 113 t = nI (sg t) ∧ M 114 t = nI (lt t) ∧ sg t < 16 ∧ lt t < 2) {k b : Int32} {Q : Int32 → zS → zM → Prop} (hbad : ¬ (0 ≤ k.toInt ∧ k.toInt < T ∧ 0 ≤ b.toInt ∧ b.toInt ≤ 1) → Q (-1) (ZS m0 m1 md) M)
    (hgo : ∀ tick bn, k = nI tick → tick < T → b = nI bn → bn < 2 → ∀ M', (∀ c, c ≠ 116 → c ≠ 117 → c ≠ 118 → c ≠ 119 → c ≠ 120 → M' c = M c) → Q (nI (z_oa n H A N (z_hd bn ms sg) lt (fun _ => true) tick)) (ZS m0 m1 md) M') : AMet l g yX10_careful cX10_careful 4 (some .int) (d + 2) 0 0 [.ref 99, .int k, .int b] (ZS m0 m1 md) M (z_Qi Q) := by
  refine AMet.of (ini := false) rfl (fun h => by first | rfl | cases h) (Nat.le_of_ble_eq_true rfl) ?_
  show AW l g RX10 cX10_careful 4 (some .int) false _ _ _ 0 [some (.ref 99), some (.int k), some (.int b), none] [] _ _ _
  refine AW.aload_n 1 dX10_careful_0 rfl rfl ?_
  refine AW.iload_n 2 dX10_careful_1 rfl rfl ?_
  refine AW.cVi1 5 dX10_careful_2 kX10_184 (zI rfl rfl) (Nat.le_of_ble_eq_true rfl) rfl (C_X10_isTick hT hT1 hT2 (fun b2 => ?_) (fun b2 => ?_))
  · skip
    refine AW.if_eq 8 18 dX10_careful_5 (by decide) rfl (fun h => absurd h (by decide)) (fun _ => ?_)
    refine AW.iload_n 9 dX10_careful_8 rfl rfl ?_
    refine AW.i2l 10 dX10_careful_9 rfl ?_
    refine AW.lconst 11 (lN 0) dX10_careful_10 rfl rfl ?_
    refine AW.lconst 12 (lN 1) dX10_careful_11 rfl rfl ?_
    refine AW.cSi3 15 dX10_careful_12 kX10_131 (Nat.le_of_ble_eq_true rfl) rfl (C_in (Int32.toInt_toInt64 _) (z_lN (by decide)) (z_lN (by decide)) (fun b12 => ?_) (fun b12 => ?_))
    · skip
      refine AW.if_ne 18 20 dX10_careful_15 (by decide) rfl (fun _ => ?_) (fun h => absurd h (by decide))
      obtain ⟨tick, hk, rfl, hk2⟩ := z_nI (v := k) (n := 11) (by omega) (by omega)
      obtain ⟨bn, hb, rfl, hb2⟩ := z_nI (v := b) (n := 1) (by omega) (by omega)
      refine AW.aload_n 21 dX10_careful_20 rfl rfl ?_
      refine AW.cVv0 24 dX10_careful_21 kX10_200 (zI rfl rfl) (Nat.le_of_ble_eq_true rfl) rfl (C_X10_lays (fun M1 h1 h2 => ?_))
      refine AW.iconst 25 (nI 0) dX10_careful_24 (by decide) rfl ?_
      refine AW.istn3 26 dX10_careful_25 (by decide) rfl rfl ?_
      refine L_X10_careful hT hT2 hG hM (fun i hi => (hW i hi).2.2) (by omega) (by omega) (hgo tick bn rfl (by omega) rfl (by omega)) T 0 (by omega) M1 (fun c c1 c2 _ _ _ => h1 c c1 c2) (fun t ht => absurd ht (by omega)) (fun t _ ht => ?_) (fun t ht => ?_)
      · rw [(h2 t ht).1]; exact (hW t ht).1
      · rw [(h2 t ht).2]; exact (hW t ht).2.1
    · skip
      refine AW.if_ne 18 20 dX10_careful_15 (by decide) rfl (fun h => absurd h (by decide)) (fun _ => ?_)
      refine AW.iconst 19 (-1) dX10_careful_18 (by decide) rfl ?_
      refine AW.iret dX10_careful_19 .int rfl rfl rfl ⟨_, rfl, ?_⟩
      exact hbad (by omega)
  · skip
    refine AW.if_eq 8 18 dX10_careful_5 (by decide) rfl (fun _ => ?_) (fun h => absurd h (by decide))
    refine AW.iconst 19 (-1) dX10_careful_18 (by decide) rfl ?_
    refine AW.iret dX10_careful_19 .int rfl rfl rfl ⟨_, rfl, ?_⟩
    exact hbad (by omega)
theorem L_X3_hide (hM : ∀ i, i < 12 → M 63 i = nI (ms i) ∧ ms i < 16) (hW : ∀ i, i < 12 → sg i < 16) {Q : zS → zM → Prop} (hQ : ∀ M' : zM, (∀ c, c ≠ 65 → M' c = M c) → (∀ t, t < 12 → M' 65 t = nI (sg t &&& ms t)) → Q (ZS m0 m1 md) M') :
    ∀ (z i : Nat), i + z = 12 → ∀ M', (∀ c, c ≠ 65 → M' c = M c) → (∀ t, t < i → M' 65 t = nI (sg t &&& ms t)) → (∀ t, i ≤ t → t < 12 → M' 65 t = nI (sg t)) → AW l g RX3 cX3_hide 3 none false d 0 0 2 [some (.ref 64), some (.ref 59), some (.int (nI i))] [] (ZS m0 m1 md) M' (z_Qv Q) := by
  intro z
  induction z with
  | zero =>
    intro i hi M' f h1 h2
    have hi : i = 12 := by omega
    subst hi
    refine AW.iload_n 3 dX3_hide_2 rfl rfl ?_
    refine AW.bipush 5 (nI 12) dX3_hide_3 (by decide) rfl ?_
    refine AW.icmp_ge 8 31 dX3_hide_5 (by decide) rfl (fun _ => ?_) (fun h => absurd h (by decide))
    refine AW.vret dX3_hide_31 rfl rfl ⟨rfl, ?_⟩
    exact hQ M' f h1
  | succ z ih =>
    intro i hi M' f h1 h2
    have q1 := h2 i (Nat.le_refl i) (by omega)
    have q2 : M' 63 i = nI (ms i) := by rw [f 63 (by decide)]; exact (hM i (by omega)).1
    have a1 := z_and16 (sg i) (hW i (by omega)) (ms i) (hM i (by omega)).2
    refine AW.iload_n 3 dX3_hide_2 rfl rfl ?_
    refine AW.bipush 5 (nI 12) dX3_hide_3 (by decide) rfl ?_
    refine AW.icmpN_ge 8 31 dX3_hide_5 (by decide) rfl (by omega) (by omega) (fun b5 => absurd b5 (by omega)) (fun b5 => ?_)
    refine AW.aload_n 9 dX3_hide_8 rfl rfl ?_
    refine AW.getR 12 dX3_hide_9 fX3_9 rfl (zI rfl rfl) rfl rfl ?_
    refine AW.iload_n 13 dX3_hide_12 rfl rfl ?_
    refine AW.dup2 14 dX3_hide_13 rfl rfl rfl ?_
    refine AW.iald 15 dX3_hide_14 (zA rfl rfl) rfl (by omega) (by decide) rfl ?_
    refine AW.topi (nI (sg i)) q1 ?_
    refine AW.aload_n 16 dX3_hide_15 rfl rfl ?_
    refine AW.getR 19 dX3_hide_16 fX3_27 rfl (zI rfl rfl) rfl rfl ?_
    refine AW.iconst 20 (nI 2) dX3_hide_19 (by decide) rfl ?_
    refine AW.aald 21 dX3_hide_20 (zA rfl rfl) (by decide) rfl (by omega) (by decide) rfl rfl ?_
    refine AW.iload_n 22 dX3_hide_21 rfl rfl ?_
    refine AW.iald 23 dX3_hide_22 (zA rfl rfl) rfl (by omega) (by decide) rfl ?_
    refine AW.topi (nI (ms i)) q2 ?_
    refine AW.iand 24 dX3_hide_23 rfl ?_
    refine AW.topi (nI (sg i &&& ms i)) a1.1 ?_
    refine AW.iast 25 dX3_hide_24 (zA rfl rfl) rfl (by omega) (by decide) rfl ?_
    refine AW.iinc2 28 _ dX3_hide_25 (z_inc1 _) (by decide) rfl rfl ?_
    refine AW.goto 2 dX3_hide_28 (by decide) ?_
    refine ih (i + 1) (by omega) _ (fun c c1 => by rw [z_st_ne c1]; exact f c c1) (fun t ht => ?_) (fun t t1 t2 => ?_)
    · rw [z_st_at]
      by_cases h : t = i
      · subst h; simp only [upd, if_true]
      · simp only [upd, if_neg h]; exact h1 t (by omega)
    · rw [z_st_at]; simp only [upd, if_neg (show ¬ t = i by omega)]; exact h2 t (by omega) t2
theorem C_X3_hide (hM : ∀ i, i < 12 → M 63 i = nI (ms i) ∧ ms i < 16) (hS : ∀ i, i < 12 → M 65 i = nI (sg i)) (hW : ∀ i, i < 12 → sg i < 16) {Q : zS → zM → Prop} (hQ : ∀ M' : zM, (∀ c, c ≠ 65 → M' c = M c) → (∀ t, t < 12 → M' 65 t = nI (sg t &&& ms t)) → Q (ZS m0 m1 md) M') : AMet l g yX3_hide cX3_hide 3 none d 0 0 [.ref 64, .ref 59] (ZS m0 m1 md) M (z_Qv Q) := by
  refine AMet.of (ini := false) rfl (fun h => by first | rfl | cases h) (Nat.le_of_ble_eq_true rfl) ?_
  show AW l g RX3 cX3_hide 3 none false _ _ _ 0 [some (.ref 64), some (.ref 59), none] [] _ _ _
  refine AW.iconst 1 (nI 0) dX3_hide_0 (by decide) rfl ?_
  refine AW.istn2 2 dX3_hide_1 (by decide) rfl rfl ?_
  exact L_X3_hide hM hW hQ 12 0 (by omega) M (fun _ _ => rfl) (fun t ht => absurd ht (by omega)) (fun t _ ht => hS t ht)
end CAREFUL
