theorem zMb_lt {b : Nat} (h : zMb b) : b + 13 ≤ 59 ∧ 20 ≤ b := by rcases h with rfl | rfl | rfl <;> omega
theorem f_mach_frame {M M' : zM} {b n : Nat} {H : Nat → Nat → Nat → Bool} {A : Nat → Nat} {N : Nat → Int32} (hb : zMb b) (h : ∀ c, b ≤ c → c < b + 13 → M' c = M c) (hF : f_mach M b n H A N) : f_mach M' b n H A N := by
  obtain ⟨h1, h2, h3⟩ := hF
  refine ⟨by rw [h b (by omega) (by omega)]; exact h1, h2, fun r hr => ?_⟩
  obtain ⟨a1, a2, a3, a4, a5⟩ := h3 r hr
  refine ⟨a1, by rw [h (b + 2) (by omega) (by omega)]; exact a2, by rw [h (b + 3) (by omega) (by omega)]; exact a3, a4, fun st x s1 x1 => ?_⟩
  rw [h (b + 5 + r) (by omega) (by omega)]
  exact a5 st x s1 x1
section CPLAY
variable {l : Launch} {g : zG} {d m0 m1 md : Nat} {M : zM} {T : Nat} {b n : Nat} {H : Nat → Nat → Nat → Bool} {A : Nat → Nat} {N : Nat → Int32} {pr : Nat → Bool} {pe : Int32}
theorem C_X9_noMachine {s : Int32} {Q : Int32 → zS → zM → Prop} (h1 : s.toInt < 0 ∨ 1 < s.toInt → Q (nI 1) (ZS m0 m1 md) M) (h0 : ¬ (s.toInt < 0 ∨ 1 < s.toInt) → Q (nI 0) (ZS m0 m1 md) M) : AMet l g yX9_noMachine cX9_noMachine 2 (some .boolean) (d + 1) 0 0 [.ref 0, .int s] (ZS m0 m1 md) M (z_Qi Q) := by
  refine AMet.of (ini := false) rfl (fun h => by first | rfl | cases h) (Nat.le_of_ble_eq_true rfl) ?_
  show AW l g RX9 cX9_noMachine 2 (some .boolean) false _ _ _ 0 [some (.ref 0), some (.int s)] [] _ _ _
  refine AW.iload_n 1 dX9_noMachine_0 rfl rfl ?_
  refine AW.aload_n 2 dX9_noMachine_1 rfl rfl ?_
  refine AW.getR 5 dX9_noMachine_2 fX9_28 rfl (zI rfl rfl) rfl rfl ?_
  refine AW.alen 6 dX9_noMachine_5 (zA rfl rfl) (by decide) (by decide) rfl ?_
  refine AW.iconst 7 (nI 1) dX9_noMachine_6 (by decide) rfl ?_
  refine AW.isubN 8 dX9_noMachine_7 (by decide) rfl ?_
  refine AW.cSi2 11 dX9_noMachine_8 kX9_120 (Nat.le_of_ble_eq_true rfl) rfl (C_beyond rfl (by decide : (nI (2 - 1)).toInt = 1) (fun b8 => ?_) (fun b8 => ?_))
  · skip
    refine AW.iret dX9_noMachine_11 .boolean rfl rfl rfl ⟨_, rfl, ?_⟩
    first | exact h1 (by omega) | exact h0 (by omega)
  · skip
    refine AW.iret dX9_noMachine_11 .boolean rfl rfl rfl ⟨_, rfl, ?_⟩
    first | exact h1 (by omega) | exact h0 (by omega)
theorem L_X2_choose (hb : zMb b) (hF : f_mach M b n H A N) (hp : ∀ r, r < 8 → (pr r = true ↔ ((pe >>> (nI r &&& 31)) &&& nI 1).toInt = 1)) {st x : Nat} (hst : st < 4) (hx : x < 32) {Q : Int32 → zS → zM → Prop} :
    ∀ (q r : Nat), r + q = n → Q (nI (z_fst (fun r => pr r && H r st x) r q)) (ZS m0 m1 md) M → AW l g RX2 cX2_choose 5 (some .int) false d 0 0 3 [some (.ref b), some (.int pe), some (.int (nI st)), some (.int (nI x)), some (.int (nI r))] [] (ZS m0 m1 md) M (z_Qi Q) := by
  have h8 := hF.2.1
  intro q
  induction q with
  | zero =>
    intro r hr hQ
    refine AW.iload 5 dX2_choose_3 rfl rfl ?_
    refine AW.aload_n 6 dX2_choose_5 rfl rfl ?_
    refine AW.getI 9 dX2_choose_6 fX2_26 rfl (zMb_is hb) rfl ?_
    refine AW.topi (nI n) hF.1 ?_
    refine AW.icmpN_ge 12 48 dX2_choose_9 (by decide) rfl (by omega) (by omega) (fun b9 => ?_) (fun b9 => absurd b9 (by omega))
    refine AW.bipush 50 (nI 8) dX2_choose_48 (by decide) rfl ?_
    refine AW.iret dX2_choose_50 .int rfl rfl rfl ⟨_, rfl, ?_⟩
    exact hQ
  | succ q ih =>
    intro r hr hQ
    have e1 := hp r (by omega)
    have e2 := (hF.2.2 r (by omega)).2.2.2.2 st x hst hx
    unfold z_fst at hQ
    refine AW.iload 5 dX2_choose_3 rfl rfl ?_
    refine AW.aload_n 6 dX2_choose_5 rfl rfl ?_
    refine AW.getI 9 dX2_choose_6 fX2_26 rfl (zMb_is hb) rfl ?_
    refine AW.topi (nI n) hF.1 ?_
    refine AW.icmpN_ge 12 48 dX2_choose_9 (by decide) rfl (by omega) (by omega) (fun b9 => absurd b9 (by omega)) (fun b9 => ?_)
    refine AW.iload_n 13 dX2_choose_12 rfl rfl ?_
    refine AW.iload 15 dX2_choose_13 rfl rfl ?_
    refine AW.ishr 16 dX2_choose_15 rfl ?_
    refine AW.iconst 17 (nI 1) dX2_choose_16 (by decide) rfl ?_
    refine AW.iand 18 dX2_choose_17 rfl ?_
    refine AW.iconst 19 (nI 1) dX2_choose_18 (by decide) rfl ?_
    refine AW.zicmp_ne 22 42 dX2_choose_19 (by decide) rfl rfl (by decide : (nI 1).toInt = 1) (fun b19 => ?_) (fun b19 => ?_)
    · skip
      rw [if_neg (by rw [Bool.and_eq_true]; intro z; first | exact b19 (e1.mp z.1) | exact b36 (e2.mp z.2))] at hQ
      refine AW.iinc4 45 _ dX2_choose_42 (z_inc1 _) (by decide) rfl rfl ?_
      refine AW.goto 3 dX2_choose_45 (by decide) ?_
      exact ih (r + 1) (by omega) hQ
    · skip
      refine AW.aload_n 23 dX2_choose_22 rfl rfl ?_
      refine AW.getR 26 dX2_choose_23 fX2_23 rfl (zMb_is hb) (zMb_r3 hb) rfl ?_
      refine AW.iload 28 dX2_choose_26 rfl rfl ?_
      refine AW.aald 29 dX2_choose_28 (zMb_a4 hb) (by decide) rfl (by omega) (by decide) (zMb_rr hb (by omega)) rfl ?_
      refine AW.iload_n 30 dX2_choose_29 rfl rfl ?_
      refine AW.iald 31 dX2_choose_30 (zMb_ar hb (by omega)) rfl (by omega) (by decide) rfl ?_
      refine AW.iload_n 32 dX2_choose_31 rfl rfl ?_
      refine AW.iushr 33 dX2_choose_32 rfl ?_
      refine AW.iconst 34 (nI 1) dX2_choose_33 (by decide) rfl ?_
      refine AW.iand 35 dX2_choose_34 rfl ?_
      refine AW.iconst 36 (nI 1) dX2_choose_35 (by decide) rfl ?_
      refine AW.zicmp_ne 39 42 dX2_choose_36 (by decide) rfl rfl (by decide : (nI 1).toInt = 1) (fun b36 => ?_) (fun b36 => ?_)
      · skip
        rw [if_neg (by rw [Bool.and_eq_true]; intro z; first | exact b19 (e1.mp z.1) | exact b36 (e2.mp z.2))] at hQ
        refine AW.iinc4 45 _ dX2_choose_42 (z_inc1 _) (by decide) rfl rfl ?_
        refine AW.goto 3 dX2_choose_45 (by decide) ?_
        exact ih (r + 1) (by omega) hQ
      · skip
        refine AW.iload 41 dX2_choose_39 rfl rfl ?_
        refine AW.iret dX2_choose_41 .int rfl rfl rfl ⟨_, rfl, ?_⟩
        rw [if_pos (by rw [Bool.and_eq_true]; exact ⟨e1.mpr b19, e2.mpr b36⟩)] at hQ
        exact hQ
theorem C_X2_choose (hb : zMb b) (hF : f_mach M b n H A N) (hp : ∀ r, r < 8 → (pr r = true ↔ ((pe >>> (nI r &&& 31)) &&& nI 1).toInt = 1)) {st x : Nat} (hst : st < 4) (hx : x < 32) {Q : Int32 → zS → zM → Prop} (hQ : Q (nI (z_ch n H pr st x)) (ZS m0 m1 md) M) : AMet l g yX2_choose cX2_choose 5 (some .int) d 0 0 [.ref b, .int pe, .int (nI st), .int (nI x)] (ZS m0 m1 md) M (z_Qi Q) := by
  refine AMet.of (ini := false) rfl (fun h => by first | rfl | cases h) (Nat.le_of_ble_eq_true rfl) ?_
  show AW l g RX2 cX2_choose 5 (some .int) false _ _ _ 0 [some (.ref b), some (.int pe), some (.int (nI st)), some (.int (nI x)), none] [] _ _ _
  refine AW.iconst 1 (nI 0) dX2_choose_0 (by decide) rfl ?_
  refine AW.ist4 3 dX2_choose_1 (by decide) rfl rfl ?_
  exact L_X2_choose hb hF hp hst hx n 0 (by omega) hQ
theorem C_X2_actOf (hb : zMb b) (hF : f_mach M b n H A N) {r : Nat} (hr : r ≤ 8) {Q : Int32 → zS → zM → Prop} (hQ : Q (nI (z_act n A r)) (ZS m0 m1 md) M) : AMet l g yX2_actOf cX2_actOf 2 (some .int) d 0 0 [.ref b, .int (nI r)] (ZS m0 m1 md) M (z_Qi Q) := by
  have h8 := hF.2.1
  unfold z_act at hQ
  refine AMet.of (ini := false) rfl (fun h => by first | rfl | cases h) (Nat.le_of_ble_eq_true rfl) ?_
  show AW l g RX2 cX2_actOf 2 (some .int) false _ _ _ 0 [some (.ref b), some (.int (nI r))] [] _ _ _
  refine AW.iload_n 1 dX2_actOf_0 rfl rfl ?_
  refine AW.aload_n 2 dX2_actOf_1 rfl rfl ?_
  refine AW.getI 5 dX2_actOf_2 fX2_26 rfl (zMb_is hb) rfl ?_
  refine AW.topi (nI n) hF.1 ?_
  refine AW.icmpN_ge 8 17 dX2_actOf_5 (by decide) rfl (by omega) (by omega) (fun b5 => ?_) (fun b5 => ?_)
  · skip
    refine AW.iconst 18 (nI 0) dX2_actOf_17 (by decide) rfl ?_
    refine AW.iret dX2_actOf_18 .int rfl rfl rfl ⟨_, rfl, ?_⟩
    split at hQ <;> first | exact hQ | (exfalso; omega)
  · skip
    refine AW.aload_n 9 dX2_actOf_8 rfl rfl ?_
    refine AW.getR 12 dX2_actOf_9 fX2_15 rfl (zMb_is hb) (zMb_r1 hb) rfl ?_
    refine AW.iload_n 13 dX2_actOf_12 rfl rfl ?_
    refine AW.iald 14 dX2_actOf_13 (zMb_a2 hb) rfl (by omega) (by decide) rfl ?_
    refine AW.topi (nI (A r)) (hF.2.2 r (by omega)).2.1 ?_
    refine AW.goto 18 dX2_actOf_14 (by decide) ?_
    refine AW.iret dX2_actOf_18 .int rfl rfl rfl ⟨_, rfl, ?_⟩
    split at hQ <;> first | exact hQ | (exfalso; omega)
theorem C_X2_stateAfter (hb : zMb b) (hF : f_mach M b n H A N) {r st : Nat} (hr : r ≤ 8) (hst : st < 4) {Q : Int32 → zS → zM → Prop} (hQ : Q (nI (z_nx n N r st)) (ZS m0 m1 md) M) : AMet l g yX2_stateAfter cX2_stateAfter 3 (some .int) d 0 0 [.ref b, .int (nI r), .int (nI st)] (ZS m0 m1 md) M (z_Qi Q) := by
  have h8 := hF.2.1
  have hN2 := hF.nx r
  have q1 : r < n → ¬ (N r).toInt = -4 → 0 ≤ (N r).toInt := fun h h0 => by
    rcases hN2 h with e | ⟨s, s1, e⟩
    · rw [e, z_m4] at h0; omega
    · rw [e, z_ti (by omega)]; omega
  refine AMet.of (ini := false) rfl (fun h => by first | rfl | cases h) (Nat.le_of_ble_eq_true rfl) ?_
  show AW l g RX2 cX2_stateAfter 3 (some .int) false _ _ _ 0 [some (.ref b), some (.int (nI r)), some (.int (nI st))] [] _ _ _
  refine AW.iload_n 1 dX2_stateAfter_0 rfl rfl ?_
  refine AW.aload_n 2 dX2_stateAfter_1 rfl rfl ?_
  refine AW.getI 5 dX2_stateAfter_2 fX2_26 rfl (zMb_is hb) rfl ?_
  refine AW.topi (nI n) hF.1 ?_
  refine AW.icmpN_ge 8 28 dX2_stateAfter_5 (by decide) rfl (by omega) (by omega) (fun b5 => ?_) (fun b5 => ?_)
  · skip
    refine AW.iload_n 29 dX2_stateAfter_28 rfl rfl ?_
    refine AW.iret dX2_stateAfter_29 .int rfl rfl rfl ⟨_, rfl, ?_⟩
    first | (rw [z_nx_pos (by omega) (hN2 (by omega)) (q1 (by omega) b16)] at hQ; exact hQ) | (rw [z_nx_neg (by omega) (hN2 (by omega)) (by omega)] at hQ; exact hQ) | (unfold z_nx at hQ; rw [if_neg (fun z => by omega)] at hQ; exact hQ)
  · skip
    refine AW.aload_n 9 dX2_stateAfter_8 rfl rfl ?_
    refine AW.getR 12 dX2_stateAfter_9 fX2_18 rfl (zMb_is hb) (zMb_r2 hb) rfl ?_
    refine AW.iload_n 13 dX2_stateAfter_12 rfl rfl ?_
    refine AW.iald 14 dX2_stateAfter_13 (zMb_a3 hb) rfl (by omega) (by decide) rfl ?_
    refine AW.topi (N r) (hF.2.2 r (by omega)).2.2.1 ?_
    refine AW.bipush 16 (-4) dX2_stateAfter_14 (by decide) rfl ?_
    refine AW.zicmp_eq 19 28 dX2_stateAfter_16 (by decide) rfl rfl (by decide : (-4 : Int32).toInt = -4) (fun b16 => ?_) (fun b16 => ?_)
    · skip
      refine AW.iload_n 29 dX2_stateAfter_28 rfl rfl ?_
      refine AW.iret dX2_stateAfter_29 .int rfl rfl rfl ⟨_, rfl, ?_⟩
      first | (rw [z_nx_pos (by omega) (hN2 (by omega)) (q1 (by omega) b16)] at hQ; exact hQ) | (rw [z_nx_neg (by omega) (hN2 (by omega)) (by omega)] at hQ; exact hQ) | (unfold z_nx at hQ; rw [if_neg (fun z => by omega)] at hQ; exact hQ)
    · skip
      refine AW.aload_n 20 dX2_stateAfter_19 rfl rfl ?_
      refine AW.getR 23 dX2_stateAfter_20 fX2_18 rfl (zMb_is hb) (zMb_r2 hb) rfl ?_
      refine AW.iload_n 24 dX2_stateAfter_23 rfl rfl ?_
      refine AW.iald 25 dX2_stateAfter_24 (zMb_a3 hb) rfl (by omega) (by decide) rfl ?_
      refine AW.topi (N r) (hF.2.2 r (by omega)).2.2.1 ?_
      refine AW.goto 29 dX2_stateAfter_25 (by decide) ?_
      refine AW.iret dX2_stateAfter_29 .int rfl rfl rfl ⟨_, rfl, ?_⟩
      first | (rw [z_nx_pos (by omega) (hN2 (by omega)) (q1 (by omega) b16)] at hQ; exact hQ) | (rw [z_nx_neg (by omega) (hN2 (by omega)) (by omega)] at hQ; exact hQ) | (unfold z_nx at hQ; rw [if_neg (fun z => by omega)] at hQ; exact hQ)
theorem C_X3_look {Q : zS → zM → Prop} (hQ : ∀ M' : zM, (∀ c, c ≠ 65 → c ≠ 66 → M' c = M c) → (∀ t, t < 12 → M' 65 t = M 61 t ∧ M' 66 t = M 62 t) → Q (ZS m0 m1 md) M') : AMet l g yX3_look cX3_look 2 none (d + 1) 0 0 [.ref 64, .ref 59] (ZS m0 m1 md) M (z_Qv Q) := by
  refine AMet.of (ini := false) rfl (fun h => by first | rfl | cases h) (Nat.le_of_ble_eq_true rfl) ?_
  show AW l g RX3 cX3_look 2 none false _ _ _ 0 [some (.ref 64), some (.ref 59)] [] _ _ _
  refine AW.aload_n 1 dX3_look_0 rfl rfl ?_
  refine AW.getR 4 dX3_look_1 fX3_27 rfl (zI rfl rfl) rfl rfl ?_
  refine AW.iconst 5 (nI 0) dX3_look_4 (by decide) rfl ?_
  refine AW.aald 6 dX3_look_5 (zA rfl rfl) (by decide) rfl (by omega) (by decide) rfl rfl ?_
  refine AW.iconst 7 (nI 0) dX3_look_6 (by decide) rfl ?_
  refine AW.aload_n 8 dX3_look_7 rfl rfl ?_
  refine AW.getR 11 dX3_look_8 fX3_9 rfl (zI rfl rfl) rfl rfl ?_
  refine AW.iconst 12 (nI 0) dX3_look_11 (by decide) rfl ?_
  refine AW.bipush 14 (nI 12) dX3_look_12 (by decide) rfl ?_
  refine AW.copy 17 dX3_look_14 qX3_33 (zA rfl rfl) (zA rfl rfl) rfl rfl rfl (by omega) (by omega) (by decide) (by decide) (Nat.le_of_ble_eq_true rfl) rfl ?_
  refine AW.aload_n 18 dX3_look_17 rfl rfl ?_
  refine AW.getR 21 dX3_look_18 fX3_27 rfl (zI rfl rfl) rfl rfl ?_
  refine AW.iconst 22 (nI 1) dX3_look_21 (by decide) rfl ?_
  refine AW.aald 23 dX3_look_22 (zA rfl rfl) (by decide) rfl (by omega) (by decide) rfl rfl ?_
  refine AW.iconst 24 (nI 0) dX3_look_23 (by decide) rfl ?_
  refine AW.aload_n 25 dX3_look_24 rfl rfl ?_
  refine AW.getR 28 dX3_look_25 fX3_15 rfl (zI rfl rfl) rfl rfl ?_
  refine AW.iconst 29 (nI 0) dX3_look_28 (by decide) rfl ?_
  refine AW.bipush 31 (nI 12) dX3_look_29 (by decide) rfl ?_
  refine AW.copy 34 dX3_look_31 qX3_33 (zA rfl rfl) (zA rfl rfl) rfl rfl rfl (by omega) (by omega) (by decide) (by decide) (Nat.le_of_ble_eq_true rfl) rfl ?_
  refine AW.vret dX3_look_34 rfl rfl ⟨rfl, ?_⟩
  refine hQ _ (fun c c1 c2 => by rw [z_row_ne _ c2, z_row_ne _ c1]) (fun t ht => ⟨?_, ?_⟩)
  · rw [z_row_ne _ (by decide : (65 : Nat) ≠ 66), z_row_at, pk_cpy_in (by omega) (by omega)]; congr 1; omega
  · rw [z_row_at, pk_cpy_in (by omega) (by omega), z_row_ne _ (by decide : (62 : Nat) ≠ 65)]; congr 1; omega
theorem L_X3_run (hT2 : T ≤ 12) (hb : zMb b) (hF : f_mach M b n H A N) (hp : ∀ r, r < 8 → (pr r = true ↔ ((pe >>> (nI r &&& 31)) &&& nI 1).toInt = 1)) {sg lt : Nat → Nat} (hx : ∀ t, t < T → M 65 t = nI (sg t) ∧ M 66 t = nI (lt t) ∧ sg t < 16 ∧ lt t < 2) {Q : zS → zM → Prop} (hQ : ∀ M' : zM, (∀ c, c ≠ 67 → c ≠ 68 → c ≠ 69 → M' c = M c) → z_pl M' 67 68 69 T n H A N pr (fun t => 2 * sg t + lt t) → Q (ZS m0 m1 md) M') :
    ∀ (q i : Nat) (v6 : Option Value), i + q = T → ∀ M' : zM, (∀ c, c ≠ 67 → c ≠ 68 → c ≠ 69 → M' c = M c) → z_pl M' 67 68 69 i n H A N pr (fun t => 2 * sg t + lt t) →
    AW l g RX3 cX3_run 7 none false (d + 1) 0 0 6 [some (.ref 64), some (.ref b), some (.int pe), some (.int (nI T)), some (.int (nI (z_ps n H N pr (fun t => 2 * sg t + lt t) i))), some (.int (nI i)), v6] [] (ZS m0 m1 md) M' (z_Qv Q) := by
  have h8 := hF.2.1
  have hbl := zMb_lt hb
  intro q
  induction q with
  | zero =>
    intro i v6 hi M' h1 h2
    have hi : i = T := by omega
    subst hi
    refine AW.iload 8 dX3_run_6 rfl rfl ?_
    refine AW.iload_n 9 dX3_run_8 rfl rfl ?_
    refine AW.icmpN_ge 12 85 dX3_run_9 (by decide) rfl (by omega) (by omega) (fun b9 => ?_) (fun b9 => absurd b9 (by omega))
    refine AW.vret dX3_run_85 rfl rfl ⟨rfl, ?_⟩
    exact hQ M' h1 h2
  | succ q ih =>
    intro i v6 hi M' h1 h2
    have hs := z_ps_lt (H := H) (pr := pr) (x := fun t => 2 * sg t + lt t) hF.nx i
    obtain ⟨x1, x2, x3, x4⟩ := hx i (by omega)
    rw [← h1 65 (by decide) (by decide) (by decide)] at x1
    rw [← h1 66 (by decide) (by decide) (by decide)] at x2
    have hF' : ∀ M2 : zM, (∀ c, c ≠ 67 → c ≠ 68 → c ≠ 69 → M2 c = M' c) → f_mach M2 b n H A N := fun M2 h => f_mach_frame hb (fun c c1 c2 => by rw [h c (by omega) (by omega) (by omega), h1 c (by omega) (by omega) (by omega)]) hF
    have hps : z_ps n H N pr (fun t => 2 * sg t + lt t) (i + 1) = z_nx n N (z_ch n H pr (z_ps n H N pr (fun t => 2 * sg t + lt t) i) (2 * sg i + lt i)) (z_ps n H N pr (fun t => 2 * sg t + lt t) i) := rfl
    have ih' := ih (i + 1)
    rw [hps] at ih'
    have h2' : ∀ M2 : zM, (∀ t, t < i → M2 67 t = M' 67 t ∧ M2 68 t = M' 68 t ∧ M2 69 t = M' 69 t) → M2 67 i = nI (z_ps n H N pr (fun t => 2 * sg t + lt t) i) → M2 68 i = nI (z_ch n H pr (z_ps n H N pr (fun t => 2 * sg t + lt t) i) (2 * sg i + lt i)) → M2 69 i = nI (z_act n A (z_ch n H pr (z_ps n H N pr (fun t => 2 * sg t + lt t) i) (2 * sg i + lt i))) → z_pl M2 67 68 69 (i + 1) n H A N pr (fun t => 2 * sg t + lt t) := by
      intro M2 a1 a2 a3 a4 t ht
      rcases Nat.lt_or_ge t i with h | h
      · rw [(a1 t h).1, (a1 t h).2.1, (a1 t h).2.2]; exact h2 t h
      · have : t = i := by omega
        subst this; exact ⟨a2, a3, a4⟩
    generalize z_ps n H N pr (fun t => 2 * sg t + lt t) i = st at hs ih' h2' ⊢
    have hr := z_fst_lt (fun r => pr r && H r st (2 * sg i + lt i)) h8
    have hch : ∀ Q' : Int32 → zS → zM → Prop, Q' (nI (z_ch n H pr st (2 * sg i + lt i))) (ZS m0 m1 md) M' → AMet l g yX2_choose cX2_choose 5 (some .int) d 0 0 [.ref b, .int pe, .int (nI st), .int (nI (2 * sg i + lt i))] (ZS m0 m1 md) M' (z_Qi Q') := fun Q' h => C_X2_choose hb (hF' M' (fun _ _ _ _ => rfl)) hp hs (by omega) h
    have hr : z_ch n H pr st (2 * sg i + lt i) ≤ 8 := hr
    generalize z_ch n H pr st (2 * sg i + lt i) = r at hr hch ih' h2'
    refine AW.iload 8 dX3_run_6 rfl rfl ?_
    refine AW.iload_n 9 dX3_run_8 rfl rfl ?_
    refine AW.icmpN_ge 12 85 dX3_run_9 (by decide) rfl (by omega) (by omega) (fun b9 => absurd b9 (by omega)) (fun b9 => ?_)
    refine AW.aload_n 13 dX3_run_12 rfl rfl ?_
    refine AW.iload_n 14 dX3_run_13 rfl rfl ?_
    refine AW.iload 16 dX3_run_14 rfl rfl ?_
    refine AW.iconst 17 (nI 2) dX3_run_16 (by decide) rfl ?_
    refine AW.aload_n 18 dX3_run_17 rfl rfl ?_
    refine AW.getR 21 dX3_run_18 fX3_9 rfl (zI rfl rfl) rfl rfl ?_
    refine AW.iload 23 dX3_run_21 rfl rfl ?_
    refine AW.iald 24 dX3_run_23 (zA rfl rfl) rfl (by omega) (by decide) rfl ?_
    refine AW.topi (nI (sg i)) x1 ?_
    refine AW.imulN 25 dX3_run_24 rfl ?_
    refine AW.aload_n 26 dX3_run_25 rfl rfl ?_
    refine AW.getR 29 dX3_run_26 fX3_15 rfl (zI rfl rfl) rfl rfl ?_
    refine AW.iload 31 dX3_run_29 rfl rfl ?_
    refine AW.iald 32 dX3_run_31 (zA rfl rfl) rfl (by omega) (by decide) rfl ?_
    refine AW.topi (nI (lt i)) x2 ?_
    refine AW.iaddN 33 dX3_run_32 rfl ?_
    refine AW.cVi3 36 dX3_run_33 kX3_39 (zMb_is hb) (Nat.le_of_ble_eq_true rfl) rfl (hch _ ?_)
    refine AW.ist6 38 dX3_run_36 (by decide) rfl rfl ?_
    refine AW.aload_n 39 dX3_run_38 rfl rfl ?_
    refine AW.getR 42 dX3_run_39 fX3_18 rfl (zI rfl rfl) rfl rfl ?_
    refine AW.iload 44 dX3_run_42 rfl rfl ?_
    refine AW.iload 46 dX3_run_44 rfl rfl ?_
    refine AW.iast 47 dX3_run_46 (zA rfl rfl) rfl (by omega) (by decide) rfl ?_
    refine AW.aload_n 48 dX3_run_47 rfl rfl ?_
    refine AW.getR 51 dX3_run_48 fX3_21 rfl (zI rfl rfl) rfl rfl ?_
    refine AW.iload 53 dX3_run_51 rfl rfl ?_
    refine AW.iload 55 dX3_run_53 rfl rfl ?_
    refine AW.iast 56 dX3_run_55 (zA rfl rfl) rfl (by omega) (by decide) rfl ?_
    refine AW.aload_n 57 dX3_run_56 rfl rfl ?_
    refine AW.getR 60 dX3_run_57 fX3_24 rfl (zI rfl rfl) rfl rfl ?_
    refine AW.iload 62 dX3_run_60 rfl rfl ?_
    refine AW.aload_n 63 dX3_run_62 rfl rfl ?_
    refine AW.iload 65 dX3_run_63 rfl rfl ?_
    refine AW.cVi1 68 dX3_run_65 kX3_45 (zMb_is hb) (Nat.le_of_ble_eq_true rfl) rfl (C_X2_actOf hb (hF' _ (fun c c1 c2 _ => by rw [z_st_ne c2, z_st_ne c1])) (by omega) ?_)
    refine AW.iast 69 dX3_run_68 (zA rfl rfl) rfl (by omega) (by decide) rfl ?_
    refine AW.aload_n 70 dX3_run_69 rfl rfl ?_
    refine AW.iload 72 dX3_run_70 rfl rfl ?_
    refine AW.iload 74 dX3_run_72 rfl rfl ?_
    refine AW.cVi2 77 dX3_run_74 kX3_49 (zMb_is hb) (Nat.le_of_ble_eq_true rfl) rfl (C_X2_stateAfter hb (hF' _ (fun c c1 c2 c3 => by rw [z_st_ne c3, z_st_ne c2, z_st_ne c1])) (by omega) hs ?_)
    refine AW.ist4 79 dX3_run_77 (by decide) rfl rfl ?_
    refine AW.iinc5 82 _ dX3_run_79 (z_inc1 _) (by decide) rfl rfl ?_
    refine AW.goto 6 dX3_run_82 (by decide) ?_
    refine ih' _ (by omega) _ (fun c c1 c2 c3 => ?_) (h2' _ (fun t ht => ?_) ?_ ?_ ?_)
    · rw [z_st_ne c3, z_st_ne c2, z_st_ne c1]; exact h1 c c1 c2 c3
    · rw [z_st_at, z_st_ne (by decide : (67 : Nat) ≠ 69), z_st_ne (by decide : (67 : Nat) ≠ 68), z_st_at, z_st_ne (by decide : (68 : Nat) ≠ 69), z_st_at, z_st_ne (by decide : (68 : Nat) ≠ 67), z_st_ne (by decide : (69 : Nat) ≠ 68), z_st_ne (by decide : (69 : Nat) ≠ 67)]
      unfold upd
      rw [if_neg (by omega), if_neg (by omega), if_neg (by omega)]; exact ⟨rfl, rfl, rfl⟩
    · rw [z_st_ne (by decide : (67 : Nat) ≠ 69), z_st_ne (by decide : (67 : Nat) ≠ 68), z_st_at]
      unfold upd; rw [if_pos rfl]
    · rw [z_st_ne (by decide : (68 : Nat) ≠ 69), z_st_at]
      unfold upd; rw [if_pos rfl]
    · rw [z_st_at]
      unfold upd; rw [if_pos rfl]
theorem C_X3_run (hT2 : T ≤ 12) (hb : zMb b) (hF : f_mach M b n H A N) (hp : ∀ r, r < 8 → (pr r = true ↔ ((pe >>> (nI r &&& 31)) &&& nI 1).toInt = 1)) {sg lt : Nat → Nat} (hx : ∀ t, t < T → M 65 t = nI (sg t) ∧ M 66 t = nI (lt t) ∧ sg t < 16 ∧ lt t < 2) {Q : zS → zM → Prop} (hQ : ∀ M' : zM, (∀ c, c ≠ 67 → c ≠ 68 → c ≠ 69 → M' c = M c) → z_pl M' 67 68 69 T n H A N pr (fun t => 2 * sg t + lt t) → Q (ZS m0 m1 md) M') : AMet l g yX3_run cX3_run 7 none (d + 1) 0 0 [.ref 64, .ref b, .int pe, .int (nI T)] (ZS m0 m1 md) M (z_Qv Q) := by
  refine AMet.of (ini := false) rfl (fun h => by first | rfl | cases h) (Nat.le_of_ble_eq_true rfl) ?_
  show AW l g RX3 cX3_run 7 none false _ _ _ 0 [some (.ref 64), some (.ref b), some (.int pe), some (.int (nI T)), none, none, none] [] _ _ _
  refine AW.iconst 1 (nI 0) dX3_run_0 (by decide) rfl ?_
  refine AW.ist4 3 dX3_run_1 (by decide) rfl rfl ?_
  refine AW.iconst 4 (nI 0) dX3_run_3 (by decide) rfl ?_
  refine AW.ist5 6 dX3_run_4 (by decide) rfl rfl ?_
  exact L_X3_run hT2 hb hF hp hx hQ T 0 none (by omega) M (fun _ _ _ _ => rfl) (fun t ht => absurd ht (by omega))
end CPLAY
