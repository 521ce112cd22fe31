section DOING
variable {l : Launch} {g : zG} {d m0 m1 md : Nat} {M : zM} {T n t tick : Nat} {H : Nat → Nat → Nat → Bool} {A : Nat → Nat} {N : Nat → Int32} {mk tk tt tn sg lt : Nat → Nat}
theorem z_oa_lt {M : zM} {b : Nat} (hF : f_mach M b n H A N) (pr : Nat → Bool) : z_oa n H A N sg lt pr tick < 4 := by
  unfold z_oa z_act; split
  · rename_i hr; exact (hF.2.2 _ hr).1
  · omega
theorem C_X9_comesWithRules (hb0 : zMb m0) (hF : f_mach M m0 n H A N) (hW : ∀ i, i < 12 → M 65 i = nI (sg i) ∧ M 66 i = nI (lt i) ∧ sg i < 16 ∧ lt i < 2) (hd : M 0 15 = nI tick) (htick : tick < 12) {q : Nat} (hq : q < 256) {pr : Nat → Bool} (hp : ∀ j, j < 8 → q.testBit j = pr j) {Q : Int32 → zS → zM → Prop}
    (h1 : (M 0 14).toInt = z_oa n H A N sg lt pr tick → ∀ M', (∀ c, c ≠ 67 → c ≠ 68 → c ≠ 69 → M' c = M c) → Q (nI 1) (ZS m0 m1 md) M') (h0 : ¬ (M 0 14).toInt = z_oa n H A N sg lt pr tick → ∀ M', (∀ c, c ≠ 67 → c ≠ 68 → c ≠ 69 → M' c = M c) → Q (nI 0) (ZS m0 m1 md) M') : AMet l g yX9_comesWithRules cX9_comesWithRules 2 (some .boolean) (d + 2) 0 0 [.ref 0, .int (nI q)] (ZS m0 m1 md) M (z_Qi Q) := by
  have hlt := z_oa_lt (sg := sg) (lt := lt) (tick := tick) hF pr
  refine AMet.of (ini := false) rfl (fun h => by first | rfl | cases h) (Nat.le_of_ble_eq_true rfl) ?_
  show AW l g RX9 cX9_comesWithRules 2 (some .boolean) false _ _ _ 0 [some (.ref 0), some (.int (nI q))] [] _ _ _
  refine AW.aload_n 1 dX9_comesWithRules_0 rfl rfl ?_
  refine AW.getR 4 dX9_comesWithRules_1 fX9_46 rfl (zI rfl rfl) rfl rfl ?_
  refine AW.aload_n 5 dX9_comesWithRules_4 rfl rfl ?_
  refine AW.getR 8 dX9_comesWithRules_5 fX9_28 rfl (zI rfl rfl) rfl rfl ?_
  refine AW.iconst 9 (nI 0) dX9_comesWithRules_8 (by decide) rfl ?_
  refine AW.aald 10 dX9_comesWithRules_9 (zA rfl rfl) (by decide) rfl (by omega) (by decide) rfl rfl ?_
  refine AW.iload_n 11 dX9_comesWithRules_10 rfl rfl ?_
  refine AW.aload_n 12 dX9_comesWithRules_11 rfl rfl ?_
  refine AW.getI 15 dX9_comesWithRules_12 fX9_97 rfl (zI rfl rfl) rfl ?_
  refine AW.topi (nI tick) hd ?_
  refine AW.iconst 16 (nI 1) dX9_comesWithRules_15 (by decide) rfl ?_
  refine AW.iaddN 17 dX9_comesWithRules_16 rfl ?_
  refine AW.cVv3 20 dX9_comesWithRules_17 kX9_236 (zI rfl rfl) (Nat.le_of_ble_eq_true rfl) rfl (C_X3_run (by omega) hb0 hF (pr := pr) (fun r hr => by rw [← hp r hr]; exact z_bit_i hq hr) (sg := sg) (lt := lt) (fun i hi => hW i (by omega)) (fun M1 k1 k2 => ?_))
  have d0 : M1 0 15 = nI tick := by rw [k1 0 (by decide) (by decide) (by decide)]; exact hd
  have a0 : M1 0 14 = M 0 14 := by rw [k1 0 (by decide) (by decide) (by decide)]
  have v0 := (k2 tick (by omega)).2.2
  refine AW.aload_n 21 dX9_comesWithRules_20 rfl rfl ?_
  refine AW.getR 24 dX9_comesWithRules_21 fX9_46 rfl (zI rfl rfl) rfl rfl ?_
  refine AW.getR 27 dX9_comesWithRules_24 fX9_169 rfl (zI rfl rfl) rfl rfl ?_
  refine AW.aload_n 28 dX9_comesWithRules_27 rfl rfl ?_
  refine AW.getI 31 dX9_comesWithRules_28 fX9_97 rfl (zI rfl rfl) rfl ?_
  refine AW.topi (nI tick) d0 ?_
  refine AW.iald 32 dX9_comesWithRules_31 (zA rfl rfl) rfl (by omega) (by decide) rfl ?_
  refine AW.topi (nI (z_oa n H A N sg lt pr tick)) v0 ?_
  refine AW.aload_n 33 dX9_comesWithRules_32 rfl rfl ?_
  refine AW.getI 36 dX9_comesWithRules_33 fX9_93 rfl (zI rfl rfl) rfl ?_
  refine AW.topi (M 0 14) a0 ?_
  refine AW.zicmp_ne 39 43 dX9_comesWithRules_36 (by decide) rfl (z_ti (by omega)) rfl (fun b36 => ?_) (fun b36 => ?_)
  · skip
    refine AW.iconst 44 (nI 0) dX9_comesWithRules_43 (by decide) rfl ?_
    refine AW.iret dX9_comesWithRules_44 .boolean rfl rfl rfl ⟨_, rfl, ?_⟩
    first | exact h1 (by omega) M1 k1 | exact h0 (fun z => by omega) M1 k1
  · skip
    refine AW.iconst 40 (nI 1) dX9_comesWithRules_39 (by decide) rfl ?_
    refine AW.goto 44 dX9_comesWithRules_40 (by decide) ?_
    refine AW.iret dX9_comesWithRules_44 .boolean rfl rfl rfl ⟨_, rfl, ?_⟩
    first | exact h1 (by omega) M1 k1 | exact h0 (fun z => by omega) M1 k1
theorem C_X9_comesOtherwise (hb0 : zMb m0) (hF : f_mach M m0 n H A N) (hW : ∀ i, i < 12 → M 61 i = nI (sg i) ∧ M 62 i = nI (lt i) ∧ sg i < 16 ∧ lt i < 2) (ht : M 83 3 = nI t) (ht2 : t ≤ 6) (hth : ∀ k, k < t → M 84 k = nI (tk k) ∧ M 85 k = nI (tt k) ∧ M 86 k = nI (tn k)) (hok : z_tok t tk tt tn) (hd : M 0 15 = nI tick) (htick : tick < 12) {s : Nat} (hs : s < 64) {Q : Int32 → zS → zM → Prop}
    (h1 : (M 0 14).toInt = z_oa n H A N (z_uS s tk tt tn sg t) (z_uL s tk tt lt t) (z_uP s tk tn (fun _ => true) t) tick → ∀ M', (∀ c, c ≠ 65 → c ≠ 66 → c ≠ 67 → c ≠ 68 → c ≠ 69 → M' c = M c) → Q (nI 1) (ZS m0 m1 md) M')
    (h0 : ¬ (M 0 14).toInt = z_oa n H A N (z_uS s tk tt tn sg t) (z_uL s tk tt lt t) (z_uP s tk tn (fun _ => true) t) tick → ∀ M', (∀ c, c ≠ 65 → c ≠ 66 → c ≠ 67 → c ≠ 68 → c ≠ 69 → M' c = M c) → Q (nI 0) (ZS m0 m1 md) M') : AMet l g yX9_comesOtherwise cX9_comesOtherwise 3 (some .boolean) (d + 3) 0 0 [.ref 0, .int (nI s)] (ZS m0 m1 md) M (z_Qi Q) := by
  have hbl := zMb_lt hb0
  refine AMet.of (ini := false) rfl (fun h => by first | rfl | cases h) (Nat.le_of_ble_eq_true rfl) ?_
  show AW l g RX9 cX9_comesOtherwise 3 (some .boolean) false _ _ _ 0 [some (.ref 0), some (.int (nI s)), none] [] _ _ _
  refine AW.aload_n 1 dX9_comesOtherwise_0 rfl rfl ?_
  refine AW.getR 4 dX9_comesOtherwise_1 fX9_46 rfl (zI rfl rfl) rfl rfl ?_
  refine AW.aload_n 5 dX9_comesOtherwise_4 rfl rfl ?_
  refine AW.getR 8 dX9_comesOtherwise_5 fX9_39 rfl (zI rfl rfl) rfl rfl ?_
  refine AW.cVv1 11 dX9_comesOtherwise_8 kX9_229 (zI rfl rfl) (Nat.le_of_ble_eq_true rfl) rfl (C_X3_look (fun M1 k1 k2 => ?_))
  refine AW.aload_n 12 dX9_comesOtherwise_11 rfl rfl ?_
  refine AW.getR 15 dX9_comesOtherwise_12 fX9_67 rfl (zI rfl rfl) rfl rfl ?_
  refine AW.iload_n 16 dX9_comesOtherwise_15 rfl rfl ?_
  refine AW.aload_n 17 dX9_comesOtherwise_16 rfl rfl ?_
  refine AW.getR 20 dX9_comesOtherwise_17 fX9_46 rfl (zI rfl rfl) rfl rfl ?_
  refine AW.cVi2 23 dX9_comesOtherwise_20 kX9_310 (zI rfl rfl) (Nat.le_of_ble_eq_true rfl) rfl (C_X7_undo (t := t) (tk := tk) (tt := tt) (tn := tn) (sg := sg) (lt := lt) (by rw [k1 83 (by decide) (by decide)]; exact ht) ht2 (fun k hk => by rw [k1 84 (by decide) (by decide), k1 85 (by decide) (by decide), k1 86 (by decide) (by decide)]; exact hth k hk) hok hs (fun i hi => ⟨by rw [(k2 i hi).1]; exact (hW i hi).1, by rw [(k2 i hi).2]; exact (hW i hi).2.1, (hW i hi).2.2⟩) (fun M2 q e1 e2 e3 e4 => ?_))
  have fr : ∀ c, c ≠ 65 → c ≠ 66 → M2 c = M c := fun c c1 c2 => by rw [e1 c c1 c2, k1 c c1 c2]
  have a0 : M2 0 14 = M 0 14 := by rw [fr 0 (by decide) (by decide)]
  refine AW.istn2 24 dX9_comesOtherwise_23 (by decide) rfl rfl ?_
  refine AW.aload_n 25 dX9_comesOtherwise_24 rfl rfl ?_
  refine AW.iload_n 26 dX9_comesOtherwise_25 rfl rfl ?_
  refine AW.cVi1 29 dX9_comesOtherwise_26 kX9_314 (zI rfl rfl) (Nat.le_of_ble_eq_true rfl) rfl (C_X9_comesWithRules hb0 (f_mach_frame hb0 (fun c c1 c2 => fr c (by omega) (by omega)) hF) (sg := z_uS s tk tt tn sg t) (lt := z_uL s tk tt lt t) (fun i hi => ⟨(e2 i hi).1, (e2 i hi).2, z_uS_lt hok (fun i hi => (hW i hi).2.2.1) t (by omega) i hi, z_uL_lt (fun i hi => (hW i hi).2.2.2) t i hi⟩) (by rw [fr 0 (by decide) (by decide)]; exact hd) htick e3 e4 (fun b26 M3 f1 => ?_) (fun b26 M3 f1 => ?_))
  · skip
    refine AW.iret dX9_comesOtherwise_29 .boolean rfl rfl rfl ⟨_, rfl, ?_⟩
    rw [a0] at b26
    first | exact h1 b26 M3 (fun c c1 c2 c3 c4 c5 => by rw [f1 c c3 c4 c5, fr c c1 c2]) | exact h0 b26 M3 (fun c c1 c2 c3 c4 c5 => by rw [f1 c c3 c4 c5, fr c c1 c2])
  · skip
    refine AW.iret dX9_comesOtherwise_29 .boolean rfl rfl rfl ⟨_, rfl, ?_⟩
    rw [a0] at b26
    first | exact h1 b26 M3 (fun c c1 c2 c3 c4 c5 => by rw [f1 c c3 c4 c5, fr c c1 c2]) | exact h0 b26 M3 (fun c c1 c2 c3 c4 c5 => by rw [f1 c c3 c4 c5, fr c c1 c2])
theorem C_X9_comesWithMakers (hb0 : zMb m0) (hF : f_mach M m0 n H A N) (hmk : ∀ r, r < n → M (m0 + 1) r = nI (mk r) ∧ mk r < 4) (hW : ∀ i, i < 12 → M 61 i = nI (sg i) ∧ M 62 i = nI (lt i) ∧ sg i < 16 ∧ lt i < 2) (hd : M 0 15 = nI tick) (htick : tick < 12) {so : Nat} (hso : so < 16) {Q : Int32 → zS → zM → Prop}
    (h1 : (M 0 14).toInt = z_oa n H A N sg lt (z_pr1 n so mk) tick → ∀ M', (∀ c, c ≠ 65 → c ≠ 66 → c ≠ 67 → c ≠ 68 → c ≠ 69 → M' c = M c) → Q (nI 1) (ZS m0 m1 md) M')
    (h0 : ¬ (M 0 14).toInt = z_oa n H A N sg lt (z_pr1 n so mk) tick → ∀ M', (∀ c, c ≠ 65 → c ≠ 66 → c ≠ 67 → c ≠ 68 → c ≠ 69 → M' c = M c) → Q (nI 0) (ZS m0 m1 md) M') : AMet l g yX9_comesWithMakers cX9_comesWithMakers 2 (some .boolean) (d + 3) 0 0 [.ref 0, .int (nI so)] (ZS m0 m1 md) M (z_Qi Q) := by
  have hbl := zMb_lt hb0
  have h8 := hF.2.1
  refine AMet.of (ini := false) rfl (fun h => by first | rfl | cases h) (Nat.le_of_ble_eq_true rfl) ?_
  show AW l g RX9 cX9_comesWithMakers 2 (some .boolean) false _ _ _ 0 [some (.ref 0), some (.int (nI so))] [] _ _ _
  refine AW.aload_n 1 dX9_comesWithMakers_0 rfl rfl ?_
  refine AW.getR 4 dX9_comesWithMakers_1 fX9_46 rfl (zI rfl rfl) rfl rfl ?_
  refine AW.aload_n 5 dX9_comesWithMakers_4 rfl rfl ?_
  refine AW.getR 8 dX9_comesWithMakers_5 fX9_39 rfl (zI rfl rfl) rfl rfl ?_
  refine AW.cVv1 11 dX9_comesWithMakers_8 kX9_229 (zI rfl rfl) (Nat.le_of_ble_eq_true rfl) rfl (C_X3_look (fun M1 k1 k2 => ?_))
  refine AW.aload_n 12 dX9_comesWithMakers_11 rfl rfl ?_
  refine AW.aload_n 13 dX9_comesWithMakers_12 rfl rfl ?_
  refine AW.getR 16 dX9_comesWithMakers_13 fX9_28 rfl (zI rfl rfl) rfl rfl ?_
  refine AW.iconst 17 (nI 0) dX9_comesWithMakers_16 (by decide) rfl ?_
  refine AW.aald 18 dX9_comesWithMakers_17 (zA rfl rfl) (by decide) rfl (by omega) (by decide) rfl rfl ?_
  refine AW.iload_n 19 dX9_comesWithMakers_18 rfl rfl ?_
  refine AW.cVi1 22 dX9_comesWithMakers_19 kX9_317 (zMb_is hb0) (Nat.le_of_ble_eq_true rfl) rfl (C_X2_rulesOf hb0 (by rw [k1 m0 (by omega) (by omega)]; exact hF.1) h8 (mk := mk) (fun r hr => by rw [k1 (m0 + 1) (by omega) (by omega)]; exact hmk r hr) hso (fun q e3 e4 => ?_))
  have a0 : M1 0 14 = M 0 14 := by rw [k1 0 (by decide) (by decide)]
  refine AW.cVi1 25 dX9_comesWithMakers_22 kX9_314 (zI rfl rfl) (Nat.le_of_ble_eq_true rfl) rfl (C_X9_comesWithRules hb0 (f_mach_frame hb0 (fun c c1 c2 => k1 c (by omega) (by omega)) hF) (sg := sg) (lt := lt) (fun i hi => ⟨by rw [(k2 i hi).1]; exact (hW i hi).1, by rw [(k2 i hi).2]; exact (hW i hi).2.1, (hW i hi).2.2⟩) (by rw [k1 0 (by decide) (by decide)]; exact hd) htick e3 e4 (fun b22 M3 f1 => ?_) (fun b22 M3 f1 => ?_))
  · skip
    refine AW.iret dX9_comesWithMakers_25 .boolean rfl rfl rfl ⟨_, rfl, ?_⟩
    rw [a0] at b22
    first | exact h1 b22 M3 (fun c c1 c2 c3 c4 c5 => by rw [f1 c c3 c4 c5, k1 c c1 c2]) | exact h0 b22 M3 (fun c c1 c2 c3 c4 c5 => by rw [f1 c c3 c4 c5, k1 c c1 c2])
  · skip
    refine AW.iret dX9_comesWithMakers_25 .boolean rfl rfl rfl ⟨_, rfl, ?_⟩
    rw [a0] at b22
    first | exact h1 b22 M3 (fun c c1 c2 c3 c4 c5 => by rw [f1 c c3 c4 c5, k1 c c1 c2]) | exact h0 b22 M3 (fun c c1 c2 c3 c4 c5 => by rw [f1 c c3 c4 c5, k1 c c1 c2])
theorem C_X9_noDoing (hT : M 59 1 = nI T) (hT1 : 1 ≤ T) (hT2 : T ≤ 12) {Q : Int32 → zS → zM → Prop} (h1 : ((M 0 14).toInt = -4 ∨ ¬ (0 ≤ (M 0 15).toInt ∧ (M 0 15).toInt < T)) → Q (nI 1) (ZS m0 m1 md) M) (h0 : ¬ ((M 0 14).toInt = -4 ∨ ¬ (0 ≤ (M 0 15).toInt ∧ (M 0 15).toInt < T)) → Q (nI 0) (ZS m0 m1 md) M) : AMet l g yX9_noDoing cX9_noDoing 1 (some .boolean) (d + 2) 0 0 [.ref 0] (ZS m0 m1 md) M (z_Qi Q) := by
  refine AMet.of (ini := false) rfl (fun h => by first | rfl | cases h) (Nat.le_of_ble_eq_true rfl) ?_
  show AW l g RX9 cX9_noDoing 1 (some .boolean) false _ _ _ 0 [some (.ref 0)] [] _ _ _
  refine AW.aload_n 1 dX9_noDoing_0 rfl rfl ?_
  refine AW.getI 4 dX9_noDoing_1 fX9_93 rfl (zI rfl rfl) rfl ?_
  refine AW.bipush 6 (-4) dX9_noDoing_4 (by decide) rfl ?_
  refine AW.zicmp_eq 9 20 dX9_noDoing_6 (by decide) rfl rfl (by decide : (-4 : Int32).toInt = -4) (fun b6 => ?_) (fun b6 => ?_)
  · skip
    refine AW.iconst 21 (nI 1) dX9_noDoing_20 (by decide) rfl ?_
    refine AW.goto 25 dX9_noDoing_21 (by decide) ?_
    refine AW.iret dX9_noDoing_25 .boolean rfl rfl rfl ⟨_, rfl, ?_⟩
    first | exact h1 (by omega) | exact h0 (by omega)
  · skip
    refine AW.aload_n 10 dX9_noDoing_9 rfl rfl ?_
    refine AW.aload_n 11 dX9_noDoing_10 rfl rfl ?_
    refine AW.getI 14 dX9_noDoing_11 fX9_97 rfl (zI rfl rfl) rfl ?_
    refine AW.cVi1 17 dX9_noDoing_14 kX9_137 (zI rfl rfl) (Nat.le_of_ble_eq_true rfl) rfl (C_X9_noTick hT hT1 hT2 (fun b14 => ?_) (fun b14 => ?_))
    · skip
      refine AW.if_eq 20 24 dX9_noDoing_17 (by decide) rfl (fun h => absurd h (by decide)) (fun _ => ?_)
      refine AW.iconst 21 (nI 1) dX9_noDoing_20 (by decide) rfl ?_
      refine AW.goto 25 dX9_noDoing_21 (by decide) ?_
      refine AW.iret dX9_noDoing_25 .boolean rfl rfl rfl ⟨_, rfl, ?_⟩
      first | exact h1 (by omega) | exact h0 (by omega)
    · skip
      refine AW.if_eq 20 24 dX9_noDoing_17 (by decide) rfl (fun _ => ?_) (fun h => absurd h (by decide))
      refine AW.iconst 25 (nI 0) dX9_noDoing_24 (by decide) rfl ?_
      refine AW.iret dX9_noDoing_25 .boolean rfl rfl rfl ⟨_, rfl, ?_⟩
      first | exact h1 (by omega) | exact h0 (by omega)
theorem C_X10_isTold (hT : M 99 16 = nI T) (hT1 : 1 ≤ T) (hT2 : T ≤ 12) {Q : Int32 → zS → zM → Prop} (h1 : 0 ≤ (M 99 33).toInt ∧ (M 99 33).toInt < T → Q (nI 1) (ZS m0 m1 md) M) (h0 : ¬ (0 ≤ (M 99 33).toInt ∧ (M 99 33).toInt < T) → Q (nI 0) (ZS m0 m1 md) M) : AMet l g yX10_isTold cX10_isTold 1 (some .boolean) (d + 2) 0 0 [.ref 99] (ZS m0 m1 md) M (z_Qi Q) := by
  refine AMet.of (ini := false) rfl (fun h => by first | rfl | cases h) (Nat.le_of_ble_eq_true rfl) ?_
  show AW l g RX10 cX10_isTold 1 (some .boolean) false _ _ _ 0 [some (.ref 99)] [] _ _ _
  refine AW.aload_n 1 dX10_isTold_0 rfl rfl ?_
  refine AW.aload_n 2 dX10_isTold_1 rfl rfl ?_
  refine AW.getI 5 dX10_isTold_2 fX10_96 rfl (zI rfl rfl) rfl ?_
  refine AW.cVi1 8 dX10_isTold_5 kX10_184 (zI rfl rfl) (Nat.le_of_ble_eq_true rfl) rfl (C_X10_isTick hT hT1 hT2 (fun b5 => ?_) (fun b5 => ?_))
  · skip
    refine AW.iret dX10_isTold_8 .boolean rfl rfl rfl ⟨_, rfl, ?_⟩
    first | exact h1 (by omega) | exact h0 (by omega)
  · skip
    refine AW.iret dX10_isTold_8 .boolean rfl rfl rfl ⟨_, rfl, ?_⟩
    first | exact h1 (by omega) | exact h0 (by omega)
theorem C_X7_allBits (ht : M 83 3 = nI t) (ht2 : t ≤ 6) {Q : Int32 → zS → zM → Prop} (hQ : Q (nI (2 ^ t - 1)) (ZS m0 m1 md) M) : AMet l g yX7_allBits cX7_allBits 1 (some .int) d 0 0 [.ref 83] (ZS m0 m1 md) M (z_Qi Q) := by
  have e : (nI 1 <<< (nI t &&& 31)) - nI 1 = nI (2 ^ t - 1) := by
    have : ∀ t, t < 7 → (nI 1 <<< (nI t &&& 31)) - nI 1 = nI (2 ^ t - 1) := by decide +kernel
    exact this t (by omega)
  refine AMet.of (ini := false) rfl (fun h => by first | rfl | cases h) (Nat.le_of_ble_eq_true rfl) ?_
  show AW l g RX7 cX7_allBits 1 (some .int) false _ _ _ 0 [some (.ref 83)] [] _ _ _
  refine AW.iconst 1 (nI 1) dX7_allBits_0 (by decide) rfl ?_
  refine AW.aload_n 2 dX7_allBits_1 rfl rfl ?_
  refine AW.getI 5 dX7_allBits_2 fX7_21 rfl (zI rfl rfl) rfl ?_
  refine AW.topi (nI t) ht ?_
  refine AW.ishl 6 dX7_allBits_5 rfl ?_
  refine AW.iconst 7 (nI 1) dX7_allBits_6 (by decide) rfl ?_
  refine AW.isub 8 dX7_allBits_7 rfl ?_
  refine AW.topi (nI (2 ^ t - 1)) e ?_
  refine AW.iret dX7_allBits_8 .int rfl rfl rfl ⟨_, rfl, ?_⟩
  exact hQ
end DOING
