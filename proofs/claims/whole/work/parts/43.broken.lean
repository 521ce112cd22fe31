section BROKEN
variable {l : Launch} {g : zG} {d m0 m1 md : Nat} {M : zM} {T n : Nat} {H : Nat → Nat → Nat → Bool} {A : Nat → Nat} {N : Nat → Int32} {sg lt ms : Nat → Nat} {D : Nat → Nat → Nat → Bool}
theorem C_X10_broken (hT : M 99 16 = nI T) (hT2 : T ≤ 12) (hG : g_mach M 0 n H A N) (hD : g_dut M D) (hW : ∀ t, t < 12 → M 113 t = nI (sg t) ∧ M 114 t = nI (lt t) ∧ sg t < 16 ∧ lt t < 2) {Q : Int32 → zS → zM → Prop} (hnot : (M 99 39).toInt = 0 → Q (-2) (ZS m0 m1 md) M)
    (hgo : ¬ (M 99 39).toInt = 0 → ∀ M', (∀ c, c ≠ 116 → c ≠ 117 → c ≠ 118 → c ≠ 119 → c ≠ 120 → M' c = M c) → Q (z_brk (z_dt D n H A N sg lt) T 0) (ZS m0 m1 md) M') : AMet l g yX10_broken cX10_broken 3 (some .int) (d + 2) 0 0 [.ref 99] (ZS m0 m1 md) M (z_Qi Q) := by
  refine AMet.of (ini := false) rfl (fun h => by first | rfl | cases h) (Nat.le_of_ble_eq_true rfl) ?_
  show AW l g RX10 cX10_broken 3 (some .int) false _ _ _ 0 [some (.ref 99), none, none] [] _ _ _
  refine AW.aload_n 1 dX10_broken_0 rfl rfl ?_
  refine AW.getI 4 dX10_broken_1 fX10_275 rfl (zI rfl rfl) rfl ?_
  refine AW.zif_ne 7 10 dX10_broken_4 (by decide) rfl rfl (fun b4 => ?_) (fun b4 => ?_)
  · skip
    refine AW.aload_n 11 dX10_broken_10 rfl rfl ?_
    refine AW.cVv0 14 dX10_broken_11 kX10_200 (zI rfl rfl) (Nat.le_of_ble_eq_true rfl) rfl (C_X10_lays (fun M1 h1 h2 => ?_))
    have q0 : M1 99 16 = nI T := by rw [h1 99 (by decide) (by decide)]; exact hT
    have hG1 := g_mach_frame (M' := M1) (fun c c1 c2 => h1 c (by omega) (by omega)) hG
    refine AW.aload_n 15 dX10_broken_14 rfl rfl ?_
    refine AW.iconst 16 (nI 0) dX10_broken_15 (by decide) rfl ?_
    refine AW.iconst 17 (nI 0) dX10_broken_16 (by decide) rfl ?_
    refine AW.cVv2 20 dX10_broken_17 kX10_203 (zI rfl rfl) (Nat.le_of_ble_eq_true rfl) rfl (C_X10_plays (M := M1) q0 hT2 (by decide) hG1 hp0 (sg := sg) (lt := lt) (fun t ht => ⟨by rw [(h2 t (by omega)).1]; exact (hW t (by omega)).1, by rw [(h2 t (by omega)).2]; exact (hW t (by omega)).2.1, (hW t (by omega)).2.2⟩) (fun M2 k1 k3 => ?_))
    refine AW.iconst 21 (nI 0) dX10_broken_20 (by decide) rfl ?_
    refine AW.istn1 22 dX10_broken_21 (by decide) rfl rfl ?_
    refine L_X10_broken (M := M2) (by rw [k1 99 (by decide) (by decide) (by decide)]; exact q0) hT2 (fun r hr => (hG.2.2 r hr).1) (fun r hr => (hG.2.2 r hr).2.2.2.1) (D := D) (by unfold g_dut; rw [k1 131 (by decide) (by decide) (by decide), h1 131 (by decide) (by decide)]; exact hD) k3 (fun t ht => ⟨by rw [k1 116 (by decide) (by decide) (by decide), (h2 t ht).1]; exact (hW t ht).1, by rw [k1 117 (by decide) (by decide) (by decide), (h2 t ht).2]; exact (hW t ht).2.1, (hW t ht).2.2⟩) T 0 (by omega) _ (hgo b4 M2 (fun c c1 c2 c3 c4 c5 => by rw [k1 c c3 c4 c5]; exact h1 c c1 c2))
  · skip
    refine AW.bipush 9 (-2) dX10_broken_7 (by decide) rfl ?_
    refine AW.iret dX10_broken_9 .int rfl rfl rfl ⟨_, rfl, ?_⟩
    exact hnot b4
theorem L_X9_broken (hT : M 59 1 = nI T) (hT2 : T ≤ 12) (hA : ∀ r, r < n → A r < 4) (hN : ∀ r, r < n → (N r = -4 ∨ ∃ s, s < 4 ∧ N r = nI s)) (hD : f_dut M D) (hp : z_pl M 67 68 69 T n H A N (fun _ => true) (fun t => 2 * sg t + lt t)) (hW : ∀ t, t < 12 → M 65 t = nI (sg t) ∧ M 66 t = nI (lt t) ∧ sg t < 16 ∧ lt t < 2) {Q : Int32 → zS → zM → Prop} :
    ∀ (z i : Nat), i + z = T → ∀ x, Q (z_brk (z_dt D n H A N sg lt) z i) (ZS m0 m1 md) M → AW l g RX9 cX9_broken 3 (some .int) false d 0 0 22 [some (.ref 0), some (.int (nI i)), x] [] (ZS m0 m1 md) M (z_Qi Q) := by
  intro z
  induction z with
  | zero =>
    intro i hi x hQ
    refine AW.iload_n 23 dX9_broken_22 rfl rfl ?_
    refine AW.aload_n 24 dX9_broken_23 rfl rfl ?_
    refine AW.getR 27 dX9_broken_24 fX9_39 rfl (zI rfl rfl) rfl rfl ?_
    refine AW.getI 30 dX9_broken_27 fX9_133 rfl (zI rfl rfl) rfl ?_
    refine AW.topi (nI T) hT ?_
    refine AW.icmpN_ge 33 96 dX9_broken_30 (by decide) rfl (by omega) (by omega) (fun b30 => ?_) (fun b30 => absurd b30 (by omega))
    refine AW.bipush 98 (-4) dX9_broken_96 (by decide) rfl ?_
    refine AW.iret dX9_broken_98 .int rfl rfl rfl ⟨_, rfl, ?_⟩
    exact hQ
  | succ z ih =>
    intro i hi x hQ
    obtain ⟨p1, p2, p3⟩ := hp i (by omega)
    obtain ⟨q1, q2, q3, q4⟩ := hW i (by omega)
    have s1 := z_ps_lt (H := H) (pr := fun _ => true) (x := fun t => 2 * sg t + lt t) hN i
    have s2 := z_act_lt hA (z_ch n H (fun _ => true) (z_ps n H N (fun _ => true) (fun t => 2 * sg t + lt t) i) (2 * sg i + lt i))
    have hd := hD _ _ (2 * sg i + lt i) s2 s1 (by omega)
    rw [z_brk] at hQ
    generalize hps : z_ps n H N (fun _ => true) (fun t => 2 * sg t + lt t) i = ps at *
    generalize hac : z_act n A (z_ch n H (fun _ => true) ps (2 * sg i + lt i)) = ac at *
    have hP : z_dt D n H A N sg lt i = D ac ps (2 * sg i + lt i) := by unfold z_dt z_oa; rw [hps, hac]
    rw [hP] at hQ
    refine AW.iload_n 23 dX9_broken_22 rfl rfl ?_
    refine AW.aload_n 24 dX9_broken_23 rfl rfl ?_
    refine AW.getR 27 dX9_broken_24 fX9_39 rfl (zI rfl rfl) rfl rfl ?_
    refine AW.getI 30 dX9_broken_27 fX9_133 rfl (zI rfl rfl) rfl ?_
    refine AW.topi (nI T) hT ?_
    refine AW.icmpN_ge 33 96 dX9_broken_30 (by decide) rfl (by omega) (by omega) (fun b30 => absurd b30 (by omega)) (fun b30 => ?_)
    refine AW.aload_n 34 dX9_broken_33 rfl rfl ?_
    refine AW.getR 37 dX9_broken_34 fX9_79 rfl (zI rfl rfl) rfl rfl ?_
    refine AW.aload_n 38 dX9_broken_37 rfl rfl ?_
    refine AW.getR 41 dX9_broken_38 fX9_46 rfl (zI rfl rfl) rfl rfl ?_
    refine AW.getR 44 dX9_broken_41 fX9_169 rfl (zI rfl rfl) rfl rfl ?_
    refine AW.iload_n 45 dX9_broken_44 rfl rfl ?_
    refine AW.iald 46 dX9_broken_45 (zA rfl rfl) rfl (by omega) (by decide) rfl ?_
    refine AW.topi (nI ac) p3 ?_
    refine AW.iconst 47 (nI 4) dX9_broken_46 (by decide) rfl ?_
    refine AW.imulN 48 dX9_broken_47 rfl ?_
    refine AW.aload_n 49 dX9_broken_48 rfl rfl ?_
    refine AW.getR 52 dX9_broken_49 fX9_46 rfl (zI rfl rfl) rfl rfl ?_
    refine AW.getR 55 dX9_broken_52 fX9_163 rfl (zI rfl rfl) rfl rfl ?_
    refine AW.iload_n 56 dX9_broken_55 rfl rfl ?_
    refine AW.iald 57 dX9_broken_56 (zA rfl rfl) rfl (by omega) (by decide) rfl ?_
    refine AW.topi (nI ps) p1 ?_
    refine AW.iaddN 58 dX9_broken_57 rfl ?_
    refine AW.iald 59 dX9_broken_58 (zA rfl rfl) (show _ = nI (4 * ac + ps) from by congr 1; omega) (by omega) (by decide) rfl ?_
    refine AW.istn2 60 dX9_broken_59 (by decide) rfl rfl ?_
    refine AW.iload_n 61 dX9_broken_60 rfl rfl ?_
    refine AW.iconst 62 (nI 2) dX9_broken_61 (by decide) rfl ?_
    refine AW.aload_n 63 dX9_broken_62 rfl rfl ?_
    refine AW.getR 66 dX9_broken_63 fX9_46 rfl (zI rfl rfl) rfl rfl ?_
    refine AW.getR 69 dX9_broken_66 fX9_174 rfl (zI rfl rfl) rfl rfl ?_
    refine AW.iload_n 70 dX9_broken_69 rfl rfl ?_
    refine AW.iald 71 dX9_broken_70 (zA rfl rfl) rfl (by omega) (by decide) rfl ?_
    refine AW.topi (nI (sg i)) q1 ?_
    refine AW.imulN 72 dX9_broken_71 rfl ?_
    refine AW.aload_n 73 dX9_broken_72 rfl rfl ?_
    refine AW.getR 76 dX9_broken_73 fX9_46 rfl (zI rfl rfl) rfl rfl ?_
    refine AW.getR 79 dX9_broken_76 fX9_180 rfl (zI rfl rfl) rfl rfl ?_
    refine AW.iload_n 80 dX9_broken_79 rfl rfl ?_
    refine AW.iald 81 dX9_broken_80 (zA rfl rfl) rfl (by omega) (by decide) rfl ?_
    refine AW.topi (nI (lt i)) q2 ?_
    refine AW.iaddN 82 dX9_broken_81 rfl ?_
    refine AW.iushr 83 dX9_broken_82 rfl ?_
    refine AW.iconst 84 (nI 1) dX9_broken_83 (by decide) rfl ?_
    refine AW.iand 85 dX9_broken_84 rfl ?_
    refine AW.zif_ne 88 90 dX9_broken_85 (by decide) rfl rfl (fun b85 => ?_) (fun b85 => ?_)
    · skip
      refine AW.iinc1 93 _ dX9_broken_90 (z_inc1 _) (by decide) rfl rfl ?_
      refine AW.goto 22 dX9_broken_93 (by decide) ?_
      rw [if_pos (hd.2 b85)] at hQ
      exact ih (i + 1) (by omega) _ hQ
    · skip
      refine AW.iload_n 89 dX9_broken_88 rfl rfl ?_
      refine AW.iret dX9_broken_89 .int rfl rfl rfl ⟨_, rfl, ?_⟩
      rw [if_neg (fun h => hd.1 h b85)] at hQ
      exact hQ
theorem C_X9_broken (hT : M 59 1 = nI T) (hT2 : T ≤ 12) (hb0 : zMb m0) (hF : f_mach M m0 n H A N) (hD : f_dut M D) (hW : ∀ t, t < 12 → M 61 t = nI (sg t) ∧ M 62 t = nI (lt t) ∧ sg t < 16 ∧ lt t < 2) {Q : Int32 → zS → zM → Prop} (hnot : (M 0 13).toInt = 0 → Q (-2) (ZS m0 m1 md) M)
    (hgo : ¬ (M 0 13).toInt = 0 → ∀ M', (∀ c, c ≠ 65 → c ≠ 66 → c ≠ 67 → c ≠ 68 → c ≠ 69 → M' c = M c) → Q (z_brk (z_dt D n H A N sg lt) T 0) (ZS m0 m1 md) M') : AMet l g yX9_broken cX9_broken 3 (some .int) (d + 3) 0 0 [.ref 0] (ZS m0 m1 md) M (z_Qi Q) := by
  refine AMet.of (ini := false) rfl (fun h => by first | rfl | cases h) (Nat.le_of_ble_eq_true rfl) ?_
  show AW l g RX9 cX9_broken 3 (some .int) false _ _ _ 0 [some (.ref 0), none, none] [] _ _ _
  refine AW.aload_n 1 dX9_broken_0 rfl rfl ?_
  refine AW.getI 4 dX9_broken_1 fX9_89 rfl (zI rfl rfl) rfl ?_
  refine AW.zif_ne 7 10 dX9_broken_4 (by decide) rfl rfl (fun b4 => ?_) (fun b4 => ?_)
  · skip
    refine AW.aload_n 11 dX9_broken_10 rfl rfl ?_
    refine AW.aload_n 12 dX9_broken_11 rfl rfl ?_
    refine AW.getR 15 dX9_broken_12 fX9_28 rfl (zI rfl rfl) rfl rfl ?_
    refine AW.iconst 16 (nI 0) dX9_broken_15 (by decide) rfl ?_
    refine AW.aald 17 dX9_broken_16 (zA rfl rfl) (by decide) rfl (by omega) (by decide) rfl rfl ?_
    refine AW.cVv1 20 dX9_broken_17 kX9_159 (zI rfl rfl) (Nat.le_of_ble_eq_true rfl) rfl (C_X9_playAsIs hT hT2 hb0 hF hW (fun M2 k1 k2 k3 => ?_))
    refine AW.iconst 21 (nI 0) dX9_broken_20 (by decide) rfl ?_
    refine AW.istn1 22 dX9_broken_21 (by decide) rfl rfl ?_
    refine L_X9_broken (M := M2) (by rw [k1 59 (by decide) (by decide) (by decide) (by decide) (by decide)]; exact hT) hT2 (fun r hr => (hF.2.2 r hr).1) (fun r hr => (hF.2.2 r hr).2.2.2.1) (D := D) (by unfold f_dut; rw [k1 89 (by decide) (by decide) (by decide) (by decide) (by decide)]; exact hD) k3 (fun t ht => ⟨(k2 t ht).1, (k2 t ht).2, (hW t ht).2.2⟩) T 0 (by omega) _ (hgo b4 M2 k1)
  · skip
    refine AW.bipush 9 (-2) dX9_broken_7 (by decide) rfl ?_
    refine AW.iret dX9_broken_9 .int rfl rfl rfl ⟨_, rfl, ?_⟩
    exact hnot b4
end BROKEN
