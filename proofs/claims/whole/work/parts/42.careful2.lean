def z_brk (P : Nat → Bool) : Nat → Nat → Int32
  | 0, _ => -4
  | z + 1, i => if P i = true then z_brk P z (i + 1) else nI i
/-- whether the duty holds at a tick of the play -/
def z_dt (D : Nat → Nat → Nat → Bool) (n : Nat) (H : Nat → Nat → Nat → Bool) (A : Nat → Nat) (N : Nat → Int32) (sg lt : Nat → Nat) (t : Nat) : Bool := D (z_oa n H A N sg lt (fun _ => true) t) (z_ps n H N (fun _ => true) (fun t => 2 * sg t + lt t) t) (2 * sg t + lt t)
def g_dut (M : zM) (D : Nat → Nat → Nat → Bool) : Prop := ∀ a st x, a < 4 → st < 4 → x < 32 → (D a st x = true ↔ ¬ (M 131 (128 * a + (32 * st + x))).toInt = 0)
def f_dut (M : zM) (D : Nat → Nat → Nat → Bool) : Prop := ∀ a st x, a < 4 → st < 4 → x < 32 → (D a st x = true ↔ ¬ ((((M 89 (4 * a + st)).toUInt32 >>> ((nI x).toUInt32 &&& Int32.toUInt32 31)).toInt32) &&& nI 1).toInt = 0)
theorem z_act_lt {n : Nat} {A : Nat → Nat} (h : ∀ r, r < n → A r < 4) (r : Nat) : z_act n A r < 4 := by
  unfold z_act
  split
  · first | exact h _ (by assumption) | decide
  · first | exact h _ (by omega) | decide
section CAREFUL2
variable {l : Launch} {g : zG} {d m0 m1 md : Nat} {M : zM} {T n : Nat} {H : Nat → Nat → Nat → Bool} {A : Nat → Nat} {N : Nat → Int32} {sg lt ms : Nat → Nat} {D : Nat → Nat → Nat → Bool}
theorem C_X9_careful (hT : M 59 1 = nI T) (hT1 : 1 ≤ T) (hT2 : T ≤ 12) (hb1 : zMb m1) (hF : f_mach M m1 n H A N) (hM : ∀ i, i < 12 → M 63 i = nI (ms i) ∧ ms i < 16) (hW : ∀ t, t < 12 → M 61 t = nI (sg t) ∧ M 62 t = nI (lt t) ∧ sg t < 16 ∧ lt t < 2) {k b : Int32} {Q : Int32 → zS → zM → Prop} (hbad : ¬ (0 ≤ k.toInt ∧ k.toInt < T ∧ 0 ≤ b.toInt ∧ b.toInt ≤ 1) → Q (-1) (ZS m0 m1 md) M)
    (hgo : ∀ tick bn, k = nI tick → tick < T → b = nI bn → bn < 2 → ∀ M', (∀ c, c ≠ 65 → c ≠ 66 → c ≠ 67 → c ≠ 68 → c ≠ 69 → M' c = M c) → Q (nI (z_oa n H A N (z_hd bn ms sg) lt (fun _ => true) tick)) (ZS m0 m1 md) M') : AMet l g yX9_careful cX9_careful 3 (some .int) (d + 2) 0 0 [.ref 0, .int k, .int b] (ZS m0 m1 md) M (z_Qi Q) := by
  have hbl := zMb_lt hb1
  refine AMet.of (ini := false) rfl (fun h => by first | rfl | cases h) (Nat.le_of_ble_eq_true rfl) ?_
  show AW l g RX9 cX9_careful 3 (some .int) false _ _ _ 0 [some (.ref 0), some (.int k), some (.int b)] [] _ _ _
  refine AW.aload_n 1 dX9_careful_0 rfl rfl ?_
  refine AW.iload_n 2 dX9_careful_1 rfl rfl ?_
  refine AW.cVi1 5 dX9_careful_2 kX9_137 (zI rfl rfl) (Nat.le_of_ble_eq_true rfl) rfl (C_X9_noTick hT hT1 hT2 (fun b2 => ?_) (fun b2 => ?_))
  · skip
    refine AW.if_ne 8 16 dX9_careful_5 (by decide) rfl (fun _ => ?_) (fun h => absurd h (by decide))
    refine AW.iconst 17 (-1) dX9_careful_16 (by decide) rfl ?_
    refine AW.iret dX9_careful_17 .int rfl rfl rfl ⟨_, rfl, ?_⟩
    exact hbad (by omega)
  · skip
    refine AW.if_ne 8 16 dX9_careful_5 (by decide) rfl (fun h => absurd h (by decide)) (fun _ => ?_)
    refine AW.iload_n 9 dX9_careful_8 rfl rfl ?_
    refine AW.iconst 10 (nI 1) dX9_careful_9 (by decide) rfl ?_
    refine AW.cSi2 13 dX9_careful_10 kX9_120 (Nat.le_of_ble_eq_true rfl) rfl (C_beyond rfl (by decide : (nI 1).toInt = 1) (fun b10 => ?_) (fun b10 => ?_))
    · skip
      refine AW.if_eq 16 18 dX9_careful_13 (by decide) rfl (fun h => absurd h (by decide)) (fun _ => ?_)
      refine AW.iconst 17 (-1) dX9_careful_16 (by decide) rfl ?_
      refine AW.iret dX9_careful_17 .int rfl rfl rfl ⟨_, rfl, ?_⟩
      exact hbad (by omega)
    · skip
      refine AW.if_eq 16 18 dX9_careful_13 (by decide) rfl (fun _ => ?_) (fun h => absurd h (by decide))
      obtain ⟨tick, hk, rfl, hk2⟩ := z_nI (v := k) (n := 11) (by omega) (by omega)
      obtain ⟨bn, hb, rfl, hb2⟩ := z_nI (v := b) (n := 1) (by omega) (by omega)
      refine AW.aload_n 19 dX9_careful_18 rfl rfl ?_
      refine AW.getR 22 dX9_careful_19 fX9_46 rfl (zI rfl rfl) rfl rfl ?_
      refine AW.aload_n 23 dX9_careful_22 rfl rfl ?_
      refine AW.getR 26 dX9_careful_23 fX9_39 rfl (zI rfl rfl) rfl rfl ?_
      refine AW.cVv1 29 dX9_careful_26 kX9_229 (zI rfl rfl) (Nat.le_of_ble_eq_true rfl) rfl (C_X3_look (fun M1 h1 h2 => ?_))
      refine AW.iload_n 30 dX9_careful_29 rfl rfl ?_
      refine AW.ifN_ne 33 44 dX9_careful_30 (by decide) rfl (by omega) (fun b30 => ?_) (fun b30 => ?_)
      · skip
        obtain ⟨M5, hM5, j1, j2⟩ : ∃ M5 : zM, M5 = _ ∧ (∀ c, c ≠ 65 → c ≠ 66 → M5 c = M c) ∧ (∀ t, t < 12 → M5 65 t = nI (z_hd bn ms sg t) ∧ M5 66 t = nI (lt t)) := by
          first
          | exact ⟨M3, rfl, fun c c1 c2 => by rw [k1 c c1]; exact h1 c c1 c2, fun t ht => ⟨by rw [k2 t ht, z_hd, if_pos b30], by rw [k1 66 (by decide), (h2 t ht).2]; exact (hW t ht).2.1⟩⟩
          | exact ⟨M1, rfl, h1, fun t ht => ⟨by rw [(h2 t ht).1, z_hd, if_neg b30]; exact (hW t ht).1, by rw [(h2 t ht).2]; exact (hW t ht).2.1⟩⟩
        subst hM5
        refine AW.aload_n 45 dX9_careful_44 rfl rfl ?_
        refine AW.getR 48 dX9_careful_45 fX9_46 rfl (zI rfl rfl) rfl rfl ?_
        refine AW.aload_n 49 dX9_careful_48 rfl rfl ?_
        refine AW.getR 52 dX9_careful_49 fX9_28 rfl (zI rfl rfl) rfl rfl ?_
        refine AW.iconst 53 (nI 1) dX9_careful_52 (by decide) rfl ?_
        refine AW.aald 54 dX9_careful_53 (zA rfl rfl) (by decide) rfl (by omega) (by decide) rfl rfl ?_
        refine AW.sipush 57 (nI 255) dX9_careful_54 (by decide) rfl ?_
        refine AW.iload_n 58 dX9_careful_57 rfl rfl ?_
        refine AW.iconst 59 (nI 1) dX9_careful_58 (by decide) rfl ?_
        refine AW.iaddN 60 dX9_careful_59 rfl ?_
        refine AW.cVv3 63 dX9_careful_60 kX9_236 (zI rfl rfl) (Nat.le_of_ble_eq_true rfl) rfl (C_X3_run (by omega) hb1 (f_mach_frame hb1 (fun c c1 c2 => j1 c (by omega) (by omega)) hF) hp255 (sg := z_hd bn ms sg) (lt := lt) (fun t ht => ⟨(j2 t (by omega)).1, (j2 t (by omega)).2, z_hd_lt (hW t (by omega)).2.2.1, (hW t (by omega)).2.2.2⟩) (fun M2 i1 i3 => ?_))
        have e := hgo tick bn rfl (by omega) rfl (by omega) M2 (fun c c1 c2 c3 c4 c5 => by rw [i1 c c3 c4 c5]; exact j1 c c1 c2)
        obtain ⟨p1, p2, p3⟩ := i3 tick (by omega)
        unfold z_oa at e
        refine AW.aload_n 64 dX9_careful_63 rfl rfl ?_
        refine AW.getR 67 dX9_careful_64 fX9_46 rfl (zI rfl rfl) rfl rfl ?_
        refine AW.getR 70 dX9_careful_67 fX9_169 rfl (zI rfl rfl) rfl rfl ?_
        refine AW.iload_n 71 dX9_careful_70 rfl rfl ?_
        refine AW.iald 72 dX9_careful_71 (zA rfl rfl) rfl (by omega) (by decide) rfl ?_
        refine AW.iret dX9_careful_72 .int rfl rfl rfl ⟨_, rfl, ?_⟩
        rw [← p3] at e
        exact e
      · skip
        refine AW.aload_n 34 dX9_careful_33 rfl rfl ?_
        refine AW.getR 37 dX9_careful_34 fX9_46 rfl (zI rfl rfl) rfl rfl ?_
        refine AW.aload_n 38 dX9_careful_37 rfl rfl ?_
        refine AW.getR 41 dX9_careful_38 fX9_39 rfl (zI rfl rfl) rfl rfl ?_
        refine AW.cVv1 44 dX9_careful_41 kX9_290 (zI rfl rfl) (Nat.le_of_ble_eq_true rfl) rfl (C_X3_hide (M := M1) (sg := sg) (ms := ms) (fun i hi => by rw [h1 63 (by decide) (by decide)]; exact hM i hi) (fun i hi => by rw [(h2 i hi).1]; exact (hW i hi).1) (fun i hi => (hW i hi).2.2.1) (fun M3 k1 k2 => ?_))
        obtain ⟨M5, hM5, j1, j2⟩ : ∃ M5 : zM, M5 = _ ∧ (∀ c, c ≠ 65 → c ≠ 66 → M5 c = M c) ∧ (∀ t, t < 12 → M5 65 t = nI (z_hd bn ms sg t) ∧ M5 66 t = nI (lt t)) := by
          first
          | exact ⟨M3, rfl, fun c c1 c2 => by rw [k1 c c1]; exact h1 c c1 c2, fun t ht => ⟨by rw [k2 t ht, z_hd, if_pos b30], by rw [k1 66 (by decide), (h2 t ht).2]; exact (hW t ht).2.1⟩⟩
          | exact ⟨M1, rfl, h1, fun t ht => ⟨by rw [(h2 t ht).1, z_hd, if_neg b30]; exact (hW t ht).1, by rw [(h2 t ht).2]; exact (hW t ht).2.1⟩⟩
        subst hM5
        refine AW.aload_n 45 dX9_careful_44 rfl rfl ?_
        refine AW.getR 48 dX9_careful_45 fX9_46 rfl (zI rfl rfl) rfl rfl ?_
        refine AW.aload_n 49 dX9_careful_48 rfl rfl ?_
        refine AW.getR 52 dX9_careful_49 fX9_28 rfl (zI rfl rfl) rfl rfl ?_
        refine AW.iconst 53 (nI 1) dX9_careful_52 (by decide) rfl ?_
        refine AW.aald 54 dX9_careful_53 (zA rfl rfl) (by decide) rfl (by omega) (by decide) rfl rfl ?_
        refine AW.sipush 57 (nI 255) dX9_careful_54 (by decide) rfl ?_
        refine AW.iload_n 58 dX9_careful_57 rfl rfl ?_
        refine AW.iconst 59 (nI 1) dX9_careful_58 (by decide) rfl ?_
        refine AW.iaddN 60 dX9_careful_59 rfl ?_
        refine AW.cVv3 63 dX9_careful_60 kX9_236 (zI rfl rfl) (Nat.le_of_ble_eq_true rfl) rfl (C_X3_run (by omega) hb1 (f_mach_frame hb1 (fun c c1 c2 => j1 c (by omega) (by omega)) hF) hp255 (sg := z_hd bn ms sg) (lt := lt) (fun t ht => ⟨(j2 t (by omega)).1, (j2 t (by omega)).2, z_hd_lt (hW t (by omega)).2.2.1, (hW t (by omega)).2.2.2⟩) (fun M2 i1 i3 => ?_))
        have e := hgo tick bn rfl (by omega) rfl (by omega) M2 (fun c c1 c2 c3 c4 c5 => by rw [i1 c c3 c4 c5]; exact j1 c c1 c2)
        obtain ⟨p1, p2, p3⟩ := i3 tick (by omega)
        unfold z_oa at e
        refine AW.aload_n 64 dX9_careful_63 rfl rfl ?_
        refine AW.getR 67 dX9_careful_64 fX9_46 rfl (zI rfl rfl) rfl rfl ?_
        refine AW.getR 70 dX9_careful_67 fX9_169 rfl (zI rfl rfl) rfl rfl ?_
        refine AW.iload_n 71 dX9_careful_70 rfl rfl ?_
        refine AW.iald 72 dX9_careful_71 (zA rfl rfl) rfl (by omega) (by decide) rfl ?_
        refine AW.iret dX9_careful_72 .int rfl rfl rfl ⟨_, rfl, ?_⟩
        rw [← p3] at e
        exact e
theorem L_X10_broken (hT : M 99 16 = nI T) (hT2 : T ≤ 12) (hA : ∀ r, r < n → A r < 4) (hN : ∀ r, r < n → (N r = -4 ∨ ∃ s, s < 4 ∧ N r = nI s)) (hD : g_dut M D) (hp : z_pl M 118 119 120 T n H A N (fun _ => true) (fun t => 2 * sg t + lt t)) (hW : ∀ t, t < 12 → M 116 t = nI (sg t) ∧ M 117 t = nI (lt t) ∧ sg t < 16 ∧ lt t < 2) {Q : Int32 → zS → zM → Prop} :
    ∀ (z i : Nat), i + z = T → ∀ x, Q (z_brk (z_dt D n H A N sg lt) z i) (ZS m0 m1 md) M → AW l g RX10 cX10_broken 3 (some .int) false d 0 0 22 [some (.ref 99), some (.int (nI i)), x] [] (ZS m0 m1 md) M (z_Qi Q) := by
  intro z
  induction z with
  | zero =>
    intro i hi x hQ
    refine AW.iload_n 23 dX10_broken_22 rfl rfl ?_
    refine AW.aload_n 24 dX10_broken_23 rfl rfl ?_
    refine AW.getI 27 dX10_broken_24 fX10_50 rfl (zI rfl rfl) rfl ?_
    refine AW.topi (nI T) hT ?_
    refine AW.icmpN_ge 30 84 dX10_broken_27 (by decide) rfl (by omega) (by omega) (fun b27 => ?_) (fun b27 => absurd b27 (by omega))
    refine AW.bipush 86 (-4) dX10_broken_84 (by decide) rfl ?_
    refine AW.iret dX10_broken_86 .int rfl rfl rfl ⟨_, rfl, ?_⟩
    exact hQ
  | succ z ih =>
    intro i hi x hQ
    obtain ⟨p1, p2, p3⟩ := hp i (by omega)
    obtain ⟨q1, q2, q3, q4⟩ := hW i (by omega)
    have s1 := z_ps_lt (H := H) (pr := fun _ => true) (x := fun t => 2 * sg t + lt t) hN i
    have s2 := z_act_lt hA (z_ch n H (fun _ => true) (z_ps n H N (fun _ => true) (fun t => 2 * sg t + lt t) i) (2 * sg i + lt i))
    have hd := hD _ _ (2 * sg i + lt i) s2 s1 (by omega)
    rw [z_brk] at hQ
    generalize hps : z_ps n H N (fun _ => true) (fun t => 2 * sg t + lt t) i = ps at *
    generalize hac : z_act n A (z_ch n H (fun _ => true) ps (2 * sg i + lt i)) = ac at *
    have hP : z_dt D n H A N sg lt i = D ac ps (2 * sg i + lt i) := by unfold z_dt z_oa; rw [hps, hac]
    rw [hP] at hQ
    refine AW.iload_n 23 dX10_broken_22 rfl rfl ?_
    refine AW.aload_n 24 dX10_broken_23 rfl rfl ?_
    refine AW.getI 27 dX10_broken_24 fX10_50 rfl (zI rfl rfl) rfl ?_
    refine AW.topi (nI T) hT ?_
    refine AW.icmpN_ge 30 84 dX10_broken_27 (by decide) rfl (by omega) (by omega) (fun b27 => absurd b27 (by omega)) (fun b27 => ?_)
    refine AW.bipush 32 (nI 32) dX10_broken_30 (by decide) rfl ?_
    refine AW.aload_n 33 dX10_broken_32 rfl rfl ?_
    refine AW.getR 36 dX10_broken_33 fX10_69 rfl (zI rfl rfl) rfl rfl ?_
    refine AW.iload_n 37 dX10_broken_36 rfl rfl ?_
    refine AW.iald 38 dX10_broken_37 (zA rfl rfl) rfl (by omega) (by decide) rfl ?_
    refine AW.topi (nI ps) p1 ?_
    refine AW.imulN 39 dX10_broken_38 rfl ?_
    refine AW.iconst 40 (nI 2) dX10_broken_39 (by decide) rfl ?_
    refine AW.aload_n 41 dX10_broken_40 rfl rfl ?_
    refine AW.getR 44 dX10_broken_41 fX10_63 rfl (zI rfl rfl) rfl rfl ?_
    refine AW.iload_n 45 dX10_broken_44 rfl rfl ?_
    refine AW.iald 46 dX10_broken_45 (zA rfl rfl) rfl (by omega) (by decide) rfl ?_
    refine AW.topi (nI (sg i)) q1 ?_
    refine AW.imulN 47 dX10_broken_46 rfl ?_
    refine AW.iaddN 48 dX10_broken_47 rfl ?_
    refine AW.aload_n 49 dX10_broken_48 rfl rfl ?_
    refine AW.getR 52 dX10_broken_49 fX10_66 rfl (zI rfl rfl) rfl rfl ?_
    refine AW.iload_n 53 dX10_broken_52 rfl rfl ?_
    refine AW.iald 54 dX10_broken_53 (zA rfl rfl) rfl (by omega) (by decide) rfl ?_
    refine AW.topi (nI (lt i)) q2 ?_
    refine AW.iaddN 55 dX10_broken_54 rfl ?_
    refine AW.istn2 56 dX10_broken_55 (by decide) rfl rfl ?_
    refine AW.aload_n 57 dX10_broken_56 rfl rfl ?_
    refine AW.getR 60 dX10_broken_57 fX10_111 rfl (zI rfl rfl) rfl rfl ?_
    refine AW.sipush 63 (nI 128) dX10_broken_60 (by decide) rfl ?_
    refine AW.aload_n 64 dX10_broken_63 rfl rfl ?_
    refine AW.getR 67 dX10_broken_64 fX10_75 rfl (zI rfl rfl) rfl rfl ?_
    refine AW.iload_n 68 dX10_broken_67 rfl rfl ?_
    refine AW.iald 69 dX10_broken_68 (zA rfl rfl) rfl (by omega) (by decide) rfl ?_
    refine AW.topi (nI ac) p3 ?_
    refine AW.imulN 70 dX10_broken_69 rfl ?_
    refine AW.iload_n 71 dX10_broken_70 rfl rfl ?_
    refine AW.iaddN 72 dX10_broken_71 rfl ?_
    refine AW.bald 73 dX10_broken_72 (zA rfl rfl) (show _ = nI (128 * ac + (32 * ps + (2 * sg i + lt i))) from by congr 1; omega) (by omega) (by decide) rfl ?_
    refine AW.zif_ne 76 78 dX10_broken_73 (by decide) rfl rfl (fun b73 => ?_) (fun b73 => ?_)
    · skip
      refine AW.iinc1 81 _ dX10_broken_78 (z_inc1 _) (by decide) rfl rfl ?_
      refine AW.goto 22 dX10_broken_81 (by decide) ?_
      rw [if_pos (hd.2 b73)] at hQ
      exact ih (i + 1) (by omega) _ hQ
    · skip
      refine AW.iload_n 77 dX10_broken_76 rfl rfl ?_
      refine AW.iret dX10_broken_77 .int rfl rfl rfl ⟨_, rfl, ?_⟩
      rw [if_neg (fun h => hd.1 h b73)] at hQ
      exact hQ
end CAREFUL2
