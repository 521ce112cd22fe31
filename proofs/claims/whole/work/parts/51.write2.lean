theorem z_wn_le {T : Nat} {sg lt R Ac : Nat → Nat} (h : ∀ t, t < T → sg t < 16 ∧ lt t < 2 ∧ R t ≤ 8 ∧ Ac t < 4) {i : Nat} (hi : i < 4 * T) : z_wn sg lt R Ac i ≤ z_nm (z_wk i) := by
  obtain ⟨a, b, c, e⟩ := h (i / 4) (by omega)
  unfold z_wn z_wk
  by_cases h0 : i % 4 = 0
  · rw [if_pos h0, if_pos h0]; show _ ≤ 15; omega
  · by_cases h1 : i % 4 = 1
    · rw [if_neg h0, if_neg h0, if_pos h1, if_pos h1]; show _ ≤ 1; omega
    · by_cases h2 : i % 4 = 2
      · rw [if_neg h0, if_neg h0, if_neg h1, if_neg h1, if_pos h2, if_pos h2]; show _ ≤ 8; omega
      · rw [if_neg h0, if_neg h0, if_neg h1, if_neg h1, if_neg h2, if_neg h2]; show _ ≤ 3; omega
theorem z_lk5_ok {T m i : Nat} {wn : Nat → Nat} (h : wn i ≤ z_nm (z_wk i)) : z_lk5 T m i < 6 ∧ z_ln0 T m wn i ≤ z_nm (z_lk5 T m i) := by
  have := z_wk_le i
  unfold z_lk5 z_ln0
  by_cases q : z_rk T i < m
  · rw [if_pos q, if_pos q]; exact ⟨by omega, Nat.zero_le _⟩
  · rw [if_neg q, if_neg q]; exact ⟨by omega, h⟩
/-- places counted down by four -/
def z_pk (o : Nat) : Nat → Int32
  | 0 => nI o - nI 4
  | t + 1 => nI (4 * t + o)
theorem z_pk_dec {t o : Nat} (ht : t < 13) (ho : o < 4) : nI (4 * t + o) + Int32.ofInt (-4) = z_pk o t := by
  have : ∀ t, t < 13 → ∀ o, o < 4 → nI (4 * t + o) + Int32.ofInt (-4) = z_pk o t := by decide +kernel
  exact this t ht o ho
theorem z_pk_in {t o : Nat} (ht : t < 13) (ho : o < 4) : nI (4 * t) - nI 4 + nI o = z_pk o t := by
  have : ∀ t, t < 13 → ∀ o, o < 4 → nI (4 * t) - nI 4 + nI o = z_pk o t := by decide +kernel
  exact this t ht o ho
theorem z_pk_0 {o : Nat} (ho : o < 4) : (z_pk o 0).toInt < 0 := by
  have : ∀ o, o < 4 → (z_pk o 0).toInt < 0 := by decide +kernel
  exact this o ho
theorem z_max0 {T rm : Nat} (hT : T < 13) (hr : rm < 49) : (if nI 0 < nI (4 * T) - nI rm then nI (4 * T) - nI rm else nI 0) = nI (4 * T - rm) := by
  have : ∀ T, T < 13 → ∀ rm, rm < 49 → (if nI 0 < nI (4 * T) - nI rm then nI (4 * T) - nI rm else nI 0) = nI (4 * T - rm) := by decide +kernel
  exact this T hT rm hr
section WRITE2
variable {l : Launch} {g : zG} {d m0 m1 md : Nat} {M : zM} {L T n : Nat} {H : Nat → Nat → Nat → Bool} {A : Nat → Nat} {N : Nat → Int32} {sg lt wn R Ac : Nat → Nat}
theorem C_X10_write (hT : M 99 16 = nI T) (hT2 : T ≤ 12) (hG : g_mach M 0 n H A N) (hW : ∀ t, t < 12 → M 113 t = nI (sg t) ∧ M 114 t = nI (lt t) ∧ sg t < 16 ∧ lt t < 2) {r : Int32} {Q : Int32 → zS → zM → Prop} (hbad : ¬ (0 ≤ r.toInt ∧ r.toInt ≤ 48) → Q (-1) (ZS m0 m1 md) M)
    (hok : ∀ rm, rm ≤ 48 → r = nI rm → ∀ M', (∀ c, c ≠ 99 → c ≠ 116 → c ≠ 117 → c ≠ 118 → c ≠ 119 → c ≠ 120 → c ≠ 121 → c ≠ 122 → c ≠ 123 → M' c = M c) → (∀ j, j ≠ 25 → M' 99 j = M 99 j) → g_bk M' (4 * T) (z_lk5 T (4 * T - rm)) (fun i => i / 4) (z_ln0 T (4 * T - rm) (z_wn sg lt (z_oc n H N sg lt (fun _ => true)) (z_oa n H A N sg lt (fun _ => true)))) → Q (nI (4 * T - rm)) (ZS m0 m1 md) M') : AMet l g yX10_write cX10_write 4 (some .int) (d + 2) 0 0 [.ref 99, .int r] (ZS m0 m1 md) M (z_Qi Q) := by
  have h8 := hG.2.1
  refine AMet.of (ini := false) rfl (fun h => by first | rfl | cases h) (Nat.le_of_ble_eq_true rfl) ?_
  show AW l g RX10 cX10_write 4 (some .int) false _ _ _ 0 [some (.ref 99), some (.int r), none, none] [] _ _ _
  refine AW.iload_n 1 dX10_write_0 rfl rfl ?_
  refine AW.i2l 2 dX10_write_1 rfl ?_
  refine AW.lconst 3 (lN 0) dX10_write_2 rfl rfl ?_
  refine AW.ldc2 6 (lN 48) dX10_write_3 qX10_155 rfl ?_
  refine AW.cSi3 9 dX10_write_6 kX10_131 (Nat.le_of_ble_eq_true rfl) rfl (C_in (Int32.toInt_toInt64 _) (z_lN (by decide)) (z_lN (by decide)) (fun b6 => ?_) (fun b6 => ?_))
  · skip
    refine AW.if_ne 12 14 dX10_write_9 (by decide) rfl (fun _ => ?_) (fun h => absurd h (by decide))
    obtain ⟨rm, hrm, rfl, hr2⟩ := z_nI (v := r) (n := 48) (by omega) (by omega)
    refine AW.aload_n 15 dX10_write_14 rfl rfl ?_
    refine AW.cVv0 18 dX10_write_15 kX10_200 (zI rfl rfl) (Nat.le_of_ble_eq_true rfl) rfl (C_X10_lays (fun M1 h1 h2 => ?_))
    have q0 : M1 99 16 = nI T := by rw [h1 99 (by decide) (by decide)]; exact hT
    have hG1 := g_mach_frame (M' := M1) (fun c c1 c2 => h1 c (by omega) (by omega)) hG
    refine AW.aload_n 19 dX10_write_18 rfl rfl ?_
    refine AW.iconst 20 (nI 0) dX10_write_19 (by decide) rfl ?_
    refine AW.iconst 21 (nI 0) dX10_write_20 (by decide) rfl ?_
    refine AW.cVv2 24 dX10_write_21 kX10_203 (zI rfl rfl) (Nat.le_of_ble_eq_true rfl) rfl (C_X10_plays (M := M1) q0 hT2 (by decide) hG1 hp0 (sg := sg) (lt := lt) (fun t ht => ⟨by rw [(h2 t (by omega)).1]; exact (hW t (by omega)).1, by rw [(h2 t (by omega)).2]; exact (hW t (by omega)).2.1, (hW t (by omega)).2.2⟩) (fun M2 k1 k3 => ?_))
    refine AW.aload_n 25 dX10_write_24 rfl rfl ?_
    refine AW.iconst 26 (nI 0) dX10_write_25 (by decide) rfl ?_
    refine AW.putI 29 .int dX10_write_26 pX10_209 rfl (zI rfl rfl) rfl rfl rfl ?_
    refine AW.iconst 30 (nI 0) dX10_write_29 (by decide) rfl ?_
    refine AW.istn2 31 dX10_write_30 (by decide) rfl rfl ?_
    refine L_X10_write (M := M2) (T := T) (sg := sg) (lt := lt) (R := z_oc n H N sg lt (fun _ => true)) (Ac := z_oa n H A N sg lt (fun _ => true)) (by rw [k1 99 (by decide) (by decide) (by decide)]; exact q0) hT2 (fun t ht => ⟨by rw [k1 113 (by decide) (by decide) (by decide), h1 113 (by decide) (by decide)]; exact (hW t (by omega)).1, by rw [k1 114 (by decide) (by decide) (by decide), h1 114 (by decide) (by decide)]; exact (hW t (by omega)).2.1, (k3 t ht).2.1, (k3 t ht).2.2⟩) (fun M3 e1 e2 e3 e4 => ?_) T 0 (by omega) (z_st M2 99 25 (nI 0)) (fun c c1 _ _ _ => z_st_ne c1) (fun j hj => by rw [z_st_at]; unfold upd; rw [if_neg hj]) (by rw [z_st_at]; rfl) (fun i hi => absurd hi (by omega))
    refine AW.aload_n 94 dX10_write_93 rfl rfl ?_
    refine AW.getI 97 dX10_write_94 fX10_209 rfl (zI rfl rfl) rfl ?_
    refine AW.topi (nI (4 * T)) e3 ?_
    refine AW.iload_n 98 dX10_write_97 rfl rfl ?_
    refine AW.icmpN_le 101 110 dX10_write_98 (by decide) rfl (by omega) (by omega) (fun b98 => ?_) (fun b98 => ?_)
    · skip
      refine AW.iconst 111 (nI 0) dX10_write_110 (by decide) rfl ?_
      refine AW.topi (nI (4 * T - rm)) (by rw [show 4 * T - rm = 0 by omega]) ?_
      refine AW.istn2 112 dX10_write_111 (by decide) rfl rfl ?_
      refine AW.aload_n 113 dX10_write_112 rfl rfl ?_
      refine AW.iconst 114 (nI 2) dX10_write_113 (by decide) rfl ?_
      refine AW.aload_n 115 dX10_write_114 rfl rfl ?_
      refine AW.iconst 116 (nI 0) dX10_write_115 (by decide) rfl ?_
      refine AW.aload_n 117 dX10_write_116 rfl rfl ?_
      refine AW.iconst 118 (nI 3) dX10_write_117 (by decide) rfl ?_
      refine AW.aload_n 119 dX10_write_118 rfl rfl ?_
      refine AW.iconst 120 (nI 1) dX10_write_119 (by decide) rfl ?_
      refine AW.iload_n 121 dX10_write_120 rfl rfl ?_
      refine AW.cVi2 124 dX10_write_121 kX10_216 (zI rfl rfl) (Nat.le_of_ble_eq_true rfl) rfl (C_X10_loses (M := M3) (T := T) (wn := z_wn sg lt (z_oc n H N sg lt (fun _ => true)) (z_oa n H A N sg lt (fun _ => true))) (k := 0) (m := 4 * T - rm) e3 (by decide) hT2 (by omega) (by rw [Nat.zero_mul, Nat.min_zero]; exact z_lB_0 e4) rfl (by rw [Nat.zero_mul]; rfl) (fun M4 i1 i2 => ?_))
      refine AW.cVi2 127 dX10_write_124 kX10_216 (zI rfl rfl) (Nat.le_of_ble_eq_true rfl) rfl (C_X10_loses (M := M4) (T := T) (wn := z_wn sg lt (z_oc n H N sg lt (fun _ => true)) (z_oa n H A N sg lt (fun _ => true))) (k := 1) (m := 4 * T - rm) (by rw [i1 99 (by decide) (by decide)]; exact e3) (by decide) hT2 (by omega) (by rw [show 1 * T = 0 * T + T by omega]; exact i2) rfl (by congr 1; omega) (fun M5 j1 j2 => ?_))
      refine AW.cVi2 130 dX10_write_127 kX10_216 (zI rfl rfl) (Nat.le_of_ble_eq_true rfl) rfl (C_X10_loses (M := M5) (T := T) (wn := z_wn sg lt (z_oc n H N sg lt (fun _ => true)) (z_oa n H A N sg lt (fun _ => true))) (k := 2) (m := 4 * T - rm) (by rw [j1 99 (by decide) (by decide), i1 99 (by decide) (by decide)]; exact e3) (by decide) hT2 (by omega) (by rw [show 2 * T = 1 * T + T by omega]; exact j2) rfl (by congr 1; omega) (fun M6 x1 x2 => ?_))
      refine AW.cVi2 133 dX10_write_130 kX10_216 (zI rfl rfl) (Nat.le_of_ble_eq_true rfl) rfl (C_X10_loses (M := M6) (T := T) (wn := z_wn sg lt (z_oc n H N sg lt (fun _ => true)) (z_oa n H A N sg lt (fun _ => true))) (k := 3) (m := 4 * T - rm) (by rw [x1 99 (by decide) (by decide), j1 99 (by decide) (by decide), i1 99 (by decide) (by decide)]; exact e3) (by decide) hT2 (by omega) (by rw [show 3 * T = 2 * T + T by omega]; exact x2) rfl (by congr 1; omega) (fun M7 y1 y2 => ?_))
      refine AW.istn3 134 dX10_write_133 (by decide) rfl rfl ?_
      refine AW.iload_n 135 dX10_write_134 rfl rfl ?_
      refine AW.iload_n 136 dX10_write_135 rfl rfl ?_
      refine AW.isubN 137 dX10_write_136 (by omega) rfl ?_
      refine AW.topi (nI (4 * T - rm)) (by congr 1; omega) ?_
      refine AW.iret dX10_write_137 .int rfl rfl rfl ⟨_, rfl, ?_⟩
      have fr : ∀ c, c ≠ 121 → c ≠ 123 → M7 c = M3 c := fun c c1 c2 => by rw [y1 c c1 c2, x1 c c1 c2, j1 c c1 c2, i1 c c1 c2]
      refine hok rm (by omega) rfl M7 (fun c c0 c1 c2 c3 c4 c5 c6 c7 c8 => by rw [fr c c6 c8, e1 c c0 c6 c7 c8, k1 c c3 c4 c5]; exact h1 c c1 c2) (fun j hj => by rw [fr 99 (by decide) (by decide), e2 j hj, k1 99 (by decide) (by decide) (by decide), h1 99 (by decide) (by decide)]) ⟨by rw [fr 99 (by decide) (by decide)]; exact e3, by omega, fun i hi => ?_⟩
      rw [show min (4 * T - rm) (3 * T + T) = 4 * T - rm by omega] at y2
      obtain ⟨u1, u2⟩ := y2 i hi
      obtain ⟨u3, u4⟩ := z_lk5_ok (T := T) (m := 4 * T - rm) (z_wn_le (T := T) (R := z_oc n H N sg lt (fun _ => true)) (Ac := z_oa n H A N sg lt (fun _ => true)) (fun t ht => ⟨(hW t (by omega)).2.2.1, (hW t (by omega)).2.2.2, z_fst_lt _ h8, z_act_lt (fun r hr => (hG.2.2 r hr).1) _⟩) hi)
      exact ⟨u1, by rw [fr 122 (by decide) (by decide)]; exact (e4 i hi).2.1, u2, u3, by show i / 4 < 12; omega, u4⟩
    · skip
      refine AW.aload_n 102 dX10_write_101 rfl rfl ?_
      refine AW.getI 105 dX10_write_102 fX10_209 rfl (zI rfl rfl) rfl ?_
      refine AW.topi (nI (4 * T)) e3 ?_
      refine AW.iload_n 106 dX10_write_105 rfl rfl ?_
      refine AW.isubN 107 dX10_write_106 (by omega) rfl ?_
      refine AW.goto 111 dX10_write_107 (by decide) ?_
      refine AW.istn2 112 dX10_write_111 (by decide) rfl rfl ?_
      refine AW.aload_n 113 dX10_write_112 rfl rfl ?_
      refine AW.iconst 114 (nI 2) dX10_write_113 (by decide) rfl ?_
      refine AW.aload_n 115 dX10_write_114 rfl rfl ?_
      refine AW.iconst 116 (nI 0) dX10_write_115 (by decide) rfl ?_
      refine AW.aload_n 117 dX10_write_116 rfl rfl ?_
      refine AW.iconst 118 (nI 3) dX10_write_117 (by decide) rfl ?_
      refine AW.aload_n 119 dX10_write_118 rfl rfl ?_
      refine AW.iconst 120 (nI 1) dX10_write_119 (by decide) rfl ?_
      refine AW.iload_n 121 dX10_write_120 rfl rfl ?_
      refine AW.cVi2 124 dX10_write_121 kX10_216 (zI rfl rfl) (Nat.le_of_ble_eq_true rfl) rfl (C_X10_loses (M := M3) (T := T) (wn := z_wn sg lt (z_oc n H N sg lt (fun _ => true)) (z_oa n H A N sg lt (fun _ => true))) (k := 0) (m := 4 * T - rm) e3 (by decide) hT2 (by omega) (by rw [Nat.zero_mul, Nat.min_zero]; exact z_lB_0 e4) rfl (by rw [Nat.zero_mul]; rfl) (fun M4 i1 i2 => ?_))
      refine AW.cVi2 127 dX10_write_124 kX10_216 (zI rfl rfl) (Nat.le_of_ble_eq_true rfl) rfl (C_X10_loses (M := M4) (T := T) (wn := z_wn sg lt (z_oc n H N sg lt (fun _ => true)) (z_oa n H A N sg lt (fun _ => true))) (k := 1) (m := 4 * T - rm) (by rw [i1 99 (by decide) (by decide)]; exact e3) (by decide) hT2 (by omega) (by rw [show 1 * T = 0 * T + T by omega]; exact i2) rfl (by congr 1; omega) (fun M5 j1 j2 => ?_))
      refine AW.cVi2 130 dX10_write_127 kX10_216 (zI rfl rfl) (Nat.le_of_ble_eq_true rfl) rfl (C_X10_loses (M := M5) (T := T) (wn := z_wn sg lt (z_oc n H N sg lt (fun _ => true)) (z_oa n H A N sg lt (fun _ => true))) (k := 2) (m := 4 * T - rm) (by rw [j1 99 (by decide) (by decide), i1 99 (by decide) (by decide)]; exact e3) (by decide) hT2 (by omega) (by rw [show 2 * T = 1 * T + T by omega]; exact j2) rfl (by congr 1; omega) (fun M6 x1 x2 => ?_))
      refine AW.cVi2 133 dX10_write_130 kX10_216 (zI rfl rfl) (Nat.le_of_ble_eq_true rfl) rfl (C_X10_loses (M := M6) (T := T) (wn := z_wn sg lt (z_oc n H N sg lt (fun _ => true)) (z_oa n H A N sg lt (fun _ => true))) (k := 3) (m := 4 * T - rm) (by rw [x1 99 (by decide) (by decide), j1 99 (by decide) (by decide), i1 99 (by decide) (by decide)]; exact e3) (by decide) hT2 (by omega) (by rw [show 3 * T = 2 * T + T by omega]; exact x2) rfl (by congr 1; omega) (fun M7 y1 y2 => ?_))
      refine AW.istn3 134 dX10_write_133 (by decide) rfl rfl ?_
      refine AW.iload_n 135 dX10_write_134 rfl rfl ?_
      refine AW.iload_n 136 dX10_write_135 rfl rfl ?_
      refine AW.isubN 137 dX10_write_136 (by omega) rfl ?_
      refine AW.topi (nI (4 * T - rm)) (by congr 1; omega) ?_
      refine AW.iret dX10_write_137 .int rfl rfl rfl ⟨_, rfl, ?_⟩
      have fr : ∀ c, c ≠ 121 → c ≠ 123 → M7 c = M3 c := fun c c1 c2 => by rw [y1 c c1 c2, x1 c c1 c2, j1 c c1 c2, i1 c c1 c2]
      refine hok rm (by omega) rfl M7 (fun c c0 c1 c2 c3 c4 c5 c6 c7 c8 => by rw [fr c c6 c8, e1 c c0 c6 c7 c8, k1 c c3 c4 c5]; exact h1 c c1 c2) (fun j hj => by rw [fr 99 (by decide) (by decide), e2 j hj, k1 99 (by decide) (by decide) (by decide), h1 99 (by decide) (by decide)]) ⟨by rw [fr 99 (by decide) (by decide)]; exact e3, by omega, fun i hi => ?_⟩
      rw [show min (4 * T - rm) (3 * T + T) = 4 * T - rm by omega] at y2
      obtain ⟨u1, u2⟩ := y2 i hi
      obtain ⟨u3, u4⟩ := z_lk5_ok (T := T) (m := 4 * T - rm) (z_wn_le (T := T) (R := z_oc n H N sg lt (fun _ => true)) (Ac := z_oa n H A N sg lt (fun _ => true)) (fun t ht => ⟨(hW t (by omega)).2.2.1, (hW t (by omega)).2.2.2, z_fst_lt _ h8, z_act_lt (fun r hr => (hG.2.2 r hr).1) _⟩) hi)
      exact ⟨u1, by rw [fr 122 (by decide) (by decide)]; exact (e4 i hi).2.1, u2, u3, by show i / 4 < 12; omega, u4⟩
  · skip
    refine AW.if_ne 12 14 dX10_write_9 (by decide) rfl (fun h => absurd h (by decide)) (fun _ => ?_)
    refine AW.iconst 13 (-1) dX10_write_12 (by decide) rfl ?_
    refine AW.iret dX10_write_13 .int rfl rfl rfl ⟨_, rfl, ?_⟩
    exact hbad (by omega)
theorem L_X0_lose1 {k m : Nat} (hk : k < 4) (hT2 : T ≤ 12) (hm : m ≤ 48) {v1 : Int32} {Q : zS → zM → Prop}
    (hQ : ∀ (M' : zM) (i' : Int32), (∀ c, c ≠ 72 → c ≠ 74 → M' c = M c) → z_lB M' 72 74 T wn (min m (k * T + T)) → AW l g RX0 cX0_lose 5 none false d 0 0 64 [some (.ref 70), some (.int v1), some (.int (nI (m - (k * T + T)))), some (.int (nI k)), some (.int i')] [] (ZS m0 m1 md) M' (z_Qv Q)) :
    ∀ t, t ≤ T → ∀ M' : zM, (∀ c, c ≠ 72 → c ≠ 74 → M' c = M c) → z_lB M' 72 74 T wn (min m (k * T + (T - t))) → AW l g RX0 cX0_lose 5 none false d 0 0 26 [some (.ref 70), some (.int v1), some (.int (nI (m - (k * T + (T - t))))), some (.int (nI k)), some (.int (z_pk (z_lo k) t))] [] (ZS m0 m1 md) M' (z_Qv Q) := by
  have ho := z_lo_lt k
  have hrk := fun i => z_rk_k (T := T) (k := k) (i := i) hk
  generalize z_lo k = o at ho hrk ⊢
  generalize k * T = K at hQ hrk ⊢
  intro t
  induction t with
  | zero =>
    intro ht M' f h
    have h0 := z_pk_0 ho
    generalize z_pk o 0 = i0 at h0 ⊢
    rw [show K + (T - 0) = K + T by omega] at h ⊢
    refine AW.iload 28 dX0_lose_26 rfl rfl ?_
    refine AW.zif_lt 31 64 dX0_lose_28 (by decide) rfl rfl (fun b28 => ?_) (fun b28 => absurd h0 b28)
    exact hQ M' _ f h
  | succ t ih =>
    intro ht M' f h
    have ih := ih (by omega)
    have qd := z_pk_dec (t := t) (o := o) (by omega) ho
    have hr := hrk (4 * t + o) (by omega)
    have fin1 : 0 < m - (K + (T - (t + 1))) → AW l g RX0 cX0_lose 5 none false d 0 0 26 [some (.ref 70), some (.int v1), some (.int (nI (m - (K + (T - (t + 1))) - 1))), some (.int (nI k)), some (.int (z_pk o t))] [] (ZS m0 m1 md) (z_st (z_st M' 72 (4 * t + o) (nI 5)) 74 (4 * t + o) (nI 0)) (z_Qv Q) := fun a1 => by
      have e2 : m - (K + (T - (t + 1))) - 1 = m - (K + (T - t)) := by omega
      have e3 : min m (K + (T - (t + 1))) + 1 = min m (K + (T - t)) := by omega
      rw [e2]
      refine ih _ (fun c c1 c2 => by rw [z_st_ne c2, z_st_ne c1]; exact f c c1 c2) ?_
      rw [← e3]
      refine z_lB_s h (i := 4 * t + o) (by omega) (by omega) ?_ ?_
      · rw [z_st_ne (by decide), z_st_at]
      · rw [z_st_at, z_st_ne (by decide)]
    have fin2 : ¬ 0 < m - (K + (T - (t + 1))) → ∀ i', AW l g RX0 cX0_lose 5 none false d 0 0 64 [some (.ref 70), some (.int v1), some (.int (nI (m - (K + (T - (t + 1)))))), some (.int (nI k)), some (.int i')] [] (ZS m0 m1 md) M' (z_Qv Q) := fun a1 i' => by
      have e2 : m - (K + (T - (t + 1))) = m - (K + T) := by omega
      have e3 : min m (K + (T - (t + 1))) = min m (K + T) := by omega
      rw [e3] at h
      rw [e2]
      exact hQ M' i' f h
    show AW l g RX0 cX0_lose 5 none false d 0 0 26 [some (.ref 70), some (.int v1), some (.int (nI (m - (K + (T - (t + 1)))))), some (.int (nI k)), some (.int (nI (4 * t + o)))] [] (ZS m0 m1 md) M' (z_Qv Q)
    refine AW.iload 28 dX0_lose_26 rfl rfl ?_
    refine AW.ifN_lt 31 64 dX0_lose_28 (by decide) rfl (by omega) (fun b28 => absurd b28 (by omega)) (fun b28 => ?_)
    refine AW.iload_n 32 dX0_lose_31 rfl rfl ?_
    refine AW.ifN_le 35 64 dX0_lose_32 (by decide) rfl (by omega) (fun b32 => ?_) (fun b32 => ?_)
    · skip
      exact fin2 (by omega) _
    · skip
      refine AW.aload_n 36 dX0_lose_35 rfl rfl ?_
      refine AW.getR 39 dX0_lose_36 fX0_11 rfl (zI rfl rfl) rfl rfl ?_
      refine AW.iconst 40 (nI 0) dX0_lose_39 (by decide) rfl ?_
      refine AW.aald 41 dX0_lose_40 (zA rfl rfl) (by decide) rfl (by omega) (by decide) rfl rfl ?_
      refine AW.iload 43 dX0_lose_41 rfl rfl ?_
      refine AW.iconst 44 (nI 5) dX0_lose_43 (by decide) rfl ?_
      refine AW.iast 45 dX0_lose_44 (zA rfl rfl) rfl (by omega) (by decide) rfl ?_
      refine AW.aload_n 46 dX0_lose_45 rfl rfl ?_
      refine AW.getR 49 dX0_lose_46 fX0_11 rfl (zI rfl rfl) rfl rfl ?_
      refine AW.iconst 50 (nI 2) dX0_lose_49 (by decide) rfl ?_
      refine AW.aald 51 dX0_lose_50 (zA rfl rfl) (by decide) rfl (by omega) (by decide) rfl rfl ?_
      refine AW.iload 53 dX0_lose_51 rfl rfl ?_
      refine AW.iconst 54 (nI 0) dX0_lose_53 (by decide) rfl ?_
      refine AW.iast 55 dX0_lose_54 (zA rfl rfl) rfl (by omega) (by decide) rfl ?_
      refine AW.iinc2 58 (nI (m - (K + (T - (t + 1))) - 1)) dX0_lose_55 (z_dec' (by omega)) (by decide) rfl rfl ?_
      refine AW.iinc4 61 (z_pk o t) dX0_lose_58 qd (by decide) rfl rfl ?_
      refine AW.goto 26 dX0_lose_61 (by decide) ?_
      exact fin1 (by omega)
theorem z_ev1 {k : Nat} (hk : k < 4) : z_ev g 1 k = nI (z_lo k) := by
  rcases (show k = 0 ∨ k = 1 ∨ k = 2 ∨ k = 3 by omega) with rfl | rfl | rfl | rfl <;> rfl
theorem L_X0_lose {m : Nat} (hL : M 70 1 = nI (4 * T)) (hT2 : T ≤ 12) (hm : m ≤ 48) {v1 : Int32} {Q : zS → zM → Prop}
    (hQ : ∀ (M' : zM), (∀ c, c ≠ 72 → c ≠ 74 → M' c = M c) → z_lB M' 72 74 T wn (min m (4 * T)) → Q (ZS m0 m1 md) M') :
    ∀ (q k : Nat) (v4 : Option Value), k + q = 4 → ∀ M' : zM, (∀ c, c ≠ 72 → c ≠ 74 → M' c = M c) → z_lB M' 72 74 T wn (min m (k * T)) → AW l g RX0 cX0_lose 5 none false d 0 0 4 [some (.ref 70), some (.int v1), some (.int (nI (m - k * T))), some (.int (nI k)), v4] [] (ZS m0 m1 md) M' (z_Qv Q) := by
  intro q
  induction q with
  | zero =>
    intro k v4 hk M' f h
    have hk : k = 4 := by omega
    subst hk
    refine AW.iload_n 5 dX0_lose_4 rfl rfl ?_
    refine AW.getsN 8 dX0_lose_5 (by decide : 1 < 4) qX0_20 rfl ?_
    refine AW.elen 9 dX0_lose_8 (by decide) rfl ?_
    refine AW.topi (nI 4) rfl ?_
    refine AW.icmpN_ge 12 70 dX0_lose_9 (by decide) rfl (by omega) (by omega) (fun b9 => ?_) (fun b9 => absurd b9 (by decide))
    refine AW.vret dX0_lose_70 rfl rfl ⟨rfl, ?_⟩
    exact hQ M' f h
  | succ q ih =>
    intro k v4 hk M' f h
    have hlo := z_lo_lt k
    have q0 : M' 70 1 = nI (4 * T) := by rw [f 70 (by decide) (by decide)]; exact hL
    have e0 : k * T + (T - T) = k * T := by omega
    have L := fun hQ' => L_X0_lose1 (l := l) (g := g) (d := d) (m0 := m0) (m1 := m1) (md := md) (M := M) (T := T) (wn := wn) (k := k) (m := m) (v1 := v1) (Q := Q) (by omega) hT2 hm hQ' T (Nat.le_refl _) M' f
    rw [e0] at L
    refine AW.iload_n 5 dX0_lose_4 rfl rfl ?_
    refine AW.getsN 8 dX0_lose_5 (by decide : 1 < 4) qX0_20 rfl ?_
    refine AW.elen 9 dX0_lose_8 (by decide) rfl ?_
    refine AW.topi (nI 4) rfl ?_
    refine AW.icmpN_ge 12 70 dX0_lose_9 (by decide) rfl (by omega) (by omega) (fun b9 => absurd b9 (show ¬ 4 ≤ k by omega)) (fun b9 => ?_)
    refine AW.aload_n 13 dX0_lose_12 rfl rfl ?_
    refine AW.getI 16 dX0_lose_13 fX0_16 rfl (zI rfl rfl) rfl ?_
    refine AW.topi (nI (4 * T)) q0 ?_
    refine AW.iconst 17 (nI 4) dX0_lose_16 (by decide) rfl ?_
    refine AW.isub 18 dX0_lose_17 rfl ?_
    refine AW.getsN 21 dX0_lose_18 (by decide : 1 < 4) qX0_20 rfl ?_
    refine AW.iload_n 22 dX0_lose_21 rfl rfl ?_
    refine AW.eald 23 dX0_lose_22 (by decide) rfl (show k < 4 by omega) (show 4 < 2 ^ 31 by decide) rfl ?_
    refine AW.topi (nI (z_lo k)) (z_ev1 (by omega)) ?_
    refine AW.iadd 24 dX0_lose_23 rfl ?_
    refine AW.topi (z_pk (z_lo k) T) (z_pk_in (by omega) hlo) ?_
    refine AW.ist4 26 dX0_lose_24 (by decide) rfl rfl ?_
    refine L (fun M2 i' f2 h2 => ?_) h
    refine AW.iinc3 67 _ dX0_lose_64 (z_inc1 _) (by decide) rfl rfl ?_
    refine AW.goto 4 dX0_lose_67 (by decide) ?_
    rw [← Nat.succ_mul] at h2 ⊢
    exact ih (k + 1) _ (by omega) M2 f2 h2
theorem C_X0_lose {m : Nat} (hL : M 70 1 = nI (4 * T)) (hT2 : T ≤ 12) (hm : m ≤ 48) (h : z_lB M 72 74 T wn 0) {Q : zS → zM → Prop} (hQ : ∀ (M' : zM), (∀ c, c ≠ 72 → c ≠ 74 → M' c = M c) → z_lB M' 72 74 T wn (min m (4 * T)) → Q (ZS m0 m1 md) M') : AMet l g yX0_lose cX0_lose 5 none d 0 0 [.ref 70, .int (nI m)] (ZS m0 m1 md) M (z_Qv Q) := by
  have L := fun v4 => L_X0_lose (l := l) (g := g) (d := d) (m0 := m0) (m1 := m1) (md := md) (M := M) (T := T) (wn := wn) (m := m) (v1 := nI m) (Q := Q) hL hT2 hm hQ 4 0 v4 (by omega) M (fun _ _ _ => rfl)
  rw [Nat.zero_mul, Nat.min_zero] at L
  refine AMet.of (ini := false) rfl (fun h => by first | rfl | cases h) (Nat.le_of_ble_eq_true rfl) ?_
  show AW l g RX0 cX0_lose 5 none false _ _ _ 0 [some (.ref 70), some (.int (nI m)), none, none, none] [] _ _ _
  refine AW.iload_n 1 dX0_lose_0 rfl rfl ?_
  refine AW.istn2 2 dX0_lose_1 (by decide) rfl rfl ?_
  refine AW.iconst 3 (nI 0) dX0_lose_2 (by decide) rfl ?_
  refine AW.istn3 4 dX0_lose_3 (by decide) rfl rfl ?_
  exact L _ h
theorem L_X9_write (hT : M 59 1 = nI T) (hT2 : T ≤ 12) (hv : ∀ t, t < T → M 65 t = nI (sg t) ∧ M 66 t = nI (lt t) ∧ M 68 t = nI (R t) ∧ M 69 t = nI (Ac t)) {rm : Int32} {Q : Int32 → zS → zM → Prop}
    (hQ : ∀ M' : zM, (∀ c, c ≠ 70 → c ≠ 72 → c ≠ 73 → c ≠ 74 → M' c = M c) → (∀ j, j ≠ 1 → M' 70 j = M 70 j) → M' 70 1 = nI (4 * T) → z_wB M' 72 73 74 (z_wn sg lt R Ac) (4 * T) → AW l g RX9 cX9_write 3 (some .int) false (d + 1) 0 0 120 [some (.ref 0), some (.int rm), some (.int (nI T))] [] (ZS m0 m1 md) M' (z_Qi Q)) :
    ∀ (q t : Nat), t + q = T → ∀ M' : zM, (∀ c, c ≠ 70 → c ≠ 72 → c ≠ 73 → c ≠ 74 → M' c = M c) → (∀ j, j ≠ 1 → M' 70 j = M 70 j) → M' 70 1 = nI (4 * t) → z_wB M' 72 73 74 (z_wn sg lt R Ac) (4 * t) → AW l g RX9 cX9_write 3 (some .int) false (d + 1) 0 0 31 [some (.ref 0), some (.int rm), some (.int (nI t))] [] (ZS m0 m1 md) M' (z_Qi Q) := by
  intro q
  induction q with
  | zero =>
    intro t ht M' f f2 hL h
    have ht : t = T := by omega
    subst ht
    refine AW.iload_n 32 dX9_write_31 rfl rfl ?_
    refine AW.aload_n 33 dX9_write_32 rfl rfl ?_
    refine AW.getR 36 dX9_write_33 fX9_39 rfl (zI rfl rfl) rfl rfl ?_
    refine AW.getI 39 dX9_write_36 fX9_133 rfl (zI rfl rfl) rfl ?_
    refine AW.topi (nI t) (by rw [f 59 (by decide) (by decide) (by decide) (by decide)]; exact hT) ?_
    refine AW.icmpN_ge 42 120 dX9_write_39 (by decide) rfl (by omega) (by omega) (fun b39 => ?_) (fun b39 => absurd b39 (by omega))
    exact hQ M' f f2 hL h
  | succ q ih =>
    intro t ht M' f f2 hL h
    have hv' : ∀ M9 : zM, (∀ c, c ≠ 70 → c ≠ 72 → c ≠ 73 → c ≠ 74 → M9 c = M c) → M9 65 t = nI (sg t) ∧ M9 66 t = nI (lt t) ∧ M9 68 t = nI (R t) ∧ M9 69 t = nI (Ac t) := fun M9 f9 => by
      rw [f9 65 (by decide) (by decide) (by decide) (by decide), f9 66 (by decide) (by decide) (by decide) (by decide), f9 68 (by decide) (by decide) (by decide) (by decide), f9 69 (by decide) (by decide) (by decide) (by decide)]; exact hv t (by omega)
    have w0 : z_wk (4 * t) = 0 ∧ 4 * t / 4 = t ∧ z_wn sg lt R Ac (4 * t) = sg t := by
      have a1 : (4 * t) % 4 = 0 := by omega
      have a2 : (4 * t) / 4 = t := by omega
      unfold z_wk z_wn; rw [a1, a2]; exact ⟨rfl, rfl, rfl⟩
    have w1 : z_wk (4 * t + 1) = 3 ∧ (4 * t + 1) / 4 = t ∧ z_wn sg lt R Ac (4 * t + 1) = lt t := by
      have a1 : (4 * t + 1) % 4 = 1 := by omega
      have a2 : (4 * t + 1) / 4 = t := by omega
      unfold z_wk z_wn; rw [a1, a2]; exact ⟨rfl, rfl, rfl⟩
    have w2 : z_wk (4 * t + 1 + 1) = 1 ∧ (4 * t + 1 + 1) / 4 = t ∧ z_wn sg lt R Ac (4 * t + 1 + 1) = R t := by
      have a1 : (4 * t + 1 + 1) % 4 = 2 := by omega
      have a2 : (4 * t + 1 + 1) / 4 = t := by omega
      unfold z_wk z_wn; rw [a1, a2]; exact ⟨rfl, rfl, rfl⟩
    have w3 : z_wk (4 * t + 1 + 1 + 1) = 2 ∧ (4 * t + 1 + 1 + 1) / 4 = t ∧ z_wn sg lt R Ac (4 * t + 1 + 1 + 1) = Ac t := by
      have a1 : (4 * t + 1 + 1 + 1) % 4 = 3 := by omega
      have a2 : (4 * t + 1 + 1 + 1) / 4 = t := by omega
      unfold z_wk z_wn; rw [a1, a2]; exact ⟨rfl, rfl, rfl⟩
    refine AW.iload_n 32 dX9_write_31 rfl rfl ?_
    refine AW.aload_n 33 dX9_write_32 rfl rfl ?_
    refine AW.getR 36 dX9_write_33 fX9_39 rfl (zI rfl rfl) rfl rfl ?_
    refine AW.getI 39 dX9_write_36 fX9_133 rfl (zI rfl rfl) rfl ?_
    refine AW.topi (nI T) (by rw [f 59 (by decide) (by decide) (by decide) (by decide)]; exact hT) ?_
    refine AW.icmpN_ge 42 120 dX9_write_39 (by decide) rfl (by omega) (by omega) (fun b39 => absurd b39 (by omega)) (fun b39 => ?_)
    refine AW.aload_n 43 dX9_write_42 rfl rfl ?_
    refine AW.getR 46 dX9_write_43 fX9_53 rfl (zI rfl rfl) rfl rfl ?_
    refine AW.iconst 47 (nI 0) dX9_write_46 (by decide) rfl ?_
    refine AW.iload_n 48 dX9_write_47 rfl rfl ?_
    refine AW.aload_n 49 dX9_write_48 rfl rfl ?_
    refine AW.getR 52 dX9_write_49 fX9_46 rfl (zI rfl rfl) rfl rfl ?_
    refine AW.getR 55 dX9_write_52 fX9_174 rfl (zI rfl rfl) rfl rfl ?_
    refine AW.iload_n 56 dX9_write_55 rfl rfl ?_
    refine AW.iald 57 dX9_write_56 (zA rfl rfl) rfl (by omega) (by decide) rfl ?_
    refine AW.topi (nI (sg t)) (hv' M' f).1 ?_
    refine AW.cVv3 60 dX9_write_57 kX9_177 (zI rfl rfl) (Nat.le_of_ble_eq_true rfl) rfl (C_X0_add2 (M := M') (L := 4 * t) hL (by omega) (fun M1 a1 a2 a3 a4 a5 a6 => ?_))
    have f1 : ∀ c, c ≠ 70 → c ≠ 72 → c ≠ 73 → c ≠ 74 → M1 c = M c := fun c c1 c2 c3 c4 => by rw [a1 c c1 c2 c3 c4]; exact f c c1 c2 c3 c4
    refine AW.aload_n 61 dX9_write_60 rfl rfl ?_
    refine AW.getR 64 dX9_write_61 fX9_53 rfl (zI rfl rfl) rfl rfl ?_
    refine AW.iconst 65 (nI 3) dX9_write_64 (by decide) rfl ?_
    refine AW.iload_n 66 dX9_write_65 rfl rfl ?_
    refine AW.aload_n 67 dX9_write_66 rfl rfl ?_
    refine AW.getR 70 dX9_write_67 fX9_46 rfl (zI rfl rfl) rfl rfl ?_
    refine AW.getR 73 dX9_write_70 fX9_180 rfl (zI rfl rfl) rfl rfl ?_
    refine AW.iload_n 74 dX9_write_73 rfl rfl ?_
    refine AW.iald 75 dX9_write_74 (zA rfl rfl) rfl (by omega) (by decide) rfl ?_
    refine AW.topi (nI (lt t)) (hv' M1 f1).2.1 ?_
    refine AW.cVv3 78 dX9_write_75 kX9_177 (zI rfl rfl) (Nat.le_of_ble_eq_true rfl) rfl (C_X0_add2 (M := M1) (L := 4 * t + 1) a3 (by omega) (fun M2 b1 b2 b3 b4 b5 b6 => ?_))
    have f12 : ∀ c, c ≠ 70 → c ≠ 72 → c ≠ 73 → c ≠ 74 → M2 c = M c := fun c c1 c2 c3 c4 => by rw [b1 c c1 c2 c3 c4]; exact f1 c c1 c2 c3 c4
    refine AW.aload_n 79 dX9_write_78 rfl rfl ?_
    refine AW.getR 82 dX9_write_79 fX9_53 rfl (zI rfl rfl) rfl rfl ?_
    refine AW.iconst 83 (nI 1) dX9_write_82 (by decide) rfl ?_
    refine AW.iload_n 84 dX9_write_83 rfl rfl ?_
    refine AW.aload_n 85 dX9_write_84 rfl rfl ?_
    refine AW.getR 88 dX9_write_85 fX9_46 rfl (zI rfl rfl) rfl rfl ?_
    refine AW.getR 91 dX9_write_88 fX9_166 rfl (zI rfl rfl) rfl rfl ?_
    refine AW.iload_n 92 dX9_write_91 rfl rfl ?_
    refine AW.iald 93 dX9_write_92 (zA rfl rfl) rfl (by omega) (by decide) rfl ?_
    refine AW.topi (nI (R t)) (hv' M2 f12).2.2.1 ?_
    refine AW.cVv3 96 dX9_write_93 kX9_177 (zI rfl rfl) (Nat.le_of_ble_eq_true rfl) rfl (C_X0_add2 (M := M2) (L := 4 * t + 1 + 1) b3 (by omega) (fun M3 c1 c2 c3 c4 c5 c6 => ?_))
    have f13 : ∀ c, c ≠ 70 → c ≠ 72 → c ≠ 73 → c ≠ 74 → M3 c = M c := fun c e1 e2 e3 e4 => by rw [c1 c e1 e2 e3 e4]; exact f12 c e1 e2 e3 e4
    refine AW.aload_n 97 dX9_write_96 rfl rfl ?_
    refine AW.getR 100 dX9_write_97 fX9_53 rfl (zI rfl rfl) rfl rfl ?_
    refine AW.iconst 101 (nI 2) dX9_write_100 (by decide) rfl ?_
    refine AW.iload_n 102 dX9_write_101 rfl rfl ?_
    refine AW.aload_n 103 dX9_write_102 rfl rfl ?_
    refine AW.getR 106 dX9_write_103 fX9_46 rfl (zI rfl rfl) rfl rfl ?_
    refine AW.getR 109 dX9_write_106 fX9_169 rfl (zI rfl rfl) rfl rfl ?_
    refine AW.iload_n 110 dX9_write_109 rfl rfl ?_
    refine AW.iald 111 dX9_write_110 (zA rfl rfl) rfl (by omega) (by decide) rfl ?_
    refine AW.topi (nI (Ac t)) (hv' M3 f13).2.2.2 ?_
    refine AW.cVv3 114 dX9_write_111 kX9_177 (zI rfl rfl) (Nat.le_of_ble_eq_true rfl) rfl (C_X0_add2 (M := M3) (L := 4 * t + 1 + 1 + 1) c3 (by omega) (fun M4 d1 d2 d3 d4 d5 d6 => ?_))
    refine AW.iinc2 117 _ dX9_write_114 (z_inc1 _) (by decide) rfl rfl ?_
    refine AW.goto 31 dX9_write_117 (by decide) ?_
    refine ih (t + 1) (by omega) M4 (fun c e1 e2 e3 e4 => by rw [d1 c e1 e2 e3 e4]; exact f13 c e1 e2 e3 e4) (fun j hj => by rw [d2 j hj, c2 j hj, b2 j hj, a2 j hj]; exact f2 j hj) d3 ?_
    have p1 := z_wB_s h (by rw [w0.1]) (by rw [w0.2.1]) (by rw [w0.2.2]) a4 a5 a6
    have p2 := z_wB_s p1 (by rw [w1.1]) (by rw [w1.2.1]) (by rw [w1.2.2]) b4 b5 b6
    have p3 := z_wB_s p2 (by rw [w2.1]) (by rw [w2.2.1]) (by rw [w2.2.2]) c4 c5 c6
    have p4 := z_wB_s p3 (by rw [w3.1]) (by rw [w3.2.1]) (by rw [w3.2.2]) d4 d5 d6
    exact p4
theorem C_X9_write (hT : M 59 1 = nI T) (hT2 : T ≤ 12) (hb0 : zMb m0) (hF : f_mach M m0 n H A N) (hW : ∀ t, t < 12 → M 61 t = nI (sg t) ∧ M 62 t = nI (lt t) ∧ sg t < 16 ∧ lt t < 2) {r : Int32} {Q : Int32 → zS → zM → Prop} (hbad : ¬ (0 ≤ r.toInt ∧ r.toInt ≤ 48) → Q (-1) (ZS m0 m1 md) M)
    (hok : ∀ rm, rm ≤ 48 → r = nI rm → ∀ M', (∀ c, c ≠ 65 → c ≠ 66 → c ≠ 67 → c ≠ 68 → c ≠ 69 → c ≠ 70 → c ≠ 72 → c ≠ 73 → c ≠ 74 → c ≠ 75 → M' c = M c) → f_bk M' (4 * T) (z_lk5 T (4 * T - rm)) (fun i => i / 4) (z_ln0 T (4 * T - rm) (z_wn sg lt (z_oc n H N sg lt (fun _ => true)) (z_oa n H A N sg lt (fun _ => true)))) → (∀ i, i < 4 * T → M' 75 i = z_sealF (M' 72) (M' 73) (M' 74) (i + 1)) → Q (nI (4 * T - rm)) (ZS m0 m1 md) M') : AMet l g yX9_write cX9_write 3 (some .int) (d + 3) 0 0 [.ref 0, .int r] (ZS m0 m1 md) M (z_Qi Q) := by
  have h8 := hF.2.1
  refine AMet.of (ini := false) rfl (fun h => by first | rfl | cases h) (Nat.le_of_ble_eq_true rfl) ?_
  show AW l g RX9 cX9_write 3 (some .int) false _ _ _ 0 [some (.ref 0), some (.int r), none] [] _ _ _
  refine AW.iload_n 1 dX9_write_0 rfl rfl ?_
  refine AW.bipush 3 (nI 48) dX9_write_1 (by decide) rfl ?_
  refine AW.cSi2 6 dX9_write_3 kX9_120 (Nat.le_of_ble_eq_true rfl) rfl (C_beyond rfl (by decide : (nI 48).toInt = 48) (fun b3 => ?_) (fun b3 => ?_))
  · skip
    refine AW.if_eq 9 11 dX9_write_6 (by decide) rfl (fun h => absurd h (by decide)) (fun _ => ?_)
    refine AW.iconst 10 (-1) dX9_write_9 (by decide) rfl ?_
    refine AW.iret dX9_write_10 .int rfl rfl rfl ⟨_, rfl, ?_⟩
    exact hbad (by omega)
  · skip
    refine AW.if_eq 9 11 dX9_write_6 (by decide) rfl (fun _ => ?_) (fun h => absurd h (by decide))
    obtain ⟨rm, hrm, rfl, hr2⟩ := z_nI (v := r) (n := 48) (by omega) (by omega)
    refine AW.aload_n 12 dX9_write_11 rfl rfl ?_
    refine AW.aload_n 13 dX9_write_12 rfl rfl ?_
    refine AW.getR 16 dX9_write_13 fX9_28 rfl (zI rfl rfl) rfl rfl ?_
    refine AW.iconst 17 (nI 0) dX9_write_16 (by decide) rfl ?_
    refine AW.aald 18 dX9_write_17 (zA rfl rfl) (by decide) rfl (by omega) (by decide) rfl rfl ?_
    refine AW.cVv1 21 dX9_write_18 kX9_159 (zI rfl rfl) (Nat.le_of_ble_eq_true rfl) rfl (C_X9_playAsIs hT hT2 hb0 hF hW (fun M2 k1 k2 k3 => ?_))
    refine AW.aload_n 22 dX9_write_21 rfl rfl ?_
    refine AW.getR 25 dX9_write_22 fX9_53 rfl (zI rfl rfl) rfl rfl ?_
    refine AW.iconst 26 (nI 0) dX9_write_25 (by decide) rfl ?_
    refine AW.putI 29 .int dX9_write_26 pX9_173 rfl (zI rfl rfl) rfl rfl rfl ?_
    refine AW.iconst 30 (nI 0) dX9_write_29 (by decide) rfl ?_
    refine AW.istn2 31 dX9_write_30 (by decide) rfl rfl ?_
    refine L_X9_write (M := M2) (T := T) (sg := sg) (lt := lt) (R := z_oc n H N sg lt (fun _ => true)) (Ac := z_oa n H A N sg lt (fun _ => true)) (by rw [k1 59 (by decide) (by decide) (by decide) (by decide) (by decide)]; exact hT) hT2 (fun t ht => ⟨(k2 t (by omega)).1, (k2 t (by omega)).2, (k3 t ht).2.1, (k3 t ht).2.2⟩) (fun M3 e1 e2 e3 e4 => ?_) T 0 (by omega) (z_st M2 70 1 (nI 0)) (fun c c1 _ _ _ => z_st_ne c1) (fun j hj => by rw [z_st_at]; unfold upd; rw [if_neg hj]) (by rw [z_st_at]; rfl) (fun i hi => absurd hi (by omega))
    refine AW.iconst 121 (nI 0) dX9_write_120 (by decide) rfl ?_
    refine AW.aload_n 122 dX9_write_121 rfl rfl ?_
    refine AW.getR 125 dX9_write_122 fX9_53 rfl (zI rfl rfl) rfl rfl ?_
    refine AW.getI 128 dX9_write_125 fX9_173 rfl (zI rfl rfl) rfl ?_
    refine AW.topi (nI (4 * T)) e3 ?_
    refine AW.iload_n 129 dX9_write_128 rfl rfl ?_
    refine AW.isub 130 dX9_write_129 rfl ?_
    refine AW.max 133 dX9_write_130 (by decide +kernel) (Nat.le_of_ble_eq_true rfl) rfl ?_
    refine AW.topi (nI (4 * T - rm)) (z_max0 (by omega) (by omega)) ?_
    refine AW.istn2 134 dX9_write_133 (by decide) rfl rfl ?_
    refine AW.aload_n 135 dX9_write_134 rfl rfl ?_
    refine AW.getR 138 dX9_write_135 fX9_53 rfl (zI rfl rfl) rfl rfl ?_
    refine AW.iload_n 139 dX9_write_138 rfl rfl ?_
    refine AW.cVv1 142 dX9_write_139 kX9_189 (zI rfl rfl) (Nat.le_of_ble_eq_true rfl) rfl (C_X0_lose (M := M3) (T := T) (wn := z_wn sg lt (z_oc n H N sg lt (fun _ => true)) (z_oa n H A N sg lt (fun _ => true))) (m := 4 * T - rm) e3 hT2 (by omega) (z_lB_0 e4) (fun M4 i1 i2 => ?_))
    refine AW.aload_n 143 dX9_write_142 rfl rfl ?_
    refine AW.getR 146 dX9_write_143 fX9_53 rfl (zI rfl rfl) rfl rfl ?_
    refine AW.cVv0 149 dX9_write_146 kX9_192 (zI rfl rfl) (Nat.le_of_ble_eq_true rfl) rfl (C_X0_sealAll (M := M4) (L := 4 * T) (by rw [i1 70 (by decide) (by decide)]; exact e3) (by omega) (fun M7 y1 y3 => ?_))
    refine AW.iload_n 150 dX9_write_149 rfl rfl ?_
    refine AW.iret dX9_write_150 .int rfl rfl rfl ⟨_, rfl, ?_⟩
    rw [show min (4 * T - rm) (4 * T) = 4 * T - rm by omega] at i2
    refine hok rm (by omega) rfl M7 (fun c c1 c2 c3 c4 c5 c6 c7 c8 c9 c10 => by rw [y1 c c10, i1 c c7 c9, e1 c c6 c7 c8 c9]; exact k1 c c1 c2 c3 c4 c5) ⟨by rw [y1 70 (by decide), i1 70 (by decide) (by decide)]; exact e3, by omega, fun i hi => ?_⟩ (fun i hi => by rw [y1 72 (by decide), y1 73 (by decide), y1 74 (by decide)]; exact y3 i hi)
    obtain ⟨u1, u2⟩ := i2 i hi
    obtain ⟨u3, u4⟩ := z_lk5_ok (T := T) (m := 4 * T - rm) (z_wn_le (T := T) (R := z_oc n H N sg lt (fun _ => true)) (Ac := z_oa n H A N sg lt (fun _ => true)) (fun t ht => ⟨(hW t (by omega)).2.2.1, (hW t (by omega)).2.2.2, z_fst_lt _ h8, z_act_lt (fun r hr => (hF.2.2 r hr).1) _⟩) hi)
    exact ⟨by rw [y1 72 (by decide)]; exact u1, by rw [y1 73 (by decide), i1 73 (by decide) (by decide)]; exact (e4 i hi).2.1, by rw [y1 74 (by decide)]; exact u2, u3, by show i / 4 < 12; omega, u4⟩
end WRITE2
