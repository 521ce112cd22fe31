theorem z_d128 {k : Nat} (h : k < 512) : nI k - nI k / nI 128 * nI 128 = nI (32 * (k % 128 / 32) + k % 32) ∧ nI k / nI 128 = nI (k / 128) := by
  have : ∀ k, k < 512 → nI k - nI k / nI 128 * nI 128 = nI (32 * (k % 128 / 32) + k % 32) ∧ nI k / nI 128 = nI (k / 128) := by decide +kernel
  exact this k h
def g_frD (M M' : zM) : Prop := (∀ c, c ≠ 99 → c ≠ 101 → c ≠ 102 → c ≠ 103 → c ≠ 132 → M' c = M c) ∧ ∀ j, j ≠ 2 → j ≠ 3 → M' 99 j = M 99 j
theorem g_frD.tr {M M1 M2 : zM} (h : g_frD M M1) (h2 : g_frD M1 M2) : g_frD M M2 := ⟨fun c a b e f i => (h2.1 c a b e f i).trans (h.1 c a b e f i), fun j a b => (h2.2 j a b).trans (h.2 j a b)⟩
theorem g_frO.D {M M' : zM} {o : Nat} (h : g_frO o M M') : g_frD M M' := ⟨fun c a b e f _ => h.1 c a b e f, h.2.1⟩
theorem g_fr.D {M M' : zM} (h : g_fr M M') : g_frD M M' := ⟨fun c a _ _ _ _ => h.1 c a, h.2⟩
theorem g_tp.ofD {M M' : zM} {n : Nat} {tp : Nat → Nat} (hT : g_tp M n tp) (h : g_frD M M') : g_tp M' n tp := hT.fr (h.2 1 (by decide) (by decide)) (h.1 100 (by decide) (by decide) (by decide) (by decide) (by decide))
section MDUTY
variable {l : Launch} {g : zG} {d m0 m1 md : Nat} {M : zM} {n : Nat} {tp : Nat → Nat} {s : pS}
theorem L_X10_dutyG (hT : g_tp M n tp) {R : pS × pB} (hR : pp_T tp n true 5 (false, 0) = R) (hRf : R.1.1 = false) {Q : Int32 → zS → zM → Prop}
    (hQ : ∀ (M' : zM), g_frD M M' → g_rd M' R.1 → (∀ k, k < 512 → M' 132 k = z_bI (R.2 (4 * (k / 128) + k % 128 / 32) (k % 32))) → AW l g RX10 cX10_duty 2 (some .int) false (d + 4) 0 0 53 [some (.ref 99), some (.int (nI 512))] [] (ZS m0 m1 md) M' (z_Qi Q)) :
    ∀ (q t : Nat), t + q = 512 → ∀ (M' : zM), g_frD M M' → M' 99 3 = nI 0 → (t = 0 ∨ M' 99 2 = nI R.1.2) → (∀ k, k < t → M' 132 k = z_bI (R.2 (4 * (k / 128) + k % 128 / 32) (k % 32))) → AW l g RX10 cX10_duty 2 (some .int) false (d + 4) 0 0 7 [some (.ref 99), some (.int (nI t))] [] (ZS m0 m1 md) M' (z_Qi Q) := by
  intro q
  induction q with
  | zero =>
    intro t ht M' F k3 k2 h
    have ht : t = 512 := by omega
    subst ht
    have k2 := k2.resolve_left (by decide)
    refine AW.iload_n 8 dX10_duty_7 rfl rfl ?_
    refine AW.sipush 11 (nI 512) dX10_duty_8 (by decide) rfl ?_
    refine AW.icmp_ge 14 53 dX10_duty_11 (by decide) rfl (fun _ => ?_) (fun h => absurd h (by decide))
    exact hQ M' F ⟨by rw [hRf]; exact k3, k2⟩ h
  | succ q ih =>
    intro t ht M' F k3 k2 h
    have F2 : g_frD M (z_st M' 99 2 (nI 0)) := F.tr (g_fr.D ((g_fr.rf M').st2 _))
    have r2 : g_rd (z_st M' 99 2 (nI 0)) (false, 0) := ⟨by rw [z_st_o (by decide)]; exact k3, z_st_v _ _ _ _⟩
    have d8 := z_d128 (k := t) (by omega)
    refine AW.iload_n 8 dX10_duty_7 rfl rfl ?_
    refine AW.sipush 11 (nI 512) dX10_duty_8 (by decide) rfl ?_
    refine AW.icmpN_ge 14 53 dX10_duty_11 (by decide) rfl (by omega) (by omega) (fun b11 => absurd b11 (by omega)) (fun b11 => ?_)
    refine AW.aload_n 15 dX10_duty_14 rfl rfl ?_
    refine AW.getI 18 dX10_duty_15 fX10_147 rfl (zI rfl rfl) rfl ?_
    refine AW.topi (nI 0) k3 ?_
    refine AW.ifN_ne 21 53 dX10_duty_18 (by decide) rfl (by omega) (fun b18 => absurd b18 (by omega)) (fun b18 => ?_)
    refine AW.aload_n 22 dX10_duty_21 rfl rfl ?_
    refine AW.iconst 23 (nI 0) dX10_duty_22 (by decide) rfl ?_
    refine AW.putI 26 .int dX10_duty_23 pX10_144 rfl (zI rfl rfl) rfl rfl rfl ?_
    refine AW.aload_n 27 dX10_duty_26 rfl rfl ?_
    refine AW.getR 30 dX10_duty_27 fX10_114 rfl (zI rfl rfl) rfl rfl ?_
    refine AW.iload_n 31 dX10_duty_30 rfl rfl ?_
    refine AW.aload_n 32 dX10_duty_31 rfl rfl ?_
    refine AW.iload_n 33 dX10_duty_32 rfl rfl ?_
    refine AW.sipush 36 (nI 128) dX10_duty_33 (by decide) rfl ?_
    refine AW.irem 37 dX10_duty_36 (by decide) rfl ?_
    refine AW.topi (nI (32 * (t % 128 / 32) + t % 32)) d8.1 ?_
    refine AW.iload_n 38 dX10_duty_37 rfl rfl ?_
    refine AW.sipush 41 (nI 128) dX10_duty_38 (by decide) rfl ?_
    refine AW.idiv 42 dX10_duty_41 (by decide) rfl ?_
    refine AW.topi (nI (t / 128)) d8.2 ?_
    refine AW.iconst 43 (nI 1) dX10_duty_42 (by decide) rfl ?_
    refine AW.cVi3 46 dX10_duty_43 kX10_170 (zI rfl rfl) (Nat.le_of_ble_eq_true rfl) rfl (C_X10_test (M := z_st M' 99 2 (nI 0)) (s := (false, 0)) (du := true) (st := t % 128 / 32) (x := t % 32) (a := t / 128) (by omega) (by omega) (by omega) (hT.ofD F2) r2 rfl (Nat.zero_le _) (fun M3 f3 r3 b3 => absurd (show R.1.1 = true by rw [← hR]; exact b3) (by rw [hRf]; exact Bool.false_ne_true)) (fun M3 f3 r3 b3 => ?_))
    refine AW.bast 47 dX10_duty_46 (zA rfl rfl) rfl (by omega) (by decide) (z_bI_nar _) rfl ?_
    rw [hR] at r3 ⊢
    refine AW.iinc1 50 _ dX10_duty_47 (z_inc1 _) (by decide) rfl rfl ?_
    refine AW.goto 7 dX10_duty_50 (by decide) ?_
    refine ih (t + 1) (by omega) _ (F2.tr ⟨fun c c1 c2 c3 c4 c5 => by rw [z_st_ne c5]; exact f3.1 c c1 c2 c3 c4, fun j j1 j2 => by rw [z_st_ne (by decide)]; exact f3.2.1 j j1 j2⟩) (by rw [z_st_ne (by decide), r3.1, hRf]; rfl) (Or.inr (by rw [z_st_ne (by decide)]; exact r3.2)) (fun j hj => ?_)
    by_cases e : j = t
    · subst e; rw [z_st_v]
    · rw [z_st_o (by omega), f3.1 132 (by decide) (by decide) (by decide) (by decide), z_st_ne (by decide)]; exact h j (by omega)
theorem L_X10_dutyC {B : Nat → Bool} (hB : ∀ k, k < 512 → M 132 k = z_bI (B k)) {Q : Int32 → zS → zM → Prop} (hQ : ∀ M', (∀ c, c ≠ 131 → c ≠ 99 → M' c = M c) → (∀ j, j ≠ 39 → M' 99 j = M 99 j) → M' 99 39 = nI 1 → (∀ k, k < 512 → M' 131 k = z_bI (B k)) → Q (nI 1) (ZS m0 m1 md) M') :
    ∀ (q t : Nat), t + q = 512 → ∀ (M' : zM), (∀ c, c ≠ 131 → M' c = M c) → (∀ k, k < t → M' 131 k = z_bI (B k)) → AW l g RX10 cX10_duty 2 (some .int) false d 0 0 98 [some (.ref 99), some (.int (nI t))] [] (ZS m0 m1 md) M' (z_Qi Q) := by
  intro q
  induction q with
  | zero =>
    intro t ht M' F h
    have ht : t = 512 := by omega
    subst ht
    refine AW.iload_n 99 dX10_duty_98 rfl rfl ?_
    refine AW.sipush 102 (nI 512) dX10_duty_99 (by decide) rfl ?_
    refine AW.icmp_ge 105 123 dX10_duty_102 (by decide) rfl (fun _ => ?_) (fun h => absurd h (by decide))
    refine AW.aload_n 124 dX10_duty_123 rfl rfl ?_
    refine AW.iconst 125 (nI 1) dX10_duty_124 (by decide) rfl ?_
    refine AW.putI 128 .boolean dX10_duty_125 pX10_275 rfl (zI rfl rfl) rfl rfl rfl ?_
    refine AW.iconst 129 (nI 1) dX10_duty_128 (by decide) rfl ?_
    refine AW.iret dX10_duty_129 .int rfl rfl rfl ⟨_, rfl, ?_⟩
    exact hQ _ (fun c c1 c2 => by rw [z_st_ne c2]; exact F c c1) (fun j hj => by rw [z_st_o hj, F 99 (by decide)]) (z_st_v _ _ _ _) (fun k hk => by rw [z_st_ne (by decide)]; exact h k hk)
  | succ q ih =>
    intro t ht M' F h
    refine AW.iload_n 99 dX10_duty_98 rfl rfl ?_
    refine AW.sipush 102 (nI 512) dX10_duty_99 (by decide) rfl ?_
    refine AW.icmpN_ge 105 123 dX10_duty_102 (by decide) rfl (by omega) (by omega) (fun b102 => absurd b102 (by omega)) (fun b102 => ?_)
    refine AW.aload_n 106 dX10_duty_105 rfl rfl ?_
    refine AW.getR 109 dX10_duty_106 fX10_111 rfl (zI rfl rfl) rfl rfl ?_
    refine AW.iload_n 110 dX10_duty_109 rfl rfl ?_
    refine AW.aload_n 111 dX10_duty_110 rfl rfl ?_
    refine AW.getR 114 dX10_duty_111 fX10_114 rfl (zI rfl rfl) rfl rfl ?_
    refine AW.iload_n 115 dX10_duty_114 rfl rfl ?_
    refine AW.bald 116 dX10_duty_115 (zA rfl rfl) rfl (by omega) (by decide) rfl ?_
    refine AW.topi (z_bI (B t)) (by rw [F 132 (by decide)]; exact hB t (by omega)) ?_
    refine AW.bast 117 dX10_duty_116 (zA rfl rfl) rfl (by omega) (by decide) (z_bI_nar _) rfl ?_
    refine AW.iinc1 120 _ dX10_duty_117 (z_inc1 _) (by decide) rfl rfl ?_
    refine AW.goto 98 dX10_duty_120 (by decide) ?_
    refine ih (t + 1) (by omega) _ (fun c hc => by rw [z_st_ne hc]; exact F c hc) (fun j hj => ?_)
    by_cases e : j = t
    · subst e; rw [z_st_v]
    · rw [z_st_o (by omega)]; exact h j (by omega)
theorem C_X10_duty (hT : g_tp M n tp) {Q : Int32 → zS → zM → Prop}
    (hfail : (pp_end tp n (pp_T tp n true 5 (false, 0)).1).1 = true → ∀ M', (∀ c, c ≠ 99 → ¬ (101 ≤ c ∧ c ≤ 103) → c ≠ 132 → M' c = M c) → (∀ j, j ≠ 1 → j ≠ 2 → j ≠ 3 → M' 99 j = M 99 j) → M' 99 1 = nI 0 → Q (pp_ans (pp_end tp n (pp_T tp n true 5 (false, 0)).1) 1) (ZS m0 m1 md) M')
    (hok : (pp_end tp n (pp_T tp n true 5 (false, 0)).1).1 = false → ∀ M', (∀ c, c ≠ 99 → ¬ (101 ≤ c ∧ c ≤ 103) → c ≠ 131 → c ≠ 132 → M' c = M c) → (∀ j, j ≠ 1 → j ≠ 2 → j ≠ 3 → j ≠ 39 → M' 99 j = M 99 j) → M' 99 1 = nI 0 → M' 99 39 = nI 1 → (∀ k, k < 512 → M' 131 k = z_bI ((pp_T tp n true 5 (false, 0)).2 (4 * (k / 128) + k % 128 / 32) (k % 32))) → Q (pp_ans (pp_end tp n (pp_T tp n true 5 (false, 0)).1) 1) (ZS m0 m1 md) M') :
    AMet l g yX10_duty cX10_duty 2 (some .int) (d + 4) 0 0 [.ref 99] (ZS m0 m1 md) M (z_Qi Q) := by
  have hG := (pp_T_good (tp := tp) (n := n) true 5).2 (false, 0) (Nat.zero_le _)
  generalize hR : pp_T tp n true 5 (false, 0) = R at hfail hok hG
  have hRn : R.1.2 ≤ n := hG.1
  have K76 : ∀ (M3 : zM) (v1 : Int32), g_frD M M3 → g_rd M3 (pp_end tp n R.1) → (R.1.1 = false → ∀ k, k < 512 → M3 132 k = z_bI (R.2 (4 * (k / 128) + k % 128 / 32) (k % 32))) → AW l g RX10 cX10_duty 2 (some .int) false (d + 4) 0 0 76 [some (.ref 99), some (.int v1)] [] (ZS m0 m1 md) M3 (z_Qi Q) := by
    intro M3 v1 F r3 h3
    refine AW.aload_n 77 dX10_duty_76 rfl rfl ?_
    refine AW.iconst 78 (nI 0) dX10_duty_77 (by decide) rfl ?_
    refine AW.putI 81 .int dX10_duty_78 pX10_141 rfl (zI rfl rfl) rfl rfl rfl ?_
    refine AW.aload_n 82 dX10_duty_81 rfl rfl ?_
    refine AW.getI 85 dX10_duty_82 fX10_147 rfl (zI rfl rfl) rfl ?_
    refine AW.topi (z_bI (pp_end tp n R.1).1) (by rw [z_st_o (by decide)]; exact r3.1) ?_
    refine AW.zif_eq 88 96 dX10_duty_85 (by decide) rfl rfl (fun b85 => ?_) (fun b85 => ?_)
    · skip
      refine AW.iconst 97 (nI 0) dX10_duty_96 (by decide) rfl ?_
      refine AW.istn1 98 dX10_duty_97 (by decide) rfl rfl ?_
      have hE := z_bf b85
      have h4 := h3 (pp_end_nf hE)
      refine L_X10_dutyC (M := z_st M3 99 1 (nI 0)) (B := fun k => R.2 (4 * (k / 128) + k % 128 / 32) (k % 32)) (fun k hk => by rw [z_st_ne (by decide)]; exact h4 k hk) (fun M' q1 q2 q3 q4 => ?_) 512 0 (by omega) _ (fun _ _ => rfl) (fun j hj => absurd hj (by omega))
      have fin := hok hE M' (fun c c1 c2 c3 c4 => by rw [q1 c c3 c1, z_st_ne c1]; exact F.1 c c1 (by omega) (by omega) (by omega) c4) (fun j j1 j2 j3 j4 => by rw [q2 j j4, z_st_o j1]; exact F.2 j j2 j3) (by rw [q2 1 (by decide), z_st_v]) q3 q4
      unfold pp_ans at fin
      rw [if_neg (by rw [hE]; exact Bool.false_ne_true)] at fin
      exact fin
    · skip
      refine AW.bipush 90 (-20) dX10_duty_88 (by decide) rfl ?_
      refine AW.aload_n 91 dX10_duty_90 rfl rfl ?_
      refine AW.getI 94 dX10_duty_91 fX10_144 rfl (zI rfl rfl) rfl ?_
      refine AW.topi (nI (pp_end tp n R.1).2) (by rw [z_st_o (by decide)]; exact r3.2) ?_
      refine AW.isub 95 dX10_duty_94 rfl ?_
      refine AW.iret dX10_duty_95 .int rfl rfl rfl ⟨_, rfl, ?_⟩
      have fin := hfail (z_bt b85) (z_st M3 99 1 (nI 0)) (fun c c1 c2 c3 => by rw [z_st_ne c1]; exact F.1 c c1 (by omega) (by omega) (by omega) c3) (fun j j1 j2 j3 => by rw [z_st_o j1]; exact F.2 j j2 j3) (z_st_v _ _ _ _)
      unfold pp_ans at fin
      rw [if_pos (z_bt b85)] at fin
      exact fin
  have K53 : ∀ (M2 : zM) (v1 : Int32), g_frD M M2 → g_rd M2 R.1 → (R.1.1 = false → ∀ k, k < 512 → M2 132 k = z_bI (R.2 (4 * (k / 128) + k % 128 / 32) (k % 32))) → AW l g RX10 cX10_duty 2 (some .int) false (d + 4) 0 0 53 [some (.ref 99), some (.int v1)] [] (ZS m0 m1 md) M2 (z_Qi Q) := by
    intro M2 v1 F r2 h2
    cases hw : R.1.1 with
    | true =>
      have e3 : M2 99 3 = nI 1 := by rw [r2.1, hw]; rfl
      have eE2 : pp_end tp n R.1 = R.1 := by unfold pp_end; rw [if_pos hw]
      have fin := K76 (z_st M2 99 3 (nI 1)) v1 (F.tr (g_fr.D ((g_fr.rf M2).st3 _))) (by rw [eE2]; exact ⟨by rw [z_st_v, hw]; rfl, by rw [z_st_o (by decide)]; exact r2.2⟩) (fun z => by rw [hw] at z; exact Bool.noConfusion z)
      refine AW.aload_n 54 dX10_duty_53 rfl rfl ?_
      refine AW.aload_n 55 dX10_duty_54 rfl rfl ?_
      refine AW.getI 58 dX10_duty_55 fX10_147 rfl (zI rfl rfl) rfl ?_
      refine AW.topi (nI 1) e3 ?_
      refine AW.ifN_ne 61 68 dX10_duty_58 (by decide) rfl (by omega) (fun b58 => ?_) (fun b58 => absurd b58 (by omega))
      refine AW.iconst 69 (nI 1) dX10_duty_68 (by decide) rfl ?_
      refine AW.goto 73 dX10_duty_69 (by decide) ?_
      refine AW.putI 76 .boolean dX10_duty_73 pX10_147 rfl (zI rfl rfl) rfl rfl rfl ?_
      exact fin
    | false =>
      have e3 : M2 99 3 = nI 0 := by rw [r2.1, hw]; rfl
      have es : R.1 = (false, R.1.2) := by rw [← hw]
      have hcu := pp_cu_le hT.2.1 R.1.2
      have fin : ∀ (M3 : zM) (b : Bool), g_fr M2 M3 → M3 99 2 = nI (pp_sk tp n R.1.2) → ((b = true ∧ ¬ pp_cu tp n R.1.2 = 0) ∨ (b = false ∧ pp_cu tp n R.1.2 = 0)) → AW l g RX10 cX10_duty 2 (some .int) false (d + 4) 0 0 76 [some (.ref 99), some (.int v1)] [] (ZS m0 m1 md) (z_st M3 99 3 (z_bI b)) (z_Qi Q) := fun M3 b f3 q3 hb => by
        have eE2 : pp_end tp n R.1 = (b, pp_sk tp n R.1.2) := by
          have := pp_end_c (p := R.1.2) hT.2.1 b hb
          rw [← es] at this
          exact this
        refine K76 _ v1 (F.tr (g_fr.D (f3.st3 _))) (by rw [eE2]; exact ⟨z_st_v _ _ _ _, by rw [z_st_o (by decide)]; exact q3⟩) (fun _ i hi => ?_)
        rw [z_st_ne (by decide), f3.1 132 (by decide)]
        exact h2 hw i hi
      refine AW.aload_n 54 dX10_duty_53 rfl rfl ?_
      refine AW.aload_n 55 dX10_duty_54 rfl rfl ?_
      refine AW.getI 58 dX10_duty_55 fX10_147 rfl (zI rfl rfl) rfl ?_
      refine AW.topi (nI 0) e3 ?_
      refine AW.ifN_ne 61 68 dX10_duty_58 (by decide) rfl (by omega) (fun b58 => absurd b58 (by omega)) (fun b58 => ?_)
      refine AW.aload_n 62 dX10_duty_61 rfl rfl ?_
      refine AW.cVi0 65 dX10_duty_62 kX10_151 (zI rfl rfl) (Nat.le_of_ble_eq_true rfl) rfl (C_X10_next (M := M2) (p := R.1.2) (hT.ofD F) hRn r2.2 (fun M3 a1 a2 a3 => ?_))
      refine AW.ifN_eq 68 72 dX10_duty_65 (by decide) rfl (by omega) (fun b65 => ?_) (fun b65 => ?_)
      · skip
        refine AW.iconst 73 (nI 0) dX10_duty_72 (by decide) rfl ?_
        refine AW.putI 76 .boolean dX10_duty_73 pX10_147 rfl (zI rfl rfl) rfl rfl rfl ?_
        first | exact fin M3 true ⟨a1, fun j h _ => a2 j h⟩ a3 (Or.inl ⟨rfl, b65⟩) | exact fin M3 false ⟨a1, fun j h _ => a2 j h⟩ a3 (Or.inr ⟨rfl, b65⟩)
      · skip
        refine AW.iconst 69 (nI 1) dX10_duty_68 (by decide) rfl ?_
        refine AW.goto 73 dX10_duty_69 (by decide) ?_
        refine AW.putI 76 .boolean dX10_duty_73 pX10_147 rfl (zI rfl rfl) rfl rfl rfl ?_
        first | exact fin M3 true ⟨a1, fun j h _ => a2 j h⟩ a3 (Or.inl ⟨rfl, b65⟩) | exact fin M3 false ⟨a1, fun j h _ => a2 j h⟩ a3 (Or.inr ⟨rfl, b65⟩)
  have W : ∀ (M6 : zM) (t : Nat), t < 512 → M6 99 3 = nI 1 → AW l g RX10 cX10_duty 2 (some .int) false (d + 4) 0 0 53 [some (.ref 99), some (.int (nI t))] [] (ZS m0 m1 md) M6 (z_Qi Q) → AW l g RX10 cX10_duty 2 (some .int) false (d + 4) 0 0 7 [some (.ref 99), some (.int (nI t))] [] (ZS m0 m1 md) M6 (z_Qi Q) := by
    intro M6 t ht e3 fin
    refine AW.iload_n 8 dX10_duty_7 rfl rfl ?_
    refine AW.sipush 11 (nI 512) dX10_duty_8 (by decide) rfl ?_
    refine AW.icmpN_ge 14 53 dX10_duty_11 (by decide) rfl (by omega) (by omega) (fun b11 => absurd b11 (by omega)) (fun b11 => ?_)
    refine AW.aload_n 15 dX10_duty_14 rfl rfl ?_
    refine AW.getI 18 dX10_duty_15 fX10_147 rfl (zI rfl rfl) rfl ?_
    refine AW.topi (nI 1) e3 ?_
    refine AW.ifN_ne 21 53 dX10_duty_18 (by decide) rfl (by omega) (fun b18 => ?_) (fun b18 => absurd b18 (by omega))
    exact fin
  have F0 : g_frD M (z_st M 99 3 (nI 0)) := g_fr.D ((g_fr.rf M).st3 _)
  have L7 : AW l g RX10 cX10_duty 2 (some .int) false (d + 4) 0 0 7 [some (.ref 99), some (.int (nI 0))] [] (ZS m0 m1 md) (z_st M 99 3 (nI 0)) (z_Qi Q) := by
    cases hRf : R.1.1 with
    | false => exact L_X10_dutyG (M := M) hT hR hRf (fun M2 F r2 h2 => K53 M2 _ F r2 (fun _ => h2)) 512 0 (by omega) _ F0 (z_st_v _ _ _ _) (Or.inl rfl) (fun j hj => absurd hj (by omega))
    | true =>
      have F3 : g_frD M (z_st (z_st M 99 3 (nI 0)) 99 2 (nI 0)) := F0.tr (g_fr.D ((g_fr.rf _).st2 _))
      have r3 : g_rd (z_st (z_st M 99 3 (nI 0)) 99 2 (nI 0)) (false, 0) := ⟨by rw [z_st_o (by decide), z_st_v]; rfl, z_st_v _ _ _ _⟩
      refine AW.iload_n 8 dX10_duty_7 rfl rfl ?_
      refine AW.sipush 11 (nI 512) dX10_duty_8 (by decide) rfl ?_
      refine AW.icmp_ge 14 53 dX10_duty_11 (by decide) rfl (fun h => absurd h (by decide)) (fun _ => ?_)
      refine AW.aload_n 15 dX10_duty_14 rfl rfl ?_
      refine AW.getI 18 dX10_duty_15 fX10_147 rfl (zI rfl rfl) rfl ?_
      refine AW.topi (nI 0) (z_st_v _ _ _ _) ?_
      refine AW.ifN_ne 21 53 dX10_duty_18 (by decide) rfl (by omega) (fun b18 => absurd b18 (by omega)) (fun b18 => ?_)
      refine AW.aload_n 22 dX10_duty_21 rfl rfl ?_
      refine AW.iconst 23 (nI 0) dX10_duty_22 (by decide) rfl ?_
      refine AW.putI 26 .int dX10_duty_23 pX10_144 rfl (zI rfl rfl) rfl rfl rfl ?_
      refine AW.aload_n 27 dX10_duty_26 rfl rfl ?_
      refine AW.getR 30 dX10_duty_27 fX10_114 rfl (zI rfl rfl) rfl rfl ?_
      refine AW.iload_n 31 dX10_duty_30 rfl rfl ?_
      refine AW.aload_n 32 dX10_duty_31 rfl rfl ?_
      refine AW.iload_n 33 dX10_duty_32 rfl rfl ?_
      refine AW.sipush 36 (nI 128) dX10_duty_33 (by decide) rfl ?_
      refine AW.irem 37 dX10_duty_36 (by decide) rfl ?_
      refine AW.topi (nI (32 * 0 + 0)) (by decide) ?_
      refine AW.iload_n 38 dX10_duty_37 rfl rfl ?_
      refine AW.sipush 41 (nI 128) dX10_duty_38 (by decide) rfl ?_
      refine AW.idiv 42 dX10_duty_41 (by decide) rfl ?_
      refine AW.topi (nI 0) (by decide) ?_
      refine AW.iconst 43 (nI 1) dX10_duty_42 (by decide) rfl ?_
      refine AW.cVi3 46 dX10_duty_43 kX10_170 (zI rfl rfl) (Nat.le_of_ble_eq_true rfl) rfl (C_X10_test (M := z_st (z_st M 99 3 (nI 0)) 99 2 (nI 0)) (s := (false, 0)) (du := true) (st := 0) (x := 0) (a := 0) (by omega) (by omega) (by omega) (hT.ofD F3) r3 rfl (Nat.zero_le _) (fun M3 f3 q3 b3 => ?_) (fun M3 f3 q3 b3 => by rw [hR, hRf] at b3; exact Bool.noConfusion b3))
      refine AW.bast 47 dX10_duty_46 (zA rfl rfl) rfl (by omega) (by decide) (by decide) rfl ?_
      rw [hR] at q3
      refine AW.iinc1 50 _ dX10_duty_47 (z_inc1 _) (by decide) rfl rfl ?_
      refine AW.goto 7 dX10_duty_50 (by decide) ?_
      have F9 : g_frD M (z_st M3 132 0 (nI 0)) := F3.tr (f3.D.tr ⟨fun c _ _ _ _ c5 => z_st_ne c5, fun j _ _ => by rw [z_st_ne (by decide)]⟩)
      exact W _ (0 + 1) (by decide) (by rw [z_st_ne (by decide), q3.1, hRf]; rfl) (K53 _ _ F9 ⟨by rw [z_st_ne (by decide)]; exact q3.1, by rw [z_st_ne (by decide)]; exact q3.2⟩ (fun z => by rw [hRf] at z; exact Bool.noConfusion z))
  refine AMet.of (ini := false) rfl (fun h => by first | rfl | cases h) (Nat.le_of_ble_eq_true rfl) ?_
  show AW l g RX10 cX10_duty 2 (some .int) false _ _ _ 0 [some (.ref 99), none] [] _ _ _
  refine AW.aload_n 1 dX10_duty_0 rfl rfl ?_
  refine AW.iconst 2 (nI 0) dX10_duty_1 (by decide) rfl ?_
  refine AW.putI 5 .boolean dX10_duty_2 pX10_147 rfl (zI rfl rfl) rfl rfl rfl ?_
  refine AW.iconst 6 (nI 0) dX10_duty_5 (by decide) rfl ?_
  refine AW.istn1 7 dX10_duty_6 (by decide) rfl rfl ?_
  exact L7
end MDUTY
