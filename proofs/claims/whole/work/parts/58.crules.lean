def z_swS (m0 m1 md a : Nat) : zS := if a = 0 then ZS md m1 m0 else ZS m0 md m1
theorem z_swap {m0 m1 md a : Nat} (ha : a < 2) : z_sR (z_sR (ZS m0 m1 md) 19 a md) 0 3 (z_bs m0 m1 a) = z_swS m0 m1 md a := by
  rcases (show a = 0 ∨ a = 1 by omega) with rfl | rfl
  · exact z_swap0 m0 m1 md
  · exact z_swap1 m0 m1 md
section CRULES
variable {l : Launch} {g : zG} {d m0 m1 md : Nat} {M : zM} {n : Nat} {tp : Nat → Nat}
theorem pp_end_le {s : pS} (hn : s.2 ≤ n) : (pp_end tp n s).2 ≤ n := by
  unfold pp_end
  split
  · exact hn
  · exact (pp_sk_le (tp := tp) hn).2
theorem C_X9_rules (hb0 : zMb m0) (hb1 : zMb m1) (hbd : zMb md) (hT : f_tp M n tp) {m : Int32} {Q : Int32 → zS → zM → Prop} (hbad : ¬ (0 ≤ m.toInt ∧ m.toInt ≤ 1) → Q (-1) (ZS m0 m1 md) M)
    (hfail : 0 ≤ m.toInt ∧ m.toInt ≤ 1 → (pp_E tp n).1 = true → ∀ M', (∀ c, ¬ (1 ≤ c ∧ c ≤ 18) → ¬ (md ≤ c ∧ c < md + 13) → M' c = M c) → M' 1 1 = nI 0 → Q (pp_ans (pp_E tp n) (pp_K tp n).1) (ZS m0 m1 md) M')
    (hok : ∀ a, a < 2 → m = nI a → (pp_E tp n).1 = false → ∀ M', (∀ c, ¬ (1 ≤ c ∧ c ≤ 18) → ¬ (md ≤ c ∧ c < md + 13) → M' c = M c) → M' 1 1 = nI 0 → M' md 4 = nI (pp_K tp n).1 → f_ru tp n M' md (pp_K tp n).1 → Q (pp_ans (pp_E tp n) (pp_K tp n).1) (z_swS m0 m1 md a) M') : AMet l g yX9_rules cX9_rules 4 (some .int) (d + 23) 0 0 [.ref 0, .int m] (ZS m0 m1 md) M (z_Qi Q) := by
  have hbl := zMb_lt hbd
  have hK := pp_st_run (tp := tp) (n := n) 7 0 (by omega) (Nat.zero_le _)
  have hge := pp_ans_ge (E := pp_E tp n) (k := (pp_K tp n).1) (Nat.le_trans (pp_end_le hK.1) hT.2.1.1) hK.2.1
  refine AMet.of (ini := false) rfl (fun h => by first | rfl | cases h) (Nat.le_of_ble_eq_true rfl) ?_
  show AW l g RX9 cX9_rules 4 (some .int) false _ _ _ 0 [some (.ref 0), some (.int m), none, none] [] _ _ _
  refine AW.aload_n 1 dX9_rules_0 rfl rfl ?_
  refine AW.iload_n 2 dX9_rules_1 rfl rfl ?_
  refine AW.cVi1 5 dX9_rules_2 kX9_111 (zI rfl rfl) (Nat.le_of_ble_eq_true rfl) rfl (C_X9_noMachine (fun b2 => ?_) (fun b2 => ?_))
  · skip
    refine AW.if_eq 8 10 dX9_rules_5 (by decide) rfl (fun h => absurd h (by decide)) (fun _ => ?_)
    refine AW.iconst 9 (-1) dX9_rules_8 (by decide) rfl ?_
    refine AW.iret dX9_rules_9 .int rfl rfl rfl ⟨_, rfl, ?_⟩
    exact hbad (by omega)
  · skip
    obtain ⟨a, ha, rfl, ha2⟩ := z_nI (v := m) (n := 1) (by omega) (by omega)
    refine AW.if_eq 8 10 dX9_rules_5 (by decide) rfl (fun _ => ?_) (fun h => absurd h (by decide))
    refine AW.aload_n 11 dX9_rules_10 rfl rfl ?_
    refine AW.getR 14 dX9_rules_11 fX9_21 rfl (zI rfl rfl) rfl rfl ?_
    refine AW.aload_n 15 dX9_rules_14 rfl rfl ?_
    refine AW.getR 18 dX9_rules_15 fX9_32 rfl (zI rfl rfl) rfl rfl ?_
    refine AW.cVi1 21 dX9_rules_18 kX9_115 (zI rfl rfl) (Nat.le_of_ble_eq_true rfl) rfl (C_X4_readRules (b := md) hbd hT (fun M1 f1 h1 => ?_))
    refine AW.istn2 22 dX9_rules_21 (by decide) rfl rfl ?_
    refine AW.aload_n 23 dX9_rules_22 rfl rfl ?_
    refine AW.getR 26 dX9_rules_23 fX9_10 rfl (zI rfl rfl) rfl rfl ?_
    refine AW.iconst 27 (nI 0) dX9_rules_26 (by decide) rfl ?_
    refine AW.putI 30 .int dX9_rules_27 pX9_104 rfl (zI rfl rfl) rfl rfl rfl ?_
    have f2 : ∀ c, ¬ (1 ≤ c ∧ c ≤ 18) → ¬ (md ≤ c ∧ c < md + 13) → z_st M1 1 1 (nI 0) c = M c := fun c k1 k2 => by rw [z_st_ne (by omega)]; exact f1 c (by omega) k2
    have z1 : z_st M1 1 1 (nI 0) 1 1 = nI 0 := z_st_v _ _ _ _
    refine AW.iload_n 31 dX9_rules_30 rfl rfl ?_
    refine AW.zif_ge 34 36 dX9_rules_31 (by decide) rfl rfl (fun b31 => ?_) (fun b31 => ?_)
    · skip
      refine AW.aload_n 37 dX9_rules_36 rfl rfl ?_
      refine AW.getR 40 dX9_rules_37 fX9_28 rfl (zI rfl rfl) rfl rfl ?_
      refine AW.iload_n 41 dX9_rules_40 rfl rfl ?_
      refine AW.aald 42 dX9_rules_41 (zA rfl rfl) (by decide) rfl (by omega) (by decide) (zMa_r (by omega)) rfl ?_
      refine AW.astn3 43 dX9_rules_42 (by decide) rfl rfl ?_
      refine AW.aload_n 44 dX9_rules_43 rfl rfl ?_
      refine AW.getR 47 dX9_rules_44 fX9_28 rfl (zI rfl rfl) rfl rfl ?_
      refine AW.iload_n 48 dX9_rules_47 rfl rfl ?_
      refine AW.aload_n 49 dX9_rules_48 rfl rfl ?_
      refine AW.getR 52 dX9_rules_49 fX9_32 rfl (zI rfl rfl) rfl rfl ?_
      refine AW.aast 53 dX9_rules_52 (zA rfl rfl) (by decide) (zMb_is hbd) rfl (by omega) (by decide) rfl ?_
      refine AW.aload_n 54 dX9_rules_53 rfl rfl ?_
      refine AW.aload_n 55 dX9_rules_54 rfl rfl ?_
      refine AW.putR 58 (.object "MachineBench$Machine") dX9_rules_55 pX9_32 rfl (zI rfl rfl) (fun _ => ⟨rfl, rfl⟩) rfl ?_
      refine AW.iload_n 59 dX9_rules_58 rfl rfl ?_
      refine AW.iret dX9_rules_59 .int rfl rfl rfl ⟨_, rfl, ?_⟩
      have hE := hge.mp b31
      obtain ⟨k1, k2⟩ := h1 hE
      have fin := hok a (by omega) rfl hE _ f2 z1 (by rw [z_st_ne (by omega)]; exact k1) (fun i hi => by rw [z_st_ne (by omega), z_st_ne (by omega), z_st_ne (by omega), z_st_ne (by omega)]; exact k2 i hi)
      rw [← z_swap (by omega)] at fin
      exact fin
    · skip
      refine AW.iload_n 35 dX9_rules_34 rfl rfl ?_
      refine AW.iret dX9_rules_35 .int rfl rfl rfl ⟨_, rfl, ?_⟩
      have hE : (pp_E tp n).1 = true := by
        cases e : (pp_E tp n).1 with
        | true => rfl
        | false => exact absurd (hge.mpr e) b31
      exact hfail (by omega) hE _ f2 z1
theorem C_X9_duty (hT : f_tp M n tp) {Q : Int32 → zS → zM → Prop}
    (hfail : (pp_end tp n (pp_T tp n true 5 (false, 0)).1).1 = true → ∀ M', (∀ c, ¬ (1 ≤ c ∧ c ≤ 18) → M' c = M c) → M' 1 1 = nI 0 → Q (pp_ans (pp_end tp n (pp_T tp n true 5 (false, 0)).1) 1) (ZS m0 m1 md) M')
    (hok : (pp_end tp n (pp_T tp n true 5 (false, 0)).1).1 = false → ∀ M', (∀ c, ¬ (1 ≤ c ∧ c ≤ 18) → c ≠ 89 → c ≠ 0 → M' c = M c) → (∀ j, j ≠ 13 → M' 0 j = M 0 j) → M' 0 13 = nI 1 → M' 1 1 = nI 0 → pR (M' 89) (pp_T tp n true 5 (false, 0)).2 → Q (pp_ans (pp_end tp n (pp_T tp n true 5 (false, 0)).1) 1) (ZS m0 m1 md) M') : AMet l g yX9_duty cX9_duty 2 (some .int) (d + 22) 0 0 [.ref 0] (ZS m0 m1 md) M (z_Qi Q) := by
  have g1 := (pp_T_good (tp := tp) (n := n) true 5).2 (false, 0) (Nat.zero_le _)
  have hge := pp_ans_ge (E := pp_end tp n (pp_T tp n true 5 (false, 0)).1) (k := 1) (Nat.le_trans (pp_end_le g1.1) hT.2.1.1) (by decide)
  refine AMet.of (ini := false) rfl (fun h => by first | rfl | cases h) (Nat.le_of_ble_eq_true rfl) ?_
  show AW l g RX9 cX9_duty 2 (some .int) false _ _ _ 0 [some (.ref 0), none] [] _ _ _
  refine AW.aload_n 1 dX9_duty_0 rfl rfl ?_
  refine AW.getR 4 dX9_duty_1 fX9_21 rfl (zI rfl rfl) rfl rfl ?_
  refine AW.aload_n 5 dX9_duty_4 rfl rfl ?_
  refine AW.getR 8 dX9_duty_5 fX9_79 rfl (zI rfl rfl) rfl rfl ?_
  refine AW.cVi1 11 dX9_duty_8 kX9_296 (zI rfl rfl) (Nat.le_of_ble_eq_true rfl) rfl (C_X4_readDuty hT (fun M1 f1 h1 h2 => ?_))
  refine AW.istn1 12 dX9_duty_11 (by decide) rfl rfl ?_
  refine AW.aload_n 13 dX9_duty_12 rfl rfl ?_
  refine AW.getR 16 dX9_duty_13 fX9_10 rfl (zI rfl rfl) rfl rfl ?_
  refine AW.iconst 17 (nI 0) dX9_duty_16 (by decide) rfl ?_
  refine AW.putI 20 .int dX9_duty_17 pX9_104 rfl (zI rfl rfl) rfl rfl rfl ?_
  refine AW.iload_n 21 dX9_duty_20 rfl rfl ?_
  refine AW.zif_ge 24 26 dX9_duty_21 (by decide) rfl rfl (fun b21 => ?_) (fun b21 => ?_)
  · skip
    refine AW.aload_n 27 dX9_duty_26 rfl rfl ?_
    refine AW.iconst 28 (nI 1) dX9_duty_27 (by decide) rfl ?_
    refine AW.putI 31 .boolean dX9_duty_28 pX9_89 rfl (zI rfl rfl) rfl rfl rfl ?_
    refine AW.iload_n 32 dX9_duty_31 rfl rfl ?_
    refine AW.iret dX9_duty_32 .int rfl rfl rfl ⟨_, rfl, ?_⟩
    have hE := hge.mp b21
    exact hok hE _ (fun c k1 k2 k3 => by rw [z_st_ne k3, z_st_ne (by omega)]; exact f1 c (by omega) k2) (fun j hj => by rw [z_st_o hj, z_st_ne (by decide), f1 0 (by omega) (by decide)]) (z_st_v _ _ _ _) (by rw [z_st_ne (by decide), z_st_v]) (by rw [z_st_ne (by decide), z_st_ne (by decide)]; exact h1 hE)
  · skip
    refine AW.iload_n 25 dX9_duty_24 rfl rfl ?_
    refine AW.iret dX9_duty_25 .int rfl rfl rfl ⟨_, rfl, ?_⟩
    have hE : (pp_end tp n (pp_T tp n true 5 (false, 0)).1).1 = true := by
      cases e : (pp_end tp n (pp_T tp n true 5 (false, 0)).1).1 with
      | true => rfl
      | false => exact absurd (hge.mpr e) b21
    exact hfail hE _ (fun c k1 => by rw [z_st_ne (by omega)]; exact (Classical.em (c = 89)).elim (fun e => by rw [e]; exact h2 hE) (fun e => f1 c (by omega) e)) (z_st_v _ _ _ _)
end CRULES
