theorem z_pred_i {n : Nat} (h : n < 2 ^ 30) : (nI n - nI 1).toInt = (n : Int) - 1 := by
  have e : (nI 1).toInt = 1 := by decide
  rw [z_sub_toInt, z_ti (by omega), e] <;> rw [z_ti (by omega), e] <;> omega
theorem z_pred_l {n : Nat} (h : n < 2 ^ 30) : ((nI n - nI 1).toInt64).toInt = (n : Int) - 1 := by rw [Int32.toInt_toInt64]; exact z_pred_i h
theorem hp255 : ∀ r, r < 8 → ((fun _ : Nat => true) r = true ↔ ((nI 255 >>> (nI r &&& 31)) &&& nI 1).toInt = 1) := by decide
theorem hp0 : ∀ r, r < 8 → ((fun _ : Nat => true) r = true ↔ ((nI 0 >>> (nI r &&& 31)) &&& nI 1).toInt = 0) := by decide
def z_bs (m0 m1 m : Nat) : Nat := if m = 0 then m0 else m1
theorem zMa_r {m0 m1 md m : Nat} (h : m < 2) : (ZS m0 m1 md).2.2 19 m = some (z_bs m0 m1 m) := by rcases (show m = 0 ∨ m = 1 by omega) with rfl | rfl <;> rfl
theorem zMa_b {m0 m1 m : Nat} (h0 : zMb m0) (h1 : zMb m1) : zMb (z_bs m0 m1 m) := by unfold z_bs; split <;> assumption
/-- what a play tells at a tick: 0 the state, 1 the rule, 2 the act -/
def z_pv (n : Nat) (H : Nat → Nat → Nat → Bool) (A : Nat → Nat) (N : Nat → Int32) (x : Nat → Nat) (t w : Nat) : Nat := if w = 0 then z_ps n H N (fun _ => true) x t else if w = 1 then z_ch n H (fun _ => true) (z_ps n H N (fun _ => true) x t) (x t) else z_act n A (z_ch n H (fun _ => true) (z_ps n H N (fun _ => true) x t) (x t))
def f_rule (M : zM) (m0 m1 : Nat) (m r w : Int32) : Int32 := if ¬ (0 ≤ m.toInt ∧ m.toInt ≤ 1) then -1 else if ¬ (0 ≤ r.toInt ∧ r.toInt ≤ (M (z_bs m0 m1 m.toNatClampNeg) 4).toInt - 1) then -1 else if ¬ (0 ≤ w.toInt ∧ w.toInt ≤ 2) then -1 else M (z_bs m0 m1 m.toNatClampNeg + 1 + w.toNatClampNeg) r.toNatClampNeg
def g_rule (M : zM) (m r w : Int32) : Int32 := if ¬ (0 ≤ m.toInt ∧ m.toInt ≤ 1) then -1 else if ¬ (0 ≤ r.toInt ∧ r.toInt ≤ (M 104 m.toNatClampNeg).toInt - 1) then -1 else if ¬ (0 ≤ w.toInt ∧ w.toInt ≤ 2) then -1 else M (105 + w.toNatClampNeg) (8 * m.toNatClampNeg + r.toNatClampNeg)
section PLAY2
variable {l : Launch} {g : zG} {d m0 m1 md : Nat} {M : zM} {T : Nat} {ns : Nat → Nat} {Hs : Nat → Nat → Nat → Nat → Bool} {As : Nat → Nat → Nat} {Ns : Nat → Nat → Int32} {sg lt : Nat → Nat}
theorem C_X10_rule (hn : ∀ m, m < 2 → M 104 m = nI (ns m) ∧ ns m ≤ 8) {m r w : Int32} {Q : Int32 → zS → zM → Prop} (hQ : Q (g_rule M m r w) (ZS m0 m1 md) M) : AMet l g yX10_rule cX10_rule 5 (some .int) (d + 2) 0 0 [.ref 99, .int m, .int r, .int w] (ZS m0 m1 md) M (z_Qi Q) := by
  unfold g_rule at hQ
  refine AMet.of (ini := false) rfl (fun h => by first | rfl | cases h) (Nat.le_of_ble_eq_true rfl) ?_
  show AW l g RX10 cX10_rule 5 (some .int) false _ _ _ 0 [some (.ref 99), some (.int m), some (.int r), some (.int w), none] [] _ _ _
  refine AW.iload_n 1 dX10_rule_0 rfl rfl ?_
  refine AW.cSi1 4 dX10_rule_1 kX10_173 (Nat.le_of_ble_eq_true rfl) rfl (C_X10_isMachine (fun b1 => ?_) (fun b1 => ?_))
  · skip
    obtain ⟨mm, hm, rfl, hm2⟩ := z_nI (v := m) (n := 1) (by omega) (by omega)
    rw [nI_clamp (n := mm) (by omega)] at hQ
    have hnn := hn mm (by omega)
    rw [hnn.1, z_ti (n := ns mm) (by omega)] at hQ
    refine AW.if_eq 7 37 dX10_rule_4 (by decide) rfl (fun h => absurd h (by decide)) (fun _ => ?_)
    refine AW.iload_n 8 dX10_rule_7 rfl rfl ?_
    refine AW.i2l 9 dX10_rule_8 rfl ?_
    refine AW.lconst 10 (lN 0) dX10_rule_9 rfl rfl ?_
    refine AW.aload_n 11 dX10_rule_10 rfl rfl ?_
    refine AW.getR 14 dX10_rule_11 fX10_23 rfl (zI rfl rfl) rfl rfl ?_
    refine AW.iload_n 15 dX10_rule_14 rfl rfl ?_
    refine AW.iald 16 dX10_rule_15 (zA rfl rfl) rfl (by omega) (by decide) rfl ?_
    refine AW.topi (nI (ns mm)) hnn.1 ?_
    refine AW.iconst 17 (nI 1) dX10_rule_16 (by decide) rfl ?_
    refine AW.isub 18 dX10_rule_17 rfl ?_
    refine AW.i2l 19 dX10_rule_18 rfl ?_
    refine AW.cSi3 22 dX10_rule_19 kX10_131 (Nat.le_of_ble_eq_true rfl) rfl (C_in (Int32.toInt_toInt64 _) (z_lN (by decide)) (z_pred_l (by omega)) (fun b19 => ?_) (fun b19 => ?_))
    · skip
      obtain ⟨k, hk, rfl, hk2⟩ := z_nI (v := r) (n := 7) (by omega) (by omega)
      rw [nI_clamp (n := k) (by omega)] at hQ
      refine AW.if_eq 25 37 dX10_rule_22 (by decide) rfl (fun h => absurd h (by decide)) (fun _ => ?_)
      refine AW.iload_n 26 dX10_rule_25 rfl rfl ?_
      refine AW.i2l 27 dX10_rule_26 rfl ?_
      refine AW.lconst 28 (lN 0) dX10_rule_27 rfl rfl ?_
      refine AW.ldc2 31 (lN 2) dX10_rule_28 qX10_180 rfl ?_
      refine AW.cSi3 34 dX10_rule_31 kX10_131 (Nat.le_of_ble_eq_true rfl) rfl (C_in (Int32.toInt_toInt64 _) (z_lN (by decide)) (z_lN (by decide)) (fun b31 => ?_) (fun b31 => ?_))
      · skip
        obtain ⟨c, hc, rfl, hc2⟩ := z_nI (v := w) (n := 2) (by omega) (by omega)
        rw [nI_clamp (n := c) (by omega)] at hQ
        refine AW.if_ne 37 39 dX10_rule_34 (by decide) rfl (fun _ => ?_) (fun h => absurd h (by decide))
        refine AW.bipush 41 (nI 8) dX10_rule_39 (by decide) rfl ?_
        refine AW.iload_n 42 dX10_rule_41 rfl rfl ?_
        refine AW.imulN 43 dX10_rule_42 rfl ?_
        refine AW.iload_n 44 dX10_rule_43 rfl rfl ?_
        refine AW.iaddN 45 dX10_rule_44 rfl ?_
        refine AW.ist4 47 dX10_rule_45 (by decide) rfl rfl ?_
        refine AW.iload_n 48 dX10_rule_47 rfl rfl ?_
        refine AW.ifN_ne 51 61 dX10_rule_48 (by decide) rfl (by omega) (fun b48 => ?_) (fun b48 => ?_)
        · skip
          refine AW.iload_n 62 dX10_rule_61 rfl rfl ?_
          refine AW.iconst 63 (nI 1) dX10_rule_62 (by decide) rfl ?_
          refine AW.icmpN_ne 66 76 dX10_rule_63 (by decide) rfl (by omega) (by omega) (fun b63 => ?_) (fun b63 => ?_)
          · skip
            refine AW.aload_n 77 dX10_rule_76 rfl rfl ?_
            refine AW.getR 80 dX10_rule_77 fX10_32 rfl (zI rfl rfl) rfl rfl ?_
            refine AW.iload 82 dX10_rule_80 rfl rfl ?_
            refine AW.iald 83 dX10_rule_82 (zA rfl rfl) rfl (by omega) (by decide) rfl ?_
            refine AW.iret dX10_rule_83 .int rfl rfl rfl ⟨_, rfl, ?_⟩
            rw [if_neg (by omega), if_neg (by omega), if_neg (by omega)] at hQ
            rcases (show c = 0 ∨ c = 1 ∨ c = 2 by omega) with rfl | rfl | rfl <;> first | exact hQ | (exfalso; omega)
          · skip
            refine AW.aload_n 67 dX10_rule_66 rfl rfl ?_
            refine AW.getR 70 dX10_rule_67 fX10_29 rfl (zI rfl rfl) rfl rfl ?_
            refine AW.iload 72 dX10_rule_70 rfl rfl ?_
            refine AW.iald 73 dX10_rule_72 (zA rfl rfl) rfl (by omega) (by decide) rfl ?_
            refine AW.goto 83 dX10_rule_73 (by decide) ?_
            refine AW.iret dX10_rule_83 .int rfl rfl rfl ⟨_, rfl, ?_⟩
            rw [if_neg (by omega), if_neg (by omega), if_neg (by omega)] at hQ
            rcases (show c = 0 ∨ c = 1 ∨ c = 2 by omega) with rfl | rfl | rfl <;> first | exact hQ | (exfalso; omega)
        · skip
          refine AW.aload_n 52 dX10_rule_51 rfl rfl ?_
          refine AW.getR 55 dX10_rule_52 fX10_26 rfl (zI rfl rfl) rfl rfl ?_
          refine AW.iload 57 dX10_rule_55 rfl rfl ?_
          refine AW.iald 58 dX10_rule_57 (zA rfl rfl) rfl (by omega) (by decide) rfl ?_
          refine AW.goto 83 dX10_rule_58 (by decide) ?_
          refine AW.iret dX10_rule_83 .int rfl rfl rfl ⟨_, rfl, ?_⟩
          rw [if_neg (by omega), if_neg (by omega), if_neg (by omega)] at hQ
          rcases (show c = 0 ∨ c = 1 ∨ c = 2 by omega) with rfl | rfl | rfl <;> first | exact hQ | (exfalso; omega)
      · skip
        refine AW.if_ne 37 39 dX10_rule_34 (by decide) rfl (fun h => absurd h (by decide)) (fun _ => ?_)
        refine AW.iconst 38 (-1) dX10_rule_37 (by decide) rfl ?_
        refine AW.iret dX10_rule_38 .int rfl rfl rfl ⟨_, rfl, ?_⟩
        (repeat' split at hQ) <;> first | exact hQ | (exfalso; omega)
    · skip
      refine AW.if_eq 25 37 dX10_rule_22 (by decide) rfl (fun _ => ?_) (fun h => absurd h (by decide))
      refine AW.iconst 38 (-1) dX10_rule_37 (by decide) rfl ?_
      refine AW.iret dX10_rule_38 .int rfl rfl rfl ⟨_, rfl, ?_⟩
      (repeat' split at hQ) <;> first | exact hQ | (exfalso; omega)
  · skip
    refine AW.if_eq 7 37 dX10_rule_4 (by decide) rfl (fun _ => ?_) (fun h => absurd h (by decide))
    refine AW.iconst 38 (-1) dX10_rule_37 (by decide) rfl ?_
    refine AW.iret dX10_rule_38 .int rfl rfl rfl ⟨_, rfl, ?_⟩
    (repeat' split at hQ) <;> first | exact hQ | (exfalso; omega)
theorem C_X9_rule (hb0 : zMb m0) (hb1 : zMb m1) (hn : ∀ m, m < 2 → M (z_bs m0 m1 m) 4 = nI (ns m) ∧ ns m ≤ 8) {m r w : Int32} {Q : Int32 → zS → zM → Prop} (hQ : Q (f_rule M m0 m1 m r w) (ZS m0 m1 md) M) : AMet l g yX9_rule cX9_rule 5 (some .int) (d + 2) 0 0 [.ref 0, .int m, .int r, .int w] (ZS m0 m1 md) M (z_Qi Q) := by
  unfold f_rule at hQ
  refine AMet.of (ini := false) rfl (fun h => by first | rfl | cases h) (Nat.le_of_ble_eq_true rfl) ?_
  show AW l g RX9 cX9_rule 5 (some .int) false _ _ _ 0 [some (.ref 0), some (.int m), some (.int r), some (.int w), none] [] _ _ _
  refine AW.aload_n 1 dX9_rule_0 rfl rfl ?_
  refine AW.iload_n 2 dX9_rule_1 rfl rfl ?_
  refine AW.cVi1 5 dX9_rule_2 kX9_111 (zI rfl rfl) (Nat.le_of_ble_eq_true rfl) rfl (C_X9_noMachine (fun b2 => ?_) (fun b2 => ?_))
  · skip
    refine AW.if_ne 8 34 dX9_rule_5 (by decide) rfl (fun _ => ?_) (fun h => absurd h (by decide))
    refine AW.iconst 35 (-1) dX9_rule_34 (by decide) rfl ?_
    refine AW.iret dX9_rule_35 .int rfl rfl rfl ⟨_, rfl, ?_⟩
    (repeat' split at hQ) <;> first | exact hQ | (exfalso; omega)
  · skip
    obtain ⟨mm, hm, rfl, hm2⟩ := z_nI (v := m) (n := 1) (by omega) (by omega)
    rw [nI_clamp (n := mm) (by omega)] at hQ
    have hnn := hn mm (by omega)
    rw [hnn.1, z_ti (n := ns mm) (by omega)] at hQ
    have hb := zMa_b (m := mm) hb0 hb1
    refine AW.if_ne 8 34 dX9_rule_5 (by decide) rfl (fun h => absurd h (by decide)) (fun _ => ?_)
    refine AW.iload_n 9 dX9_rule_8 rfl rfl ?_
    refine AW.aload_n 10 dX9_rule_9 rfl rfl ?_
    refine AW.getR 13 dX9_rule_10 fX9_28 rfl (zI rfl rfl) rfl rfl ?_
    refine AW.iload_n 14 dX9_rule_13 rfl rfl ?_
    refine AW.aald 15 dX9_rule_14 (zA rfl rfl) (by decide) rfl (by omega) (by decide) (zMa_r (by omega)) rfl ?_
    refine AW.getI 18 dX9_rule_15 fX9_119 rfl (zMb_is hb) rfl ?_
    refine AW.topi (nI (ns mm)) hnn.1 ?_
    refine AW.iconst 19 (nI 1) dX9_rule_18 (by decide) rfl ?_
    refine AW.isub 20 dX9_rule_19 rfl ?_
    refine AW.cSi2 23 dX9_rule_20 kX9_120 (Nat.le_of_ble_eq_true rfl) rfl (C_beyond rfl (z_pred_i (by omega)) (fun b20 => ?_) (fun b20 => ?_))
    · skip
      refine AW.if_ne 26 34 dX9_rule_23 (by decide) rfl (fun _ => ?_) (fun h => absurd h (by decide))
      refine AW.iconst 35 (-1) dX9_rule_34 (by decide) rfl ?_
      refine AW.iret dX9_rule_35 .int rfl rfl rfl ⟨_, rfl, ?_⟩
      (repeat' split at hQ) <;> first | exact hQ | (exfalso; omega)
    · skip
      obtain ⟨k, hk, rfl, hk2⟩ := z_nI (v := r) (n := 7) (by omega) (by omega)
      rw [nI_clamp (n := k) (by omega)] at hQ
      refine AW.if_ne 26 34 dX9_rule_23 (by decide) rfl (fun h => absurd h (by decide)) (fun _ => ?_)
      refine AW.iload_n 27 dX9_rule_26 rfl rfl ?_
      refine AW.iconst 28 (nI 2) dX9_rule_27 (by decide) rfl ?_
      refine AW.cSi2 31 dX9_rule_28 kX9_120 (Nat.le_of_ble_eq_true rfl) rfl (C_beyond rfl (by decide : (nI 2).toInt = 2) (fun b28 => ?_) (fun b28 => ?_))
      · skip
        refine AW.if_eq 34 36 dX9_rule_31 (by decide) rfl (fun h => absurd h (by decide)) (fun _ => ?_)
        refine AW.iconst 35 (-1) dX9_rule_34 (by decide) rfl ?_
        refine AW.iret dX9_rule_35 .int rfl rfl rfl ⟨_, rfl, ?_⟩
        (repeat' split at hQ) <;> first | exact hQ | (exfalso; omega)
      · skip
        obtain ⟨c, hc, rfl, hc2⟩ := z_nI (v := w) (n := 2) (by omega) (by omega)
        rw [nI_clamp (n := c) (by omega)] at hQ
        refine AW.if_eq 34 36 dX9_rule_31 (by decide) rfl (fun _ => ?_) (fun h => absurd h (by decide))
        refine AW.aload_n 37 dX9_rule_36 rfl rfl ?_
        refine AW.getR 40 dX9_rule_37 fX9_28 rfl (zI rfl rfl) rfl rfl ?_
        refine AW.iload_n 41 dX9_rule_40 rfl rfl ?_
        refine AW.aald 42 dX9_rule_41 (zA rfl rfl) (by decide) rfl (by omega) (by decide) (zMa_r (by omega)) rfl ?_
        refine AW.ast4 44 dX9_rule_42 (by decide) rfl rfl ?_
        refine AW.iload_n 45 dX9_rule_44 rfl rfl ?_
        refine AW.ifN_ne 48 58 dX9_rule_45 (by decide) rfl (by omega) (fun b45 => ?_) (fun b45 => ?_)
        · skip
          refine AW.iload_n 59 dX9_rule_58 rfl rfl ?_
          refine AW.iconst 60 (nI 1) dX9_rule_59 (by decide) rfl ?_
          refine AW.icmpN_ne 63 73 dX9_rule_60 (by decide) rfl (by omega) (by omega) (fun b60 => ?_) (fun b60 => ?_)
          · skip
            refine AW.aload 75 dX9_rule_73 rfl rfl ?_
            refine AW.getR 78 dX9_rule_75 fX9_130 rfl (zMb_is hb) (zMb_r2 hb) rfl ?_
            refine AW.iload_n 79 dX9_rule_78 rfl rfl ?_
            refine AW.iald 80 dX9_rule_79 (zMb_a3 hb) rfl (by omega) (by decide) rfl ?_
            refine AW.iret dX9_rule_80 .int rfl rfl rfl ⟨_, rfl, ?_⟩
            rw [if_neg (by omega), if_neg (by omega), if_neg (by omega)] at hQ
            rcases (show c = 0 ∨ c = 1 ∨ c = 2 by omega) with rfl | rfl | rfl <;> first | exact hQ | (exfalso; omega)
          · skip
            refine AW.aload 65 dX9_rule_63 rfl rfl ?_
            refine AW.getR 68 dX9_rule_65 fX9_127 rfl (zMb_is hb) (zMb_r1 hb) rfl ?_
            refine AW.iload_n 69 dX9_rule_68 rfl rfl ?_
            refine AW.iald 70 dX9_rule_69 (zMb_a2 hb) rfl (by omega) (by decide) rfl ?_
            refine AW.goto 80 dX9_rule_70 (by decide) ?_
            refine AW.iret dX9_rule_80 .int rfl rfl rfl ⟨_, rfl, ?_⟩
            rw [if_neg (by omega), if_neg (by omega), if_neg (by omega)] at hQ
            rcases (show c = 0 ∨ c = 1 ∨ c = 2 by omega) with rfl | rfl | rfl <;> first | exact hQ | (exfalso; omega)
        · skip
          refine AW.aload 50 dX9_rule_48 rfl rfl ?_
          refine AW.getR 53 dX9_rule_50 fX9_124 rfl (zMb_is hb) (zMb_r0 hb) rfl ?_
          refine AW.iload_n 54 dX9_rule_53 rfl rfl ?_
          refine AW.iald 55 dX9_rule_54 (zMb_a1 hb) rfl (by omega) (by decide) rfl ?_
          refine AW.goto 80 dX9_rule_55 (by decide) ?_
          refine AW.iret dX9_rule_80 .int rfl rfl rfl ⟨_, rfl, ?_⟩
          rw [if_neg (by omega), if_neg (by omega), if_neg (by omega)] at hQ
          rcases (show c = 0 ∨ c = 1 ∨ c = 2 by omega) with rfl | rfl | rfl <;> first | exact hQ | (exfalso; omega)
theorem C_X10_chooses (hG : ∀ m, m < 2 → g_mach M m (ns m) (Hs m) (As m) (Ns m)) {m s i t : Int32} {Q : Int32 → zS → zM → Prop} (hbad : ¬ (0 ≤ m.toInt ∧ m.toInt ≤ 1 ∧ 0 ≤ s.toInt ∧ s.toInt ≤ 3 ∧ 0 ≤ i.toInt ∧ i.toInt ≤ 15 ∧ 0 ≤ t.toInt ∧ t.toInt ≤ 1) → Q (-1) (ZS m0 m1 md) M) (hok : ∀ a b c e : Nat, m = nI a → s = nI b → i = nI c → t = nI e → a < 2 → b < 4 → c < 16 → e < 2 → Q (nI (z_ch (ns a) (Hs a) (fun _ => true) b (2 * c + e))) (ZS m0 m1 md) M) : AMet l g yX10_chooses cX10_chooses 5 (some .int) (d + 2) 0 0 [.ref 99, .int m, .int s, .int i, .int t] (ZS m0 m1 md) M (z_Qi Q) := by
  refine AMet.of (ini := false) rfl (fun h => by first | rfl | cases h) (Nat.le_of_ble_eq_true rfl) ?_
  show AW l g RX10 cX10_chooses 5 (some .int) false _ _ _ 0 [some (.ref 99), some (.int m), some (.int s), some (.int i), some (.int t)] [] _ _ _
  refine AW.iload_n 1 dX10_chooses_0 rfl rfl ?_
  refine AW.cSi1 4 dX10_chooses_1 kX10_173 (Nat.le_of_ble_eq_true rfl) rfl (C_X10_isMachine (fun b1 => ?_) (fun b1 => ?_))
  · skip
    refine AW.if_eq 7 42 dX10_chooses_4 (by decide) rfl (fun h => absurd h (by decide)) (fun _ => ?_)
    refine AW.iload_n 8 dX10_chooses_7 rfl rfl ?_
    refine AW.i2l 9 dX10_chooses_8 rfl ?_
    refine AW.lconst 10 (lN 0) dX10_chooses_9 rfl rfl ?_
    refine AW.ldc2 13 (lN 3) dX10_chooses_10 qX10_207 rfl ?_
    refine AW.cSi3 16 dX10_chooses_13 kX10_131 (Nat.le_of_ble_eq_true rfl) rfl (C_in (Int32.toInt_toInt64 _) (z_lN (by decide)) (z_lN (by decide)) (fun b13 => ?_) (fun b13 => ?_))
    · skip
      refine AW.if_eq 19 42 dX10_chooses_16 (by decide) rfl (fun h => absurd h (by decide)) (fun _ => ?_)
      refine AW.iload_n 20 dX10_chooses_19 rfl rfl ?_
      refine AW.i2l 21 dX10_chooses_20 rfl ?_
      refine AW.lconst 22 (lN 0) dX10_chooses_21 rfl rfl ?_
      refine AW.ldc2 25 (lN 15) dX10_chooses_22 qX10_187 rfl ?_
      refine AW.cSi3 28 dX10_chooses_25 kX10_131 (Nat.le_of_ble_eq_true rfl) rfl (C_in (Int32.toInt_toInt64 _) (z_lN (by decide)) (z_lN (by decide)) (fun b25 => ?_) (fun b25 => ?_))
      · skip
        refine AW.if_eq 31 42 dX10_chooses_28 (by decide) rfl (fun h => absurd h (by decide)) (fun _ => ?_)
        refine AW.iload 33 dX10_chooses_31 rfl rfl ?_
        refine AW.i2l 34 dX10_chooses_33 rfl ?_
        refine AW.lconst 35 (lN 0) dX10_chooses_34 rfl rfl ?_
        refine AW.lconst 36 (lN 1) dX10_chooses_35 rfl rfl ?_
        refine AW.cSi3 39 dX10_chooses_36 kX10_131 (Nat.le_of_ble_eq_true rfl) rfl (C_in (Int32.toInt_toInt64 _) (z_lN (by decide)) (z_lN (by decide)) (fun b36 => ?_) (fun b36 => ?_))
        · skip
          refine AW.if_ne 42 44 dX10_chooses_39 (by decide) rfl (fun _ => ?_) (fun h => absurd h (by decide))
          obtain ⟨a, ha, rfl, ha2⟩ := z_nI (v := m) (n := 1) (by omega) (by omega)
          obtain ⟨b, hb, rfl, hb2⟩ := z_nI (v := s) (n := 3) (by omega) (by omega)
          obtain ⟨c, hc, rfl, hc2⟩ := z_nI (v := i) (n := 15) (by omega) (by omega)
          obtain ⟨e, he, rfl, he2⟩ := z_nI (v := t) (n := 1) (by omega) (by omega)
          refine AW.aload_n 45 dX10_chooses_44 rfl rfl ?_
          refine AW.iload_n 46 dX10_chooses_45 rfl rfl ?_
          refine AW.bipush 48 (nI 32) dX10_chooses_46 (by decide) rfl ?_
          refine AW.iload_n 49 dX10_chooses_48 rfl rfl ?_
          refine AW.imulN 50 dX10_chooses_49 rfl ?_
          refine AW.iconst 51 (nI 2) dX10_chooses_50 (by decide) rfl ?_
          refine AW.iload_n 52 dX10_chooses_51 rfl rfl ?_
          refine AW.imulN 53 dX10_chooses_52 rfl ?_
          refine AW.iaddN 54 dX10_chooses_53 rfl ?_
          refine AW.iload 56 dX10_chooses_54 rfl rfl ?_
          refine AW.iaddN 57 dX10_chooses_56 rfl ?_
          refine AW.topi (nI (32 * b + (2 * c + e))) (by rw [Nat.add_assoc]) ?_
          refine AW.iconst 58 (nI 0) dX10_chooses_57 (by decide) rfl ?_
          refine AW.cVi3 61 dX10_chooses_58 kX10_196 (zI rfl rfl) (Nat.le_of_ble_eq_true rfl) rfl (C_X10_chosen (by omega) (hG a (by omega)) hp0 (by omega) (by omega) ?_)
          refine AW.iret dX10_chooses_61 .int rfl rfl rfl ⟨_, rfl, ?_⟩
          exact hok a b c e rfl rfl rfl rfl (by omega) (by omega) (by omega) (by omega)
        · skip
          refine AW.if_ne 42 44 dX10_chooses_39 (by decide) rfl (fun h => absurd h (by decide)) (fun _ => ?_)
          refine AW.iconst 43 (-1) dX10_chooses_42 (by decide) rfl ?_
          refine AW.iret dX10_chooses_43 .int rfl rfl rfl ⟨_, rfl, ?_⟩
          exact hbad (by omega)
      · skip
        refine AW.if_eq 31 42 dX10_chooses_28 (by decide) rfl (fun _ => ?_) (fun h => absurd h (by decide))
        refine AW.iconst 43 (-1) dX10_chooses_42 (by decide) rfl ?_
        refine AW.iret dX10_chooses_43 .int rfl rfl rfl ⟨_, rfl, ?_⟩
        exact hbad (by omega)
    · skip
      refine AW.if_eq 19 42 dX10_chooses_16 (by decide) rfl (fun _ => ?_) (fun h => absurd h (by decide))
      refine AW.iconst 43 (-1) dX10_chooses_42 (by decide) rfl ?_
      refine AW.iret dX10_chooses_43 .int rfl rfl rfl ⟨_, rfl, ?_⟩
      exact hbad (by omega)
  · skip
    refine AW.if_eq 7 42 dX10_chooses_4 (by decide) rfl (fun _ => ?_) (fun h => absurd h (by decide))
    refine AW.iconst 43 (-1) dX10_chooses_42 (by decide) rfl ?_
    refine AW.iret dX10_chooses_43 .int rfl rfl rfl ⟨_, rfl, ?_⟩
    exact hbad (by omega)
theorem C_X9_chooses (hb0 : zMb m0) (hb1 : zMb m1) (hF : ∀ m, m < 2 → f_mach M (z_bs m0 m1 m) (ns m) (Hs m) (As m) (Ns m)) {m s i t : Int32} {Q : Int32 → zS → zM → Prop} (hbad : ¬ (0 ≤ m.toInt ∧ m.toInt ≤ 1 ∧ 0 ≤ s.toInt ∧ s.toInt ≤ 3 ∧ 0 ≤ i.toInt ∧ i.toInt ≤ 15 ∧ 0 ≤ t.toInt ∧ t.toInt ≤ 1) → Q (-1) (ZS m0 m1 md) M) (hok : ∀ a b c e : Nat, m = nI a → s = nI b → i = nI c → t = nI e → a < 2 → b < 4 → c < 16 → e < 2 → Q (nI (z_ch (ns a) (Hs a) (fun _ => true) b (2 * c + e))) (ZS m0 m1 md) M) : AMet l g yX9_chooses cX9_chooses 5 (some .int) (d + 2) 0 0 [.ref 0, .int m, .int s, .int i, .int t] (ZS m0 m1 md) M (z_Qi Q) := by
  refine AMet.of (ini := false) rfl (fun h => by first | rfl | cases h) (Nat.le_of_ble_eq_true rfl) ?_
  show AW l g RX9 cX9_chooses 5 (some .int) false _ _ _ 0 [some (.ref 0), some (.int m), some (.int s), some (.int i), some (.int t)] [] _ _ _
  refine AW.aload_n 1 dX9_chooses_0 rfl rfl ?_
  refine AW.iload_n 2 dX9_chooses_1 rfl rfl ?_
  refine AW.cVi1 5 dX9_chooses_2 kX9_111 (zI rfl rfl) (Nat.le_of_ble_eq_true rfl) rfl (C_X9_noMachine (fun b2 => ?_) (fun b2 => ?_))
  · skip
    refine AW.if_ne 8 34 dX9_chooses_5 (by decide) rfl (fun _ => ?_) (fun h => absurd h (by decide))
    refine AW.iconst 35 (-1) dX9_chooses_34 (by decide) rfl ?_
    refine AW.iret dX9_chooses_35 .int rfl rfl rfl ⟨_, rfl, ?_⟩
    exact hbad (by omega)
  · skip
    refine AW.if_ne 8 34 dX9_chooses_5 (by decide) rfl (fun h => absurd h (by decide)) (fun _ => ?_)
    refine AW.iload_n 9 dX9_chooses_8 rfl rfl ?_
    refine AW.iconst 10 (nI 3) dX9_chooses_9 (by decide) rfl ?_
    refine AW.cSi2 13 dX9_chooses_10 kX9_120 (Nat.le_of_ble_eq_true rfl) rfl (C_beyond rfl (by decide : (nI 3).toInt = 3) (fun b10 => ?_) (fun b10 => ?_))
    · skip
      refine AW.if_ne 16 34 dX9_chooses_13 (by decide) rfl (fun _ => ?_) (fun h => absurd h (by decide))
      refine AW.iconst 35 (-1) dX9_chooses_34 (by decide) rfl ?_
      refine AW.iret dX9_chooses_35 .int rfl rfl rfl ⟨_, rfl, ?_⟩
      exact hbad (by omega)
    · skip
      refine AW.if_ne 16 34 dX9_chooses_13 (by decide) rfl (fun h => absurd h (by decide)) (fun _ => ?_)
      refine AW.iload_n 17 dX9_chooses_16 rfl rfl ?_
      refine AW.bipush 19 (nI 15) dX9_chooses_17 (by decide) rfl ?_
      refine AW.cSi2 22 dX9_chooses_19 kX9_120 (Nat.le_of_ble_eq_true rfl) rfl (C_beyond rfl (by decide : (nI 15).toInt = 15) (fun b19 => ?_) (fun b19 => ?_))
      · skip
        refine AW.if_ne 25 34 dX9_chooses_22 (by decide) rfl (fun _ => ?_) (fun h => absurd h (by decide))
        refine AW.iconst 35 (-1) dX9_chooses_34 (by decide) rfl ?_
        refine AW.iret dX9_chooses_35 .int rfl rfl rfl ⟨_, rfl, ?_⟩
        exact hbad (by omega)
      · skip
        refine AW.if_ne 25 34 dX9_chooses_22 (by decide) rfl (fun h => absurd h (by decide)) (fun _ => ?_)
        refine AW.iload 27 dX9_chooses_25 rfl rfl ?_
        refine AW.iconst 28 (nI 1) dX9_chooses_27 (by decide) rfl ?_
        refine AW.cSi2 31 dX9_chooses_28 kX9_120 (Nat.le_of_ble_eq_true rfl) rfl (C_beyond rfl (by decide : (nI 1).toInt = 1) (fun b28 => ?_) (fun b28 => ?_))
        · skip
          refine AW.if_eq 34 36 dX9_chooses_31 (by decide) rfl (fun h => absurd h (by decide)) (fun _ => ?_)
          refine AW.iconst 35 (-1) dX9_chooses_34 (by decide) rfl ?_
          refine AW.iret dX9_chooses_35 .int rfl rfl rfl ⟨_, rfl, ?_⟩
          exact hbad (by omega)
        · skip
          refine AW.if_eq 34 36 dX9_chooses_31 (by decide) rfl (fun _ => ?_) (fun h => absurd h (by decide))
          obtain ⟨a, ha, rfl, ha2⟩ := z_nI (v := m) (n := 1) (by omega) (by omega)
          obtain ⟨b, hb, rfl, hb2⟩ := z_nI (v := s) (n := 3) (by omega) (by omega)
          obtain ⟨c, hc, rfl, hc2⟩ := z_nI (v := i) (n := 15) (by omega) (by omega)
          obtain ⟨e, he, rfl, he2⟩ := z_nI (v := t) (n := 1) (by omega) (by omega)
          refine AW.aload_n 37 dX9_chooses_36 rfl rfl ?_
          refine AW.getR 40 dX9_chooses_37 fX9_28 rfl (zI rfl rfl) rfl rfl ?_
          refine AW.iload_n 41 dX9_chooses_40 rfl rfl ?_
          refine AW.aald 42 dX9_chooses_41 (zA rfl rfl) (by decide) rfl (by omega) (by decide) (zMa_r (by omega)) rfl ?_
          refine AW.sipush 45 (nI 255) dX9_chooses_42 (by decide) rfl ?_
          refine AW.iload_n 46 dX9_chooses_45 rfl rfl ?_
          refine AW.iconst 47 (nI 2) dX9_chooses_46 (by decide) rfl ?_
          refine AW.iload_n 48 dX9_chooses_47 rfl rfl ?_
          refine AW.imulN 49 dX9_chooses_48 rfl ?_
          refine AW.iload 51 dX9_chooses_49 rfl rfl ?_
          refine AW.iaddN 52 dX9_chooses_51 rfl ?_
          refine AW.cVi3 55 dX9_chooses_52 kX9_170 (zMb_is (zMa_b hb0 hb1)) (Nat.le_of_ble_eq_true rfl) rfl (C_X2_choose (zMa_b hb0 hb1) (hF a (by omega)) hp255 (by omega) (by omega) ?_)
          refine AW.iret dX9_chooses_55 .int rfl rfl rfl ⟨_, rfl, ?_⟩
          exact hok a b c e rfl rfl rfl rfl (by omega) (by omega) (by omega) (by omega)
theorem C_X9_playAsIs (hT : M 59 1 = nI T) (hT2 : T ≤ 12) {b n : Nat} {H : Nat → Nat → Nat → Bool} {A : Nat → Nat} {N : Nat → Int32} (hb : zMb b) (hF : f_mach M b n H A N) (hW : ∀ t, t < 12 → M 61 t = nI (sg t) ∧ M 62 t = nI (lt t) ∧ sg t < 16 ∧ lt t < 2) {Q : zS → zM → Prop} (hQ : ∀ M' : zM, (∀ c, c ≠ 65 → c ≠ 66 → c ≠ 67 → c ≠ 68 → c ≠ 69 → M' c = M c) → (∀ t, t < 12 → M' 65 t = nI (sg t) ∧ M' 66 t = nI (lt t)) → z_pl M' 67 68 69 T n H A N (fun _ => true) (fun t => 2 * sg t + lt t) → Q (ZS m0 m1 md) M') : AMet l g yX9_playAsIs cX9_playAsIs 2 none (d + 2) 0 0 [.ref 0, .ref b] (ZS m0 m1 md) M (z_Qv Q) := by
  have hbl := zMb_lt hb
  refine AMet.of (ini := false) rfl (fun h => by first | rfl | cases h) (Nat.le_of_ble_eq_true rfl) ?_
  show AW l g RX9 cX9_playAsIs 2 none false _ _ _ 0 [some (.ref 0), some (.ref b)] [] _ _ _
  refine AW.aload_n 1 dX9_playAsIs_0 rfl rfl ?_
  refine AW.getR 4 dX9_playAsIs_1 fX9_46 rfl (zI rfl rfl) rfl rfl ?_
  refine AW.aload_n 5 dX9_playAsIs_4 rfl rfl ?_
  refine AW.getR 8 dX9_playAsIs_5 fX9_39 rfl (zI rfl rfl) rfl rfl ?_
  refine AW.cVv1 11 dX9_playAsIs_8 kX9_229 (zI rfl rfl) (Nat.le_of_ble_eq_true rfl) rfl (C_X3_look (fun M1 h1 h2 => ?_))
  have q0 : M1 59 1 = nI T := by rw [h1 59 (by decide) (by decide)]; exact hT
  refine AW.aload_n 12 dX9_playAsIs_11 rfl rfl ?_
  refine AW.getR 15 dX9_playAsIs_12 fX9_46 rfl (zI rfl rfl) rfl rfl ?_
  refine AW.aload_n 16 dX9_playAsIs_15 rfl rfl ?_
  refine AW.sipush 19 (nI 255) dX9_playAsIs_16 (by decide) rfl ?_
  refine AW.aload_n 20 dX9_playAsIs_19 rfl rfl ?_
  refine AW.getR 23 dX9_playAsIs_20 fX9_39 rfl (zI rfl rfl) rfl rfl ?_
  refine AW.getI 26 dX9_playAsIs_23 fX9_133 rfl (zI rfl rfl) rfl ?_
  refine AW.topi (nI T) q0 ?_
  refine AW.cVv3 29 dX9_playAsIs_26 kX9_236 (zI rfl rfl) (Nat.le_of_ble_eq_true rfl) rfl (C_X3_run hT2 hb (f_mach_frame hb (fun c c1 c2 => h1 c (by omega) (by omega)) hF) hp255 (sg := sg) (lt := lt) (fun t ht => ⟨by rw [(h2 t (by omega)).1]; exact (hW t (by omega)).1, by rw [(h2 t (by omega)).2]; exact (hW t (by omega)).2.1, (hW t (by omega)).2.2⟩) (fun M2 k1 k2 => ?_))
  refine AW.vret dX9_playAsIs_29 rfl rfl ⟨rfl, ?_⟩
  exact hQ M2 (fun c c1 c2 c3 c4 c5 => by rw [k1 c c3 c4 c5, h1 c c1 c2]) (fun t ht => ⟨by rw [k1 65 (by decide) (by decide) (by decide), (h2 t ht).1]; exact (hW t ht).1, by rw [k1 66 (by decide) (by decide) (by decide), (h2 t ht).2]; exact (hW t ht).2.1⟩) k2
theorem C_X9_play (hT : M 59 1 = nI T) (hT1 : 1 ≤ T) (hT2 : T ≤ 12) (hb0 : zMb m0) (hb1 : zMb m1) (hF : ∀ m, m < 2 → f_mach M (z_bs m0 m1 m) (ns m) (Hs m) (As m) (Ns m)) (hW : ∀ t, t < 12 → M 61 t = nI (sg t) ∧ M 62 t = nI (lt t) ∧ sg t < 16 ∧ lt t < 2) {m t w : Int32} {Q : Int32 → zS → zM → Prop} (hbad : ¬ (0 ≤ m.toInt ∧ m.toInt ≤ 1 ∧ 0 ≤ t.toInt ∧ t.toInt < T ∧ 0 ≤ w.toInt ∧ w.toInt ≤ 2) → Q (-1) (ZS m0 m1 md) M) (hok : ∀ a b c : Nat, m = nI a → t = nI b → w = nI c → a < 2 → b < T → c < 3 → ∀ M' : zM, (∀ c, c ≠ 65 → c ≠ 66 → c ≠ 67 → c ≠ 68 → c ≠ 69 → M' c = M c) → Q (nI (z_pv (ns a) (Hs a) (As a) (Ns a) (fun t => 2 * sg t + lt t) b c)) (ZS m0 m1 md) M') : AMet l g yX9_play cX9_play 4 (some .int) (d + 3) 0 0 [.ref 0, .int m, .int t, .int w] (ZS m0 m1 md) M (z_Qi Q) := by
  refine AMet.of (ini := false) rfl (fun h => by first | rfl | cases h) (Nat.le_of_ble_eq_true rfl) ?_
  show AW l g RX9 cX9_play 4 (some .int) false _ _ _ 0 [some (.ref 0), some (.int m), some (.int t), some (.int w)] [] _ _ _
  refine AW.aload_n 1 dX9_play_0 rfl rfl ?_
  refine AW.iload_n 2 dX9_play_1 rfl rfl ?_
  refine AW.cVi1 5 dX9_play_2 kX9_111 (zI rfl rfl) (Nat.le_of_ble_eq_true rfl) rfl (C_X9_noMachine (fun b2 => ?_) (fun b2 => ?_))
  · skip
    refine AW.if_ne 8 24 dX9_play_5 (by decide) rfl (fun _ => ?_) (fun h => absurd h (by decide))
    refine AW.iconst 25 (-1) dX9_play_24 (by decide) rfl ?_
    refine AW.iret dX9_play_25 .int rfl rfl rfl ⟨_, rfl, ?_⟩
    exact hbad (by omega)
  · skip
    refine AW.if_ne 8 24 dX9_play_5 (by decide) rfl (fun h => absurd h (by decide)) (fun _ => ?_)
    refine AW.aload_n 9 dX9_play_8 rfl rfl ?_
    refine AW.iload_n 10 dX9_play_9 rfl rfl ?_
    refine AW.cVi1 13 dX9_play_10 kX9_137 (zI rfl rfl) (Nat.le_of_ble_eq_true rfl) rfl (C_X9_noTick hT hT1 hT2 (fun b10 => ?_) (fun b10 => ?_))
    · skip
      refine AW.if_ne 16 24 dX9_play_13 (by decide) rfl (fun _ => ?_) (fun h => absurd h (by decide))
      refine AW.iconst 25 (-1) dX9_play_24 (by decide) rfl ?_
      refine AW.iret dX9_play_25 .int rfl rfl rfl ⟨_, rfl, ?_⟩
      exact hbad (by omega)
    · skip
      refine AW.if_ne 16 24 dX9_play_13 (by decide) rfl (fun h => absurd h (by decide)) (fun _ => ?_)
      refine AW.iload_n 17 dX9_play_16 rfl rfl ?_
      refine AW.iconst 18 (nI 2) dX9_play_17 (by decide) rfl ?_
      refine AW.cSi2 21 dX9_play_18 kX9_120 (Nat.le_of_ble_eq_true rfl) rfl (C_beyond rfl (by decide : (nI 2).toInt = 2) (fun b18 => ?_) (fun b18 => ?_))
      · skip
        refine AW.if_eq 24 26 dX9_play_21 (by decide) rfl (fun h => absurd h (by decide)) (fun _ => ?_)
        refine AW.iconst 25 (-1) dX9_play_24 (by decide) rfl ?_
        refine AW.iret dX9_play_25 .int rfl rfl rfl ⟨_, rfl, ?_⟩
        exact hbad (by omega)
      · skip
        refine AW.if_eq 24 26 dX9_play_21 (by decide) rfl (fun _ => ?_) (fun h => absurd h (by decide))
        obtain ⟨a, ha, rfl, ha2⟩ := z_nI (v := m) (n := 1) (by omega) (by omega)
        obtain ⟨b, hb, rfl, hb2⟩ := z_nI (v := t) (n := 11) (by omega) (by omega)
        obtain ⟨c, hc, rfl, hc2⟩ := z_nI (v := w) (n := 2) (by omega) (by omega)
        refine AW.aload_n 27 dX9_play_26 rfl rfl ?_
        refine AW.aload_n 28 dX9_play_27 rfl rfl ?_
        refine AW.getR 31 dX9_play_28 fX9_28 rfl (zI rfl rfl) rfl rfl ?_
        refine AW.iload_n 32 dX9_play_31 rfl rfl ?_
        refine AW.aald 33 dX9_play_32 (zA rfl rfl) (by decide) rfl (by omega) (by decide) (zMa_r (by omega)) rfl ?_
        refine AW.cVv1 36 dX9_play_33 kX9_159 (zI rfl rfl) (Nat.le_of_ble_eq_true rfl) rfl (C_X9_playAsIs hT hT2 (zMa_b hb0 hb1) (hF a (by omega)) hW (fun M1 k1 k2 k3 => ?_))
        have e := hok a b c rfl rfl rfl (by omega) (by omega) (by omega) M1 k1
        unfold z_pv at e
        obtain ⟨p1, p2, p3⟩ := k3 b (by omega)
        refine AW.iload_n 37 dX9_play_36 rfl rfl ?_
        refine AW.ifN_ne 40 52 dX9_play_37 (by decide) rfl (by omega) (fun b37 => ?_) (fun b37 => ?_)
        · skip
          refine AW.iload_n 53 dX9_play_52 rfl rfl ?_
          refine AW.iconst 54 (nI 1) dX9_play_53 (by decide) rfl ?_
          refine AW.icmpN_ne 57 69 dX9_play_54 (by decide) rfl (by omega) (by omega) (fun b54 => ?_) (fun b54 => ?_)
          · skip
            refine AW.aload_n 70 dX9_play_69 rfl rfl ?_
            refine AW.getR 73 dX9_play_70 fX9_46 rfl (zI rfl rfl) rfl rfl ?_
            refine AW.getR 76 dX9_play_73 fX9_169 rfl (zI rfl rfl) rfl rfl ?_
            refine AW.iload_n 77 dX9_play_76 rfl rfl ?_
            refine AW.iald 78 dX9_play_77 (zA rfl rfl) rfl (by omega) (by decide) rfl ?_
            refine AW.iret dX9_play_78 .int rfl rfl rfl ⟨_, rfl, ?_⟩
            (repeat' split at e) <;> first | (rw [← p1] at e; exact e) | (rw [← p2] at e; exact e) | (rw [← p3] at e; exact e) | (exfalso; omega)
          · skip
            refine AW.aload_n 58 dX9_play_57 rfl rfl ?_
            refine AW.getR 61 dX9_play_58 fX9_46 rfl (zI rfl rfl) rfl rfl ?_
            refine AW.getR 64 dX9_play_61 fX9_166 rfl (zI rfl rfl) rfl rfl ?_
            refine AW.iload_n 65 dX9_play_64 rfl rfl ?_
            refine AW.iald 66 dX9_play_65 (zA rfl rfl) rfl (by omega) (by decide) rfl ?_
            refine AW.goto 78 dX9_play_66 (by decide) ?_
            refine AW.iret dX9_play_78 .int rfl rfl rfl ⟨_, rfl, ?_⟩
            (repeat' split at e) <;> first | (rw [← p1] at e; exact e) | (rw [← p2] at e; exact e) | (rw [← p3] at e; exact e) | (exfalso; omega)
        · skip
          refine AW.aload_n 41 dX9_play_40 rfl rfl ?_
          refine AW.getR 44 dX9_play_41 fX9_46 rfl (zI rfl rfl) rfl rfl ?_
          refine AW.getR 47 dX9_play_44 fX9_163 rfl (zI rfl rfl) rfl rfl ?_
          refine AW.iload_n 48 dX9_play_47 rfl rfl ?_
          refine AW.iald 49 dX9_play_48 (zA rfl rfl) rfl (by omega) (by decide) rfl ?_
          refine AW.goto 78 dX9_play_49 (by decide) ?_
          refine AW.iret dX9_play_78 .int rfl rfl rfl ⟨_, rfl, ?_⟩
          (repeat' split at e) <;> first | (rw [← p1] at e; exact e) | (rw [← p2] at e; exact e) | (rw [← p3] at e; exact e) | (exfalso; omega)
theorem C_X10_play (hT : M 99 16 = nI T) (hT1 : 1 ≤ T) (hT2 : T ≤ 12) (hG : ∀ m, m < 2 → g_mach M m (ns m) (Hs m) (As m) (Ns m)) (hW : ∀ t, t < 12 → M 113 t = nI (sg t) ∧ M 114 t = nI (lt t) ∧ sg t < 16 ∧ lt t < 2) {m t w : Int32} {Q : Int32 → zS → zM → Prop} (hbad : ¬ (0 ≤ m.toInt ∧ m.toInt ≤ 1 ∧ 0 ≤ t.toInt ∧ t.toInt < T ∧ 0 ≤ w.toInt ∧ w.toInt ≤ 2) → Q (-1) (ZS m0 m1 md) M) (hok : ∀ a b c : Nat, m = nI a → t = nI b → w = nI c → a < 2 → b < T → c < 3 → ∀ M' : zM, (∀ c, c ≠ 116 → c ≠ 117 → c ≠ 118 → c ≠ 119 → c ≠ 120 → M' c = M c) → Q (nI (z_pv (ns a) (Hs a) (As a) (Ns a) (fun t => 2 * sg t + lt t) b c)) (ZS m0 m1 md) M') : AMet l g yX10_play cX10_play 4 (some .int) (d + 2) 0 0 [.ref 99, .int m, .int t, .int w] (ZS m0 m1 md) M (z_Qi Q) := by
  refine AMet.of (ini := false) rfl (fun h => by first | rfl | cases h) (Nat.le_of_ble_eq_true rfl) ?_
  show AW l g RX10 cX10_play 4 (some .int) false _ _ _ 0 [some (.ref 99), some (.int m), some (.int t), some (.int w)] [] _ _ _
  refine AW.iload_n 1 dX10_play_0 rfl rfl ?_
  refine AW.cSi1 4 dX10_play_1 kX10_173 (Nat.le_of_ble_eq_true rfl) rfl (C_X10_isMachine (fun b1 => ?_) (fun b1 => ?_))
  · skip
    refine AW.if_eq 7 27 dX10_play_4 (by decide) rfl (fun h => absurd h (by decide)) (fun _ => ?_)
    refine AW.aload_n 8 dX10_play_7 rfl rfl ?_
    refine AW.iload_n 9 dX10_play_8 rfl rfl ?_
    refine AW.cVi1 12 dX10_play_9 kX10_184 (zI rfl rfl) (Nat.le_of_ble_eq_true rfl) rfl (C_X10_isTick hT hT1 hT2 (fun b9 => ?_) (fun b9 => ?_))
    · skip
      refine AW.if_eq 15 27 dX10_play_12 (by decide) rfl (fun h => absurd h (by decide)) (fun _ => ?_)
      refine AW.iload_n 16 dX10_play_15 rfl rfl ?_
      refine AW.i2l 17 dX10_play_16 rfl ?_
      refine AW.lconst 18 (lN 0) dX10_play_17 rfl rfl ?_
      refine AW.ldc2 21 (lN 2) dX10_play_18 qX10_180 rfl ?_
      refine AW.cSi3 24 dX10_play_21 kX10_131 (Nat.le_of_ble_eq_true rfl) rfl (C_in (Int32.toInt_toInt64 _) (z_lN (by decide)) (z_lN (by decide)) (fun b21 => ?_) (fun b21 => ?_))
      · skip
        refine AW.if_ne 27 29 dX10_play_24 (by decide) rfl (fun _ => ?_) (fun h => absurd h (by decide))
        obtain ⟨a, ha, rfl, ha2⟩ := z_nI (v := m) (n := 1) (by omega) (by omega)
        obtain ⟨b, hb, rfl, hb2⟩ := z_nI (v := t) (n := 11) (by omega) (by omega)
        obtain ⟨c, hc, rfl, hc2⟩ := z_nI (v := w) (n := 2) (by omega) (by omega)
        refine AW.aload_n 30 dX10_play_29 rfl rfl ?_
        refine AW.cVv0 33 dX10_play_30 kX10_200 (zI rfl rfl) (Nat.le_of_ble_eq_true rfl) rfl (C_X10_lays (fun M1 h1 h2 => ?_))
        have q0 : M1 99 16 = nI T := by rw [h1 99 (by decide) (by decide)]; exact hT
        have hG1 : g_mach M1 a (ns a) (Hs a) (As a) (Ns a) := by
          unfold g_mach; rw [h1 104 (by decide) (by decide), h1 106 (by decide) (by decide), h1 107 (by decide) (by decide), h1 108 (by decide) (by decide)]; exact hG a (by omega)
        refine AW.aload_n 34 dX10_play_33 rfl rfl ?_
        refine AW.iload_n 35 dX10_play_34 rfl rfl ?_
        refine AW.iconst 36 (nI 0) dX10_play_35 (by decide) rfl ?_
        refine AW.cVv2 39 dX10_play_36 kX10_203 (zI rfl rfl) (Nat.le_of_ble_eq_true rfl) rfl (C_X10_plays q0 hT2 (by omega) hG1 hp0 (sg := sg) (lt := lt) (fun t ht => ⟨by rw [(h2 t (by omega)).1]; exact (hW t (by omega)).1, by rw [(h2 t (by omega)).2]; exact (hW t (by omega)).2.1, (hW t (by omega)).2.2⟩) (fun M2 k1 k3 => ?_))
        have e := hok a b c rfl rfl rfl (by omega) (by omega) (by omega) M2 (fun c c1 c2 c3 c4 c5 => by rw [k1 c c3 c4 c5, h1 c c1 c2])
        unfold z_pv at e
        obtain ⟨p1, p2, p3⟩ := k3 b (by omega)
        refine AW.iload_n 40 dX10_play_39 rfl rfl ?_
        refine AW.ifN_ne 43 52 dX10_play_40 (by decide) rfl (by omega) (fun b40 => ?_) (fun b40 => ?_)
        · skip
          refine AW.iload_n 53 dX10_play_52 rfl rfl ?_
          refine AW.iconst 54 (nI 1) dX10_play_53 (by decide) rfl ?_
          refine AW.icmpN_ne 57 66 dX10_play_54 (by decide) rfl (by omega) (by omega) (fun b54 => ?_) (fun b54 => ?_)
          · skip
            refine AW.aload_n 67 dX10_play_66 rfl rfl ?_
            refine AW.getR 70 dX10_play_67 fX10_75 rfl (zI rfl rfl) rfl rfl ?_
            refine AW.iload_n 71 dX10_play_70 rfl rfl ?_
            refine AW.iald 72 dX10_play_71 (zA rfl rfl) rfl (by omega) (by decide) rfl ?_
            refine AW.iret dX10_play_72 .int rfl rfl rfl ⟨_, rfl, ?_⟩
            (repeat' split at e) <;> first | (rw [← p1] at e; exact e) | (rw [← p2] at e; exact e) | (rw [← p3] at e; exact e) | (exfalso; omega)
          · skip
            refine AW.aload_n 58 dX10_play_57 rfl rfl ?_
            refine AW.getR 61 dX10_play_58 fX10_72 rfl (zI rfl rfl) rfl rfl ?_
            refine AW.iload_n 62 dX10_play_61 rfl rfl ?_
            refine AW.iald 63 dX10_play_62 (zA rfl rfl) rfl (by omega) (by decide) rfl ?_
            refine AW.goto 72 dX10_play_63 (by decide) ?_
            refine AW.iret dX10_play_72 .int rfl rfl rfl ⟨_, rfl, ?_⟩
            (repeat' split at e) <;> first | (rw [← p1] at e; exact e) | (rw [← p2] at e; exact e) | (rw [← p3] at e; exact e) | (exfalso; omega)
        · skip
          refine AW.aload_n 44 dX10_play_43 rfl rfl ?_
          refine AW.getR 47 dX10_play_44 fX10_69 rfl (zI rfl rfl) rfl rfl ?_
          refine AW.iload_n 48 dX10_play_47 rfl rfl ?_
          refine AW.iald 49 dX10_play_48 (zA rfl rfl) rfl (by omega) (by decide) rfl ?_
          refine AW.goto 72 dX10_play_49 (by decide) ?_
          refine AW.iret dX10_play_72 .int rfl rfl rfl ⟨_, rfl, ?_⟩
          (repeat' split at e) <;> first | (rw [← p1] at e; exact e) | (rw [← p2] at e; exact e) | (rw [← p3] at e; exact e) | (exfalso; omega)
      · skip
        refine AW.if_ne 27 29 dX10_play_24 (by decide) rfl (fun h => absurd h (by decide)) (fun _ => ?_)
        refine AW.iconst 28 (-1) dX10_play_27 (by decide) rfl ?_
        refine AW.iret dX10_play_28 .int rfl rfl rfl ⟨_, rfl, ?_⟩
        exact hbad (by omega)
    · skip
      refine AW.if_eq 15 27 dX10_play_12 (by decide) rfl (fun _ => ?_) (fun h => absurd h (by decide))
      refine AW.iconst 28 (-1) dX10_play_27 (by decide) rfl ?_
      refine AW.iret dX10_play_28 .int rfl rfl rfl ⟨_, rfl, ?_⟩
      exact hbad (by omega)
  · skip
    refine AW.if_eq 7 27 dX10_play_4 (by decide) rfl (fun _ => ?_) (fun h => absurd h (by decide))
    refine AW.iconst 28 (-1) dX10_play_27 (by decide) rfl ?_
    refine AW.iret dX10_play_28 .int rfl rfl rfl ⟨_, rfl, ?_⟩
    exact hbad (by omega)
end PLAY2
