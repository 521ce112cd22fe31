def z_lostP (f : Nat → Int32) (i : Nat) : Bool := decide ((f i).toInt = 5)
def g_count (M : zM) (L : Nat) (w : Int32) : Int32 := if w.toInt = 0 then M 99 16 else if w.toInt = 1 then M 104 0 else if w.toInt = 2 then M 104 1 else if w.toInt = 3 then M 99 25 else if w.toInt = 4 then nI (z_cnt (z_lostP (M 121)) L) else if w.toInt = 5 then M 99 34 else -1
def f_count (M : zM) (m0 m1 L : Nat) (w : Int32) : Int32 := if w.toInt = 0 then M 59 1 else if w.toInt = 1 then M m0 4 else if w.toInt = 2 then M m1 4 else if w.toInt = 3 then M 70 1 else if w.toInt = 4 then nI (z_cnt (z_lostP (M 72)) L) else if w.toInt = 5 then M 83 3 else -1
section COUNT
variable {l : Launch} {g : zG} {d m0 m1 md : Nat} {M : zM} {L : Nat}
theorem L_X10_count (hL : M 99 25 = nI L) (hL2 : L ≤ 48) {w : Int32} {Q : Option Value → zS → zM → Prop} (hQ : AW l g RX10 cX10_count 4 (some .int) false d 0 0 36 [some (.ref 99), some (.int w), some (.int (nI (z_cnt (z_lostP (M 121)) L))), some (.int (nI L))] [] (ZS m0 m1 md) M Q) :
    ∀ (q i : Nat), i + q = L → AW l g RX10 cX10_count 4 (some .int) false d 0 0 4 [some (.ref 99), some (.int w), some (.int (nI (z_cnt (z_lostP (M 121)) i))), some (.int (nI i))] [] (ZS m0 m1 md) M Q := by
  intro q
  induction q with
  | zero =>
    intro i hi
    have hi : i = L := by omega
    subst hi
    refine AW.iload_n 5 dX10_count_4 rfl rfl ?_
    refine AW.aload_n 6 dX10_count_5 rfl rfl ?_
    refine AW.getI 9 dX10_count_6 fX10_209 rfl (zI rfl rfl) rfl ?_
    refine AW.topi (nI i) hL ?_
    refine AW.icmpN_ge 12 36 dX10_count_9 (by decide) rfl (by omega) (by omega) (fun b9 => ?_) (fun b9 => absurd b9 (by omega))
    exact hQ
  | succ q ih =>
    intro i hi
    have ih' : ∀ a : Nat, a = z_cnt (z_lostP (M 121)) (i + 1) → AW l g RX10 cX10_count 4 (some .int) false d 0 0 4 [some (.ref 99), some (.int w), some (.int (nI a)), some (.int (nI (i + 1)))] [] (ZS m0 m1 md) M Q := by
      intro a ea; subst ea; exact ih (i + 1) (by omega)
    refine AW.iload_n 5 dX10_count_4 rfl rfl ?_
    refine AW.aload_n 6 dX10_count_5 rfl rfl ?_
    refine AW.getI 9 dX10_count_6 fX10_209 rfl (zI rfl rfl) rfl ?_
    refine AW.topi (nI L) hL ?_
    refine AW.icmpN_ge 12 36 dX10_count_9 (by decide) rfl (by omega) (by omega) (fun b9 => absurd b9 (by omega)) (fun b9 => ?_)
    refine AW.iload_n 13 dX10_count_12 rfl rfl ?_
    refine AW.aload_n 14 dX10_count_13 rfl rfl ?_
    refine AW.getR 17 dX10_count_14 fX10_78 rfl (zI rfl rfl) rfl rfl ?_
    refine AW.iload_n 18 dX10_count_17 rfl rfl ?_
    refine AW.iald 19 dX10_count_18 (zA rfl rfl) rfl (by omega) (by decide) rfl ?_
    refine AW.iconst 20 (nI 5) dX10_count_19 (by decide) rfl ?_
    refine AW.zicmp_ne 23 27 dX10_count_20 (by decide) rfl rfl (by decide : (nI 5).toInt = 5) (fun b20 => ?_) (fun b20 => ?_)
    · skip
      refine AW.iconst 28 (nI 0) dX10_count_27 (by decide) rfl ?_
      refine AW.iaddN 29 dX10_count_28 rfl ?_
      refine AW.istn2 30 dX10_count_29 (by decide) rfl rfl ?_
      refine AW.iinc3 33 _ dX10_count_30 (z_inc1 _) (by decide) rfl rfl ?_
      refine AW.goto 4 dX10_count_33 (by decide) ?_
      refine ih' _ ?_
      first | exact z_cnt_t (decide_eq_true b20) | exact z_cnt_f (fun z => b20 (of_decide_eq_true z))
    · skip
      refine AW.iconst 24 (nI 1) dX10_count_23 (by decide) rfl ?_
      refine AW.goto 28 dX10_count_24 (by decide) ?_
      refine AW.iaddN 29 dX10_count_28 rfl ?_
      refine AW.istn2 30 dX10_count_29 (by decide) rfl rfl ?_
      refine AW.iinc3 33 _ dX10_count_30 (z_inc1 _) (by decide) rfl rfl ?_
      refine AW.goto 4 dX10_count_33 (by decide) ?_
      refine ih' _ ?_
      first | exact z_cnt_t (decide_eq_true b20) | exact z_cnt_f (fun z => b20 (of_decide_eq_true z))
theorem C_X10_count (hL : M 99 25 = nI L) (hL2 : L ≤ 48) {w : Int32} {Q : Int32 → zS → zM → Prop} (hQ : Q (g_count M L w) (ZS m0 m1 md) M) : AMet l g yX10_count cX10_count 4 (some .int) d 0 0 [.ref 99, .int w] (ZS m0 m1 md) M (z_Qi Q) := by
  unfold g_count at hQ
  refine AMet.of (ini := false) rfl (fun h => by first | rfl | cases h) (Nat.le_of_ble_eq_true rfl) ?_
  show AW l g RX10 cX10_count 4 (some .int) false _ _ _ 0 [some (.ref 99), some (.int w), none, none] [] _ _ _
  refine AW.iconst 1 (nI 0) dX10_count_0 (by decide) rfl ?_
  refine AW.istn2 2 dX10_count_1 (by decide) rfl rfl ?_
  refine AW.iconst 3 (nI 0) dX10_count_2 (by decide) rfl ?_
  refine AW.istn3 4 dX10_count_3 (by decide) rfl rfl ?_
  refine L_X10_count hL hL2 ?_ L 0 (by omega)
  refine AW.iload_n 37 dX10_count_36 rfl rfl ?_
  by_cases hw : 0 ≤ w.toInt ∧ w.toInt ≤ 5
  · obtain ⟨c, hc, rfl, hc2⟩ := z_nI (v := w) (n := 5) hw.1 hw.2
    rcases (show c = 0 ∨ c = 1 ∨ c = 2 ∨ c = 3 ∨ c = 4 ∨ c = 5 by omega) with rfl | rfl | rfl | rfl | rfl | rfl
    · refine AW.tabIn 76 dX10_count_37 (by decide) (by decide) rfl (by decide) ?_
      refine AW.aload_n 77 dX10_count_76 rfl rfl ?_
      refine AW.getI 80 dX10_count_77 fX10_50 rfl (zI rfl rfl) rfl ?_
      refine AW.iret dX10_count_80 .int rfl rfl rfl ⟨_, rfl, ?_⟩
      (repeat' split at hQ) <;> first | exact hQ | (exfalso; omega)
    · refine AW.tabIn 81 dX10_count_37 (by decide) (by decide) rfl (by decide) ?_
      refine AW.aload_n 82 dX10_count_81 rfl rfl ?_
      refine AW.getR 85 dX10_count_82 fX10_23 rfl (zI rfl rfl) rfl rfl ?_
      refine AW.iconst 86 (nI 0) dX10_count_85 (by decide) rfl ?_
      refine AW.iald 87 dX10_count_86 (zA rfl rfl) rfl (by omega) (by decide) rfl ?_
      refine AW.iret dX10_count_87 .int rfl rfl rfl ⟨_, rfl, ?_⟩
      (repeat' split at hQ) <;> first | exact hQ | (exfalso; omega)
    · refine AW.tabIn 88 dX10_count_37 (by decide) (by decide) rfl (by decide) ?_
      refine AW.aload_n 89 dX10_count_88 rfl rfl ?_
      refine AW.getR 92 dX10_count_89 fX10_23 rfl (zI rfl rfl) rfl rfl ?_
      refine AW.iconst 93 (nI 1) dX10_count_92 (by decide) rfl ?_
      refine AW.iald 94 dX10_count_93 (zA rfl rfl) rfl (by omega) (by decide) rfl ?_
      refine AW.iret dX10_count_94 .int rfl rfl rfl ⟨_, rfl, ?_⟩
      (repeat' split at hQ) <;> first | exact hQ | (exfalso; omega)
    · refine AW.tabIn 95 dX10_count_37 (by decide) (by decide) rfl (by decide) ?_
      refine AW.aload_n 96 dX10_count_95 rfl rfl ?_
      refine AW.getI 99 dX10_count_96 fX10_209 rfl (zI rfl rfl) rfl ?_
      refine AW.iret dX10_count_99 .int rfl rfl rfl ⟨_, rfl, ?_⟩
      (repeat' split at hQ) <;> first | exact hQ | (exfalso; omega)
    · refine AW.tabIn 100 dX10_count_37 (by decide) (by decide) rfl (by decide) ?_
      refine AW.iload_n 101 dX10_count_100 rfl rfl ?_
      refine AW.iret dX10_count_101 .int rfl rfl rfl ⟨_, rfl, ?_⟩
      (repeat' split at hQ) <;> first | exact hQ | (exfalso; omega)
    · refine AW.tabIn 102 dX10_count_37 (by decide) (by decide) rfl (by decide) ?_
      refine AW.aload_n 103 dX10_count_102 rfl rfl ?_
      refine AW.getI 106 dX10_count_103 fX10_244 rfl (zI rfl rfl) rfl ?_
      refine AW.iret dX10_count_106 .int rfl rfl rfl ⟨_, rfl, ?_⟩
      (repeat' split at hQ) <;> first | exact hQ | (exfalso; omega)
  · refine AW.tabOut 107 dX10_count_37 (by omega) (by decide) ?_
    refine AW.iconst 108 (-1) dX10_count_107 (by decide) rfl ?_
    refine AW.iret dX10_count_108 .int rfl rfl rfl ⟨_, rfl, ?_⟩
    (repeat' split at hQ) <;> first | exact hQ | (exfalso; omega)
theorem L_X0_countLost (hL : M 70 1 = nI L) (hL2 : L ≤ 48) {Q : Int32 → zS → zM → Prop} (hQ : Q (nI (z_cnt (z_lostP (M 72)) L)) (ZS m0 m1 md) M) :
    ∀ (q i : Nat), i + q = L → AW l g RX0 cX0_countLost 3 (some .int) false d 0 0 4 [some (.ref 70), some (.int (nI (z_cnt (z_lostP (M 72)) i))), some (.int (nI i))] [] (ZS m0 m1 md) M (z_Qi Q) := by
  intro q
  induction q with
  | zero =>
    intro i hi
    have hi : i = L := by omega
    subst hi
    refine AW.iload_n 5 dX0_countLost_4 rfl rfl ?_
    refine AW.aload_n 6 dX0_countLost_5 rfl rfl ?_
    refine AW.getI 9 dX0_countLost_6 fX0_16 rfl (zI rfl rfl) rfl ?_
    refine AW.topi (nI i) hL ?_
    refine AW.icmpN_ge 12 33 dX0_countLost_9 (by decide) rfl (by omega) (by omega) (fun b9 => ?_) (fun b9 => absurd b9 (by omega))
    refine AW.iload_n 34 dX0_countLost_33 rfl rfl ?_
    refine AW.iret dX0_countLost_34 .int rfl rfl rfl ⟨_, rfl, ?_⟩
    exact hQ
  | succ q ih =>
    intro i hi
    have ih' : ∀ a : Nat, a = z_cnt (z_lostP (M 72)) (i + 1) → AW l g RX0 cX0_countLost 3 (some .int) false d 0 0 4 [some (.ref 70), some (.int (nI a)), some (.int (nI (i + 1)))] [] (ZS m0 m1 md) M (z_Qi Q) := by
      intro a ea; subst ea; exact ih (i + 1) (by omega)
    refine AW.iload_n 5 dX0_countLost_4 rfl rfl ?_
    refine AW.aload_n 6 dX0_countLost_5 rfl rfl ?_
    refine AW.getI 9 dX0_countLost_6 fX0_16 rfl (zI rfl rfl) rfl ?_
    refine AW.topi (nI L) hL ?_
    refine AW.icmpN_ge 12 33 dX0_countLost_9 (by decide) rfl (by omega) (by omega) (fun b9 => absurd b9 (by omega)) (fun b9 => ?_)
    refine AW.aload_n 13 dX0_countLost_12 rfl rfl ?_
    refine AW.getR 16 dX0_countLost_13 fX0_11 rfl (zI rfl rfl) rfl rfl ?_
    refine AW.iconst 17 (nI 0) dX0_countLost_16 (by decide) rfl ?_
    refine AW.aald 18 dX0_countLost_17 (zA rfl rfl) (by decide) rfl (by omega) (by decide) rfl rfl ?_
    refine AW.iload_n 19 dX0_countLost_18 rfl rfl ?_
    refine AW.iald 20 dX0_countLost_19 (zA rfl rfl) rfl (by omega) (by decide) rfl ?_
    refine AW.iconst 21 (nI 5) dX0_countLost_20 (by decide) rfl ?_
    refine AW.zicmp_ne 24 27 dX0_countLost_21 (by decide) rfl rfl (by decide : (nI 5).toInt = 5) (fun b21 => ?_) (fun b21 => ?_)
    · skip
      refine AW.iinc2 30 _ dX0_countLost_27 (z_inc1 _) (by decide) rfl rfl ?_
      refine AW.goto 4 dX0_countLost_30 (by decide) ?_
      refine ih' _ ?_
      first | exact z_cnt_t (decide_eq_true b21) | exact z_cnt_f (fun z => b21 (of_decide_eq_true z))
    · skip
      refine AW.iinc1 27 _ dX0_countLost_24 (z_inc1 _) (by decide) rfl rfl ?_
      refine AW.iinc2 30 _ dX0_countLost_27 (z_inc1 _) (by decide) rfl rfl ?_
      refine AW.goto 4 dX0_countLost_30 (by decide) ?_
      refine ih' _ ?_
      first | exact z_cnt_t (decide_eq_true b21) | exact z_cnt_f (fun z => b21 (of_decide_eq_true z))
theorem C_X0_countLost (hL : M 70 1 = nI L) (hL2 : L ≤ 48) {Q : Int32 → zS → zM → Prop} (hQ : Q (nI (z_cnt (z_lostP (M 72)) L)) (ZS m0 m1 md) M) : AMet l g yX0_countLost cX0_countLost 3 (some .int) d 0 0 [.ref 70] (ZS m0 m1 md) M (z_Qi Q) := by
  refine AMet.of (ini := false) rfl (fun h => by first | rfl | cases h) (Nat.le_of_ble_eq_true rfl) ?_
  show AW l g RX0 cX0_countLost 3 (some .int) false _ _ _ 0 [some (.ref 70), none, none] [] _ _ _
  refine AW.iconst 1 (nI 0) dX0_countLost_0 (by decide) rfl ?_
  refine AW.istn1 2 dX0_countLost_1 (by decide) rfl rfl ?_
  refine AW.iconst 3 (nI 0) dX0_countLost_2 (by decide) rfl ?_
  refine AW.istn2 4 dX0_countLost_3 (by decide) rfl rfl ?_
  exact L_X0_countLost hL hL2 hQ L 0 (by omega)
theorem C_X9_count (hb0 : zMb m0) (hb1 : zMb m1) (hL : M 70 1 = nI L) (hL2 : L ≤ 48) {w : Int32} {Q : Int32 → zS → zM → Prop} (hQ : Q (f_count M m0 m1 L w) (ZS m0 m1 md) M) : AMet l g yX9_count cX9_count 2 (some .int) (d + 1) 0 0 [.ref 0, .int w] (ZS m0 m1 md) M (z_Qi Q) := by
  unfold f_count at hQ
  refine AMet.of (ini := false) rfl (fun h => by first | rfl | cases h) (Nat.le_of_ble_eq_true rfl) ?_
  show AW l g RX9 cX9_count 2 (some .int) false _ _ _ 0 [some (.ref 0), some (.int w)] [] _ _ _
  refine AW.iload_n 1 dX9_count_0 rfl rfl ?_
  by_cases hw : 0 ≤ w.toInt ∧ w.toInt ≤ 5
  · obtain ⟨c, hc, rfl, hc2⟩ := z_nI (v := w) (n := 5) hw.1 hw.2
    rcases (show c = 0 ∨ c = 1 ∨ c = 2 ∨ c = 3 ∨ c = 4 ∨ c = 5 by omega) with rfl | rfl | rfl | rfl | rfl | rfl
    · refine AW.tabIn 40 dX9_count_1 (by decide) (by decide) rfl (by decide) ?_
      refine AW.aload_n 41 dX9_count_40 rfl rfl ?_
      refine AW.getR 44 dX9_count_41 fX9_39 rfl (zI rfl rfl) rfl rfl ?_
      refine AW.getI 47 dX9_count_44 fX9_133 rfl (zI rfl rfl) rfl ?_
      refine AW.iret dX9_count_47 .int rfl rfl rfl ⟨_, rfl, ?_⟩
      (repeat' split at hQ) <;> first | exact hQ | (exfalso; omega)
    · refine AW.tabIn 48 dX9_count_1 (by decide) (by decide) rfl (by decide) ?_
      refine AW.aload_n 49 dX9_count_48 rfl rfl ?_
      refine AW.getR 52 dX9_count_49 fX9_28 rfl (zI rfl rfl) rfl rfl ?_
      refine AW.iconst 53 (nI 0) dX9_count_52 (by decide) rfl ?_
      refine AW.aald 54 dX9_count_53 (zA rfl rfl) (by decide) rfl (by omega) (by decide) rfl rfl ?_
      refine AW.getI 57 dX9_count_54 fX9_119 rfl (zMb_is hb0) rfl ?_
      refine AW.iret dX9_count_57 .int rfl rfl rfl ⟨_, rfl, ?_⟩
      (repeat' split at hQ) <;> first | exact hQ | (exfalso; omega)
    · refine AW.tabIn 58 dX9_count_1 (by decide) (by decide) rfl (by decide) ?_
      refine AW.aload_n 59 dX9_count_58 rfl rfl ?_
      refine AW.getR 62 dX9_count_59 fX9_28 rfl (zI rfl rfl) rfl rfl ?_
      refine AW.iconst 63 (nI 1) dX9_count_62 (by decide) rfl ?_
      refine AW.aald 64 dX9_count_63 (zA rfl rfl) (by decide) rfl (by omega) (by decide) rfl rfl ?_
      refine AW.getI 67 dX9_count_64 fX9_119 rfl (zMb_is hb1) rfl ?_
      refine AW.iret dX9_count_67 .int rfl rfl rfl ⟨_, rfl, ?_⟩
      (repeat' split at hQ) <;> first | exact hQ | (exfalso; omega)
    · refine AW.tabIn 68 dX9_count_1 (by decide) (by decide) rfl (by decide) ?_
      refine AW.aload_n 69 dX9_count_68 rfl rfl ?_
      refine AW.getR 72 dX9_count_69 fX9_53 rfl (zI rfl rfl) rfl rfl ?_
      refine AW.getI 75 dX9_count_72 fX9_173 rfl (zI rfl rfl) rfl ?_
      refine AW.iret dX9_count_75 .int rfl rfl rfl ⟨_, rfl, ?_⟩
      (repeat' split at hQ) <;> first | exact hQ | (exfalso; omega)
    · refine AW.tabIn 76 dX9_count_1 (by decide) (by decide) rfl (by decide) ?_
      refine AW.aload_n 77 dX9_count_76 rfl rfl ?_
      refine AW.getR 80 dX9_count_77 fX9_53 rfl (zI rfl rfl) rfl rfl ?_
      refine AW.cVi0 83 dX9_count_80 kX9_244 (zI rfl rfl) (Nat.le_of_ble_eq_true rfl) rfl (C_X0_countLost hL hL2 ?_)
      refine AW.iret dX9_count_83 .int rfl rfl rfl ⟨_, rfl, ?_⟩
      (repeat' split at hQ) <;> first | exact hQ | (exfalso; omega)
    · refine AW.tabIn 84 dX9_count_1 (by decide) (by decide) rfl (by decide) ?_
      refine AW.aload_n 85 dX9_count_84 rfl rfl ?_
      refine AW.getR 88 dX9_count_85 fX9_67 rfl (zI rfl rfl) rfl rfl ?_
      refine AW.getI 91 dX9_count_88 fX9_247 rfl (zI rfl rfl) rfl ?_
      refine AW.iret dX9_count_91 .int rfl rfl rfl ⟨_, rfl, ?_⟩
      (repeat' split at hQ) <;> first | exact hQ | (exfalso; omega)
  · refine AW.tabOut 92 dX9_count_1 (by omega) (by decide) ?_
    refine AW.iconst 93 (-1) dX9_count_92 (by decide) rfl ?_
    refine AW.iret dX9_count_93 .int rfl rfl rfl ⟨_, rfl, ?_⟩
    (repeat' split at hQ) <;> first | exact hQ | (exfalso; omega)
end COUNT
