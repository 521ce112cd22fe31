section WHY
variable {l : Launch} {g : zG} {d m0 m1 md : Nat} {M : zM} {T n t : Nat} {H : Nat → Nat → Nat → Bool} {A : Nat → Nat} {N : Nat → Int32} {mk tk tt tn sg lt : Nat → Nat}
theorem C_X10_leastOf (hw : g_wy M T n t H A N mk tk tt tn sg lt) {w : Nat} (hw2 : w < 2) {Q : Int32 → zS → zM → Prop} (hnot : ¬ (0 ≤ (M 99 33).toInt ∧ (M 99 33).toInt < T) → Q (-2) (ZS m0 m1 md) M)
    (hgo : ∀ tick, M 99 33 = nI tick → tick < T → ∀ M', (∀ c, c ≠ 116 → c ≠ 117 → c ≠ 118 → c ≠ 119 → c ≠ 120 → c ≠ 130 → M' c = M c) → Q (z_oI (z_bst (z_su (z_W (z_pr0 n 15 mk) n H A N tk tt tn sg lt t (M 99 32) tick) t w) (2 ^ t))) (ZS m0 m1 md) M') : AMet l g yX10_leastOf cX10_leastOf 4 (some .int) (d + 4) 0 0 [.ref 99, .int (nI w)] (ZS m0 m1 md) M (z_Qi Q) := by
  have hw' := hw
  obtain ⟨w1, w2, w3, w4, w5, w6, w7, w8, w9, w10⟩ := hw'
  refine AMet.of (ini := false) rfl (fun h => by first | rfl | cases h) (Nat.le_of_ble_eq_true rfl) ?_
  show AW l g RX10 cX10_leastOf 4 (some .int) false _ _ _ 0 [some (.ref 99), some (.int (nI w)), none, none] [] _ _ _
  refine AW.aload_n 1 dX10_leastOf_0 rfl rfl ?_
  refine AW.cVi0 4 dX10_leastOf_1 kX10_256 (zI rfl rfl) (Nat.le_of_ble_eq_true rfl) rfl (C_X10_isTold w1 w2 w3 (fun b1 => ?_) (fun b1 => ?_))
  · skip
    obtain ⟨tick, htk, hd, htk2⟩ := z_nI (v := M 99 33) (n := 11) (by omega) (by omega)
    refine AW.if_ne 7 10 dX10_leastOf_4 (by decide) rfl (fun _ => ?_) (fun h => absurd h (by decide))
    refine AW.aload_n 11 dX10_leastOf_10 rfl rfl ?_
    refine AW.cVv0 14 dX10_leastOf_11 kX10_260 (zI rfl rfl) (Nat.le_of_ble_eq_true rfl) rfl (C_X10_tries hw hd (by omega) ?_)
    intro M3 f1 f2
    have t3 : M3 99 34 = nI t := by rw [f1 99 (by decide) (by decide) (by decide) (by decide) (by decide) (by decide)]; exact w6
    refine AW.bipush 16 (-4) dX10_leastOf_14 (by decide) rfl ?_
    refine AW.istn2 17 dX10_leastOf_16 (by decide) rfl rfl ?_
    refine AW.iconst 18 (nI 0) dX10_leastOf_17 (by decide) rfl ?_
    refine AW.istn3 19 dX10_leastOf_18 (by decide) rfl rfl ?_
    exact L_X10_leastOf t3 w7 f2 hw2 (hgo tick hd (by omega) M3 f1) (2 ^ t) 0 (by omega)
  · skip
    refine AW.if_ne 7 10 dX10_leastOf_4 (by decide) rfl (fun h => absurd h (by decide)) (fun _ => ?_)
    refine AW.bipush 9 (-2) dX10_leastOf_7 (by decide) rfl ?_
    refine AW.iret dX10_leastOf_9 .int rfl rfl rfl ⟨_, rfl, ?_⟩
    exact hnot b1
theorem C_X10_because (hw : g_wy M T n t H A N mk tk tt tn sg lt) {Q : Int32 → zS → zM → Prop} (hnot : ¬ (0 ≤ (M 99 33).toInt ∧ (M 99 33).toInt < T) → Q (-2) (ZS m0 m1 md) M)
    (hgo : ∀ tick, M 99 33 = nI tick → tick < T → ∀ M', (∀ c, c ≠ 116 → c ≠ 117 → c ≠ 118 → c ≠ 119 → c ≠ 120 → c ≠ 130 → M' c = M c) → Q (z_oI (z_bst (z_su (z_W (z_pr0 n 15 mk) n H A N tk tt tn sg lt t (M 99 32) tick) t 0) (2 ^ t))) (ZS m0 m1 md) M') : AMet l g yX10_because cX10_because 1 (some .int) (d + 5) 0 0 [.ref 99] (ZS m0 m1 md) M (z_Qi Q) := by
  refine AMet.of (ini := false) rfl (fun h => by first | rfl | cases h) (Nat.le_of_ble_eq_true rfl) ?_
  show AW l g RX10 cX10_because 1 (some .int) false _ _ _ 0 [some (.ref 99)] [] _ _ _
  refine AW.aload_n 1 dX10_because_0 rfl rfl ?_
  refine AW.iconst 2 (nI 0) dX10_because_1 (by decide) rfl ?_
  refine AW.cVi1 5 dX10_because_2 kX10_269 (zI rfl rfl) (Nat.le_of_ble_eq_true rfl) rfl (C_X10_leastOf hw (w := 0) (by decide) (fun h => ?_) (fun tick h1 h2 M' h3 => ?_))
  all_goals skip
  · refine AW.iret dX10_because_5 .int rfl rfl rfl ⟨_, rfl, ?_⟩
    exact hnot h
  · refine AW.iret dX10_because_5 .int rfl rfl rfl ⟨_, rfl, ?_⟩
    exact hgo tick h1 h2 M' h3
theorem C_X10_enough (hw : g_wy M T n t H A N mk tk tt tn sg lt) {Q : Int32 → zS → zM → Prop} (hnot : ¬ (0 ≤ (M 99 33).toInt ∧ (M 99 33).toInt < T) → Q (-2) (ZS m0 m1 md) M)
    (hgo : ∀ tick, M 99 33 = nI tick → tick < T → ∀ M', (∀ c, c ≠ 116 → c ≠ 117 → c ≠ 118 → c ≠ 119 → c ≠ 120 → c ≠ 130 → M' c = M c) → Q (z_oI (z_bst (z_su (z_W (z_pr0 n 15 mk) n H A N tk tt tn sg lt t (M 99 32) tick) t 1) (2 ^ t))) (ZS m0 m1 md) M') : AMet l g yX10_enough cX10_enough 1 (some .int) (d + 5) 0 0 [.ref 99] (ZS m0 m1 md) M (z_Qi Q) := by
  refine AMet.of (ini := false) rfl (fun h => by first | rfl | cases h) (Nat.le_of_ble_eq_true rfl) ?_
  show AW l g RX10 cX10_enough 1 (some .int) false _ _ _ 0 [some (.ref 99)] [] _ _ _
  refine AW.aload_n 1 dX10_enough_0 rfl rfl ?_
  refine AW.iconst 2 (nI 1) dX10_enough_1 (by decide) rfl ?_
  refine AW.cVi1 5 dX10_enough_2 kX10_269 (zI rfl rfl) (Nat.le_of_ble_eq_true rfl) rfl (C_X10_leastOf hw (w := 1) (by decide) (fun h => ?_) (fun tick h1 h2 M' h3 => ?_))
  all_goals skip
  · refine AW.iret dX10_enough_5 .int rfl rfl rfl ⟨_, rfl, ?_⟩
    exact hnot h
  · refine AW.iret dX10_enough_5 .int rfl rfl rfl ⟨_, rfl, ?_⟩
    exact hgo tick h1 h2 M' h3
theorem C_X10_sets (hw : g_wy M T n t H A N mk tk tt tn sg lt) {w : Int32} {Q : Int32 → zS → zM → Prop} (hbad : ¬ (0 ≤ w.toInt ∧ w.toInt ≤ 1) → Q (-1) (ZS m0 m1 md) M) (hnot : 0 ≤ w.toInt ∧ w.toInt ≤ 1 → ¬ (0 ≤ (M 99 33).toInt ∧ (M 99 33).toInt < T) → Q (-2) (ZS m0 m1 md) M)
    (hgo : ∀ wn tick, w = nI wn → wn < 2 → M 99 33 = nI tick → tick < T → ∀ M', (∀ c, c ≠ 116 → c ≠ 117 → c ≠ 118 → c ≠ 119 → c ≠ 120 → c ≠ 130 → M' c = M c) → Q (nI (z_cn2 (z_su (z_W (z_pr0 n 15 mk) n H A N tk tt tn sg lt t (M 99 32) tick) t wn) (2 ^ t))) (ZS m0 m1 md) M') : AMet l g yX10_sets cX10_sets 4 (some .int) (d + 4) 0 0 [.ref 99, .int w] (ZS m0 m1 md) M (z_Qi Q) := by
  have hw' := hw
  obtain ⟨w1, w2, w3, w4, w5, w6, w7, w8, w9, w10⟩ := hw'
  refine AMet.of (ini := false) rfl (fun h => by first | rfl | cases h) (Nat.le_of_ble_eq_true rfl) ?_
  show AW l g RX10 cX10_sets 4 (some .int) false _ _ _ 0 [some (.ref 99), some (.int w), none, none] [] _ _ _
  refine AW.iload_n 1 dX10_sets_0 rfl rfl ?_
  refine AW.i2l 2 dX10_sets_1 rfl ?_
  refine AW.lconst 3 (lN 0) dX10_sets_2 rfl rfl ?_
  refine AW.lconst 4 (lN 1) dX10_sets_3 rfl rfl ?_
  refine AW.cSi3 7 dX10_sets_4 kX10_131 (Nat.le_of_ble_eq_true rfl) rfl (C_in (Int32.toInt_toInt64 _) (z_lN (by decide)) (z_lN (by decide)) (fun b4 => ?_) (fun b4 => ?_))
  · skip
    obtain ⟨wn, hwn, rfl, hwn2⟩ := z_nI (v := w) (n := 1) (by omega) (by omega)
    refine AW.if_ne 10 12 dX10_sets_7 (by decide) rfl (fun _ => ?_) (fun h => absurd h (by decide))
    refine AW.aload_n 13 dX10_sets_12 rfl rfl ?_
    refine AW.cVi0 16 dX10_sets_13 kX10_256 (zI rfl rfl) (Nat.le_of_ble_eq_true rfl) rfl (C_X10_isTold w1 w2 w3 (fun b13 => ?_) (fun b13 => ?_))
    · skip
      obtain ⟨tick, htk, hd, htk2⟩ := z_nI (v := M 99 33) (n := 11) (by omega) (by omega)
      refine AW.if_ne 19 22 dX10_sets_16 (by decide) rfl (fun _ => ?_) (fun h => absurd h (by decide))
      refine AW.aload_n 23 dX10_sets_22 rfl rfl ?_
      refine AW.cVv0 26 dX10_sets_23 kX10_260 (zI rfl rfl) (Nat.le_of_ble_eq_true rfl) rfl (C_X10_tries hw hd (by omega) ?_)
      intro M3 f1 f2
      have t3 : M3 99 34 = nI t := by rw [f1 99 (by decide) (by decide) (by decide) (by decide) (by decide) (by decide)]; exact w6
      refine AW.iconst 27 (nI 0) dX10_sets_26 (by decide) rfl ?_
      refine AW.istn2 28 dX10_sets_27 (by decide) rfl rfl ?_
      refine AW.iconst 29 (nI 0) dX10_sets_28 (by decide) rfl ?_
      refine AW.istn3 30 dX10_sets_29 (by decide) rfl rfl ?_
      exact L_X10_sets t3 w7 f2 (by omega) (hgo wn tick rfl (by omega) hd (by omega) M3 f1) (2 ^ t) 0 (by omega)
    · skip
      refine AW.if_ne 19 22 dX10_sets_16 (by decide) rfl (fun h => absurd h (by decide)) (fun _ => ?_)
      refine AW.bipush 21 (-2) dX10_sets_19 (by decide) rfl ?_
      refine AW.iret dX10_sets_21 .int rfl rfl rfl ⟨_, rfl, ?_⟩
      exact hnot (by omega) b13
  · skip
    refine AW.if_ne 10 12 dX10_sets_7 (by decide) rfl (fun h => absurd h (by decide)) (fun _ => ?_)
    refine AW.iconst 11 (-1) dX10_sets_10 (by decide) rfl ?_
    refine AW.iret dX10_sets_11 .int rfl rfl rfl ⟨_, rfl, ?_⟩
    exact hbad (by omega)
theorem C_X9_leastSet (hw : f_wy M m0 T n t H A N mk tk tt tn sg lt) {w tick : Nat} (hw2 : w < 2) (hd : M 0 15 = nI tick) (htick : tick < T) {Q : Int32 → zS → zM → Prop}
    (hgo : ∀ M', (∀ c, c ≠ 65 → c ≠ 66 → c ≠ 67 → c ≠ 68 → c ≠ 69 → c ≠ 87 → M' c = M c) → Q (z_oI (z_bst (z_su (z_W (fun _ => true) n H A N tk tt tn sg lt t (M 0 14) tick) t w) (2 ^ t))) (ZS m0 m1 md) M') : AMet l g yX9_leastSet cX9_leastSet 6 (some .int) (d + 5) 0 0 [.ref 0, .int (nI w)] (ZS m0 m1 md) M (z_Qi Q) := by
  have hw' := hw
  obtain ⟨w1, w2, w3, w4, w5, w6, w7, w8, w9, w10, w11⟩ := hw'
  refine AMet.of (ini := false) rfl (fun h => by first | rfl | cases h) (Nat.le_of_ble_eq_true rfl) ?_
  show AW l g RX9 cX9_leastSet 6 (some .int) false _ _ _ 0 [some (.ref 0), some (.int (nI w)), none, none, none, none] [] _ _ _
  refine AW.aload_n 1 dX9_leastSet_0 rfl rfl ?_
  refine AW.cVv0 4 dX9_leastSet_1 kX9_270 (zI rfl rfl) (Nat.le_of_ble_eq_true rfl) rfl (C_X9_tryAllSets hw hd htick ?_)
  intro M3 f1 f2
  have t3 : M3 83 3 = nI t := by rw [f1 83 (by decide) (by decide) (by decide) (by decide) (by decide) (by decide)]; exact w7
  refine AW.bipush 6 (-4) dX9_leastSet_4 (by decide) rfl ?_
  refine AW.istn2 7 dX9_leastSet_6 (by decide) rfl rfl ?_
  refine AW.bipush 9 (nI 7) dX9_leastSet_7 (by decide) rfl ?_
  refine AW.istn3 10 dX9_leastSet_9 (by decide) rfl rfl ?_
  refine AW.iconst 11 (nI 0) dX9_leastSet_10 (by decide) rfl ?_
  refine AW.ist4 13 dX9_leastSet_11 (by decide) rfl rfl ?_
  exact L_X9_leastSet t3 w8 f2 hw2 (hgo M3 f1) (2 ^ t) 0 (by omega) _
theorem C_X9_because (hw : f_wy M m0 T n t H A N mk tk tt tn sg lt) {Q : Int32 → zS → zM → Prop} (hnot : ((M 0 14).toInt = -4 ∨ ¬ (0 ≤ (M 0 15).toInt ∧ (M 0 15).toInt < T)) → Q (-2) (ZS m0 m1 md) M)
    (hgo : ∀ tick, ¬ (M 0 14).toInt = -4 → M 0 15 = nI tick → tick < T → ∀ M', (∀ c, c ≠ 65 → c ≠ 66 → c ≠ 67 → c ≠ 68 → c ≠ 69 → c ≠ 87 → M' c = M c) → Q (z_oI (z_bst (z_su (z_W (fun _ => true) n H A N tk tt tn sg lt t (M 0 14) tick) t 0) (2 ^ t))) (ZS m0 m1 md) M') : AMet l g yX9_because cX9_because 1 (some .int) (d + 6) 0 0 [.ref 0] (ZS m0 m1 md) M (z_Qi Q) := by
  have hw' := hw
  obtain ⟨w1, w2, w3, w4, w5, w6, w7, w8, w9, w10, w11⟩ := hw'
  refine AMet.of (ini := false) rfl (fun h => by first | rfl | cases h) (Nat.le_of_ble_eq_true rfl) ?_
  show AW l g RX9 cX9_because 1 (some .int) false _ _ _ 0 [some (.ref 0)] [] _ _ _
  refine AW.aload_n 1 dX9_because_0 rfl rfl ?_
  refine AW.cVi0 4 dX9_because_1 kX9_262 (zI rfl rfl) (Nat.le_of_ble_eq_true rfl) rfl (C_X9_noDoing w1 w2 w3 (fun b1 => ?_) (fun b1 => ?_))
  · skip
    refine AW.if_eq 7 12 dX9_because_4 (by decide) rfl (fun h => absurd h (by decide)) (fun _ => ?_)
    refine AW.bipush 9 (-2) dX9_because_7 (by decide) rfl ?_
    refine AW.goto 17 dX9_because_9 (by decide) ?_
    refine AW.iret dX9_because_17 .int rfl rfl rfl ⟨_, rfl, ?_⟩
    first | exact hnot b1 | exact hgo tick (by omega) hd (by omega) M3 f1
  · skip
    obtain ⟨tick, htk, hd, htk2⟩ := z_nI (v := M 0 15) (n := 11) (by omega) (by omega)
    refine AW.if_eq 7 12 dX9_because_4 (by decide) rfl (fun _ => ?_) (fun h => absurd h (by decide))
    refine AW.aload_n 13 dX9_because_12 rfl rfl ?_
    refine AW.iconst 14 (nI 0) dX9_because_13 (by decide) rfl ?_
    refine AW.cVi1 17 dX9_because_14 kX9_266 (zI rfl rfl) (Nat.le_of_ble_eq_true rfl) rfl (C_X9_leastSet hw (w := 0) (by decide) hd (by omega) ?_)
    intro M3 f1
    refine AW.iret dX9_because_17 .int rfl rfl rfl ⟨_, rfl, ?_⟩
    first | exact hnot b1 | exact hgo tick (by omega) hd (by omega) M3 f1
theorem C_X9_enough (hw : f_wy M m0 T n t H A N mk tk tt tn sg lt) {Q : Int32 → zS → zM → Prop} (hnot : ((M 0 14).toInt = -4 ∨ ¬ (0 ≤ (M 0 15).toInt ∧ (M 0 15).toInt < T)) → Q (-2) (ZS m0 m1 md) M)
    (hgo : ∀ tick, ¬ (M 0 14).toInt = -4 → M 0 15 = nI tick → tick < T → ∀ M', (∀ c, c ≠ 65 → c ≠ 66 → c ≠ 67 → c ≠ 68 → c ≠ 69 → c ≠ 87 → M' c = M c) → Q (z_oI (z_bst (z_su (z_W (fun _ => true) n H A N tk tt tn sg lt t (M 0 14) tick) t 1) (2 ^ t))) (ZS m0 m1 md) M') : AMet l g yX9_enough cX9_enough 1 (some .int) (d + 6) 0 0 [.ref 0] (ZS m0 m1 md) M (z_Qi Q) := by
  have hw' := hw
  obtain ⟨w1, w2, w3, w4, w5, w6, w7, w8, w9, w10, w11⟩ := hw'
  refine AMet.of (ini := false) rfl (fun h => by first | rfl | cases h) (Nat.le_of_ble_eq_true rfl) ?_
  show AW l g RX9 cX9_enough 1 (some .int) false _ _ _ 0 [some (.ref 0)] [] _ _ _
  refine AW.aload_n 1 dX9_enough_0 rfl rfl ?_
  refine AW.cVi0 4 dX9_enough_1 kX9_262 (zI rfl rfl) (Nat.le_of_ble_eq_true rfl) rfl (C_X9_noDoing w1 w2 w3 (fun b1 => ?_) (fun b1 => ?_))
  · skip
    refine AW.if_eq 7 12 dX9_enough_4 (by decide) rfl (fun h => absurd h (by decide)) (fun _ => ?_)
    refine AW.bipush 9 (-2) dX9_enough_7 (by decide) rfl ?_
    refine AW.goto 17 dX9_enough_9 (by decide) ?_
    refine AW.iret dX9_enough_17 .int rfl rfl rfl ⟨_, rfl, ?_⟩
    first | exact hnot b1 | exact hgo tick (by omega) hd (by omega) M3 f1
  · skip
    obtain ⟨tick, htk, hd, htk2⟩ := z_nI (v := M 0 15) (n := 11) (by omega) (by omega)
    refine AW.if_eq 7 12 dX9_enough_4 (by decide) rfl (fun _ => ?_) (fun h => absurd h (by decide))
    refine AW.aload_n 13 dX9_enough_12 rfl rfl ?_
    refine AW.iconst 14 (nI 1) dX9_enough_13 (by decide) rfl ?_
    refine AW.cVi1 17 dX9_enough_14 kX9_266 (zI rfl rfl) (Nat.le_of_ble_eq_true rfl) rfl (C_X9_leastSet hw (w := 1) (by decide) hd (by omega) ?_)
    intro M3 f1
    refine AW.iret dX9_enough_17 .int rfl rfl rfl ⟨_, rfl, ?_⟩
    first | exact hnot b1 | exact hgo tick (by omega) hd (by omega) M3 f1
theorem C_X9_sets (hw : f_wy M m0 T n t H A N mk tk tt tn sg lt) {w : Int32} {Q : Int32 → zS → zM → Prop} (hbad : ¬ (0 ≤ w.toInt ∧ w.toInt ≤ 1) → Q (-1) (ZS m0 m1 md) M) (hnot : 0 ≤ w.toInt ∧ w.toInt ≤ 1 → ((M 0 14).toInt = -4 ∨ ¬ (0 ≤ (M 0 15).toInt ∧ (M 0 15).toInt < T)) → Q (-2) (ZS m0 m1 md) M)
    (hgo : ∀ wn tick, w = nI wn → wn < 2 → ¬ (M 0 14).toInt = -4 → M 0 15 = nI tick → tick < T → ∀ M', (∀ c, c ≠ 65 → c ≠ 66 → c ≠ 67 → c ≠ 68 → c ≠ 69 → c ≠ 87 → M' c = M c) → Q (nI (z_cn2 (z_su (z_W (fun _ => true) n H A N tk tt tn sg lt t (M 0 14) tick) t wn) (2 ^ t))) (ZS m0 m1 md) M') : AMet l g yX9_sets cX9_sets 4 (some .int) (d + 5) 0 0 [.ref 0, .int w] (ZS m0 m1 md) M (z_Qi Q) := by
  have hw' := hw
  obtain ⟨w1, w2, w3, w4, w5, w6, w7, w8, w9, w10, w11⟩ := hw'
  refine AMet.of (ini := false) rfl (fun h => by first | rfl | cases h) (Nat.le_of_ble_eq_true rfl) ?_
  show AW l g RX9 cX9_sets 4 (some .int) false _ _ _ 0 [some (.ref 0), some (.int w), none, none] [] _ _ _
  refine AW.iload_n 1 dX9_sets_0 rfl rfl ?_
  refine AW.iconst 2 (nI 1) dX9_sets_1 (by decide) rfl ?_
  refine AW.cSi2 5 dX9_sets_2 kX9_120 (Nat.le_of_ble_eq_true rfl) rfl (C_beyond rfl (by decide : (nI 1).toInt = 1) (fun b2 => ?_) (fun b2 => ?_))
  · skip
    refine AW.if_eq 8 10 dX9_sets_5 (by decide) rfl (fun h => absurd h (by decide)) (fun _ => ?_)
    refine AW.iconst 9 (-1) dX9_sets_8 (by decide) rfl ?_
    refine AW.iret dX9_sets_9 .int rfl rfl rfl ⟨_, rfl, ?_⟩
    exact hbad (by omega)
  · skip
    obtain ⟨wn, hwn, rfl, hwn2⟩ := z_nI (v := w) (n := 1) (by omega) (by omega)
    refine AW.if_eq 8 10 dX9_sets_5 (by decide) rfl (fun _ => ?_) (fun h => absurd h (by decide))
    refine AW.aload_n 11 dX9_sets_10 rfl rfl ?_
    refine AW.cVi0 14 dX9_sets_11 kX9_262 (zI rfl rfl) (Nat.le_of_ble_eq_true rfl) rfl (C_X9_noDoing w1 w2 w3 (fun b11 => ?_) (fun b11 => ?_))
    · skip
      refine AW.if_eq 17 20 dX9_sets_14 (by decide) rfl (fun h => absurd h (by decide)) (fun _ => ?_)
      refine AW.bipush 19 (-2) dX9_sets_17 (by decide) rfl ?_
      refine AW.iret dX9_sets_19 .int rfl rfl rfl ⟨_, rfl, ?_⟩
      exact hnot (by omega) b11
    · skip
      obtain ⟨tick, htk, hd, htk2⟩ := z_nI (v := M 0 15) (n := 11) (by omega) (by omega)
      refine AW.if_eq 17 20 dX9_sets_14 (by decide) rfl (fun _ => ?_) (fun h => absurd h (by decide))
      refine AW.aload_n 21 dX9_sets_20 rfl rfl ?_
      refine AW.cVv0 24 dX9_sets_21 kX9_270 (zI rfl rfl) (Nat.le_of_ble_eq_true rfl) rfl (C_X9_tryAllSets hw hd (by omega) ?_)
      intro M3 f1 f2
      have t3 : M3 83 3 = nI t := by rw [f1 83 (by decide) (by decide) (by decide) (by decide) (by decide) (by decide)]; exact w7
      refine AW.iconst 25 (nI 0) dX9_sets_24 (by decide) rfl ?_
      refine AW.istn2 26 dX9_sets_25 (by decide) rfl rfl ?_
      refine AW.iconst 27 (nI 0) dX9_sets_26 (by decide) rfl ?_
      refine AW.istn3 28 dX9_sets_27 (by decide) rfl rfl ?_
      exact L_X9_sets t3 w8 f2 (by omega) (hgo wn tick rfl (by omega) (by omega) hd (by omega) M3 f1) (2 ^ t) 0 (by omega)
end WHY
