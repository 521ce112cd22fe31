/-- the first place from i on (q of them) at which P holds; -4: none -/
def z_fnd (P : Nat → Bool) : Nat → Nat → Int32
  | _, 0 => -4
  | i, q + 1 => if P i then nI i else z_fnd P (i + 1) q
theorem z_fnd_congr {P P' : Nat → Bool} : ∀ (q r : Nat), (∀ i, r ≤ i → i < r + q → P i = P' i) → z_fnd P r q = z_fnd P' r q
  | 0, _, _ => rfl
  | q + 1, r, h => by
    unfold z_fnd
    rw [h r (by omega) (by omega), z_fnd_congr q (r + 1) (fun i h1 h2 => h i (by omega) (by omega))]
def z_most (k : Nat) : Nat := if k = 0 then 15 else if k = 1 then 8 else if k = 2 then 3 else if k = 3 then 1 else 99
def z_lineV (k t m s : Int32) (h : Bool) (w : Nat) : Int32 := if w = 0 then k else if w = 1 then t else if w = 2 then (if k.toInt = 5 then -12 else m) else if w = 3 then s else if h then nI 1 else nI 0
section BOOK2
variable {l : Launch} {g : zG} {d m0 m1 md : Nat} {M : zM} {L : Nat} {kc : Nat → Nat}
theorem C_X10_writes (hL : M 99 25 = nI L) (hL2 : L < 48) {k t m : Int32} {Q : zS → zM → Prop} (hQ : Q (ZS m0 m1 md) (z_st (z_st (z_st (z_st M 121 L k) 122 L t) 123 L m) 99 25 (nI (L + 1)))) : AMet l g yX10_writes cX10_writes 4 none d 0 0 [.ref 99, .int k, .int t, .int m] (ZS m0 m1 md) M (z_Qv Q) := by
  refine AMet.of (ini := false) rfl (fun h => by first | rfl | cases h) (Nat.le_of_ble_eq_true rfl) ?_
  show AW l g RX10 cX10_writes 4 none false _ _ _ 0 [some (.ref 99), some (.int k), some (.int t), some (.int m)] [] _ _ _
  refine AW.aload_n 1 dX10_writes_0 rfl rfl ?_
  refine AW.getR 4 dX10_writes_1 fX10_78 rfl (zI rfl rfl) rfl rfl ?_
  refine AW.aload_n 5 dX10_writes_4 rfl rfl ?_
  refine AW.getI 8 dX10_writes_5 fX10_209 rfl (zI rfl rfl) rfl ?_
  refine AW.topi (nI L) hL ?_
  refine AW.iload_n 9 dX10_writes_8 rfl rfl ?_
  refine AW.iast 10 dX10_writes_9 (zA rfl rfl) rfl (by omega) (by decide) rfl ?_
  refine AW.aload_n 11 dX10_writes_10 rfl rfl ?_
  refine AW.getR 14 dX10_writes_11 fX10_81 rfl (zI rfl rfl) rfl rfl ?_
  refine AW.aload_n 15 dX10_writes_14 rfl rfl ?_
  refine AW.getI 18 dX10_writes_15 fX10_209 rfl (zI rfl rfl) rfl ?_
  refine AW.topi (nI L) hL ?_
  refine AW.iload_n 19 dX10_writes_18 rfl rfl ?_
  refine AW.iast 20 dX10_writes_19 (zA rfl rfl) rfl (by omega) (by decide) rfl ?_
  refine AW.aload_n 21 dX10_writes_20 rfl rfl ?_
  refine AW.getR 24 dX10_writes_21 fX10_84 rfl (zI rfl rfl) rfl rfl ?_
  refine AW.aload_n 25 dX10_writes_24 rfl rfl ?_
  refine AW.getI 28 dX10_writes_25 fX10_209 rfl (zI rfl rfl) rfl ?_
  refine AW.topi (nI L) hL ?_
  refine AW.iload_n 29 dX10_writes_28 rfl rfl ?_
  refine AW.iast 30 dX10_writes_29 (zA rfl rfl) rfl (by omega) (by decide) rfl ?_
  refine AW.aload_n 31 dX10_writes_30 rfl rfl ?_
  refine AW.dup 32 dX10_writes_31 rfl rfl ?_
  refine AW.getI 35 dX10_writes_32 fX10_209 rfl (zI rfl rfl) rfl ?_
  refine AW.topi (nI L) hL ?_
  refine AW.iconst 36 (nI 1) dX10_writes_35 (by decide) rfl ?_
  refine AW.iaddN 37 dX10_writes_36 rfl ?_
  refine AW.putI 40 .int dX10_writes_37 pX10_209 rfl (zI rfl rfl) rfl rfl rfl ?_
  refine AW.vret dX10_writes_40 rfl rfl ⟨rfl, ?_⟩
  exact hQ
theorem C_X0_add (hL : M 70 1 = nI L) (hL2 : L < 48) {k t m : Int32} {Q : zS → zM → Prop} (hQ : Q (ZS m0 m1 md) (z_st (z_st (z_st (z_st M 72 L k) 73 L t) 74 L m) 70 1 (nI (L + 1)))) : AMet l g yX0_add cX0_add 4 none d 0 0 [.ref 70, .int k, .int t, .int m] (ZS m0 m1 md) M (z_Qv Q) := by
  refine AMet.of (ini := false) rfl (fun h => by first | rfl | cases h) (Nat.le_of_ble_eq_true rfl) ?_
  show AW l g RX0 cX0_add 4 none false _ _ _ 0 [some (.ref 70), some (.int k), some (.int t), some (.int m)] [] _ _ _
  refine AW.aload_n 1 dX0_add_0 rfl rfl ?_
  refine AW.getI 4 dX0_add_1 fX0_16 rfl (zI rfl rfl) rfl ?_
  refine AW.topi (nI L) hL ?_
  refine AW.bipush 6 (nI 48) dX0_add_4 (by decide) rfl ?_
  refine AW.icmpN_ge 9 55 dX0_add_6 (by decide) rfl (by omega) (by omega) (fun b6 => absurd b6 (by omega)) (fun b6 => ?_)
  refine AW.aload_n 10 dX0_add_9 rfl rfl ?_
  refine AW.getR 13 dX0_add_10 fX0_11 rfl (zI rfl rfl) rfl rfl ?_
  refine AW.iconst 14 (nI 0) dX0_add_13 (by decide) rfl ?_
  refine AW.aald 15 dX0_add_14 (zA rfl rfl) (by decide) rfl (by omega) (by decide) rfl rfl ?_
  refine AW.aload_n 16 dX0_add_15 rfl rfl ?_
  refine AW.getI 19 dX0_add_16 fX0_16 rfl (zI rfl rfl) rfl ?_
  refine AW.topi (nI L) hL ?_
  refine AW.iload_n 20 dX0_add_19 rfl rfl ?_
  refine AW.iast 21 dX0_add_20 (zA rfl rfl) rfl (by omega) (by decide) rfl ?_
  refine AW.aload_n 22 dX0_add_21 rfl rfl ?_
  refine AW.getR 25 dX0_add_22 fX0_11 rfl (zI rfl rfl) rfl rfl ?_
  refine AW.iconst 26 (nI 1) dX0_add_25 (by decide) rfl ?_
  refine AW.aald 27 dX0_add_26 (zA rfl rfl) (by decide) rfl (by omega) (by decide) rfl rfl ?_
  refine AW.aload_n 28 dX0_add_27 rfl rfl ?_
  refine AW.getI 31 dX0_add_28 fX0_16 rfl (zI rfl rfl) rfl ?_
  refine AW.topi (nI L) hL ?_
  refine AW.iload_n 32 dX0_add_31 rfl rfl ?_
  refine AW.iast 33 dX0_add_32 (zA rfl rfl) rfl (by omega) (by decide) rfl ?_
  refine AW.aload_n 34 dX0_add_33 rfl rfl ?_
  refine AW.getR 37 dX0_add_34 fX0_11 rfl (zI rfl rfl) rfl rfl ?_
  refine AW.iconst 38 (nI 2) dX0_add_37 (by decide) rfl ?_
  refine AW.aald 39 dX0_add_38 (zA rfl rfl) (by decide) rfl (by omega) (by decide) rfl rfl ?_
  refine AW.aload_n 40 dX0_add_39 rfl rfl ?_
  refine AW.getI 43 dX0_add_40 fX0_16 rfl (zI rfl rfl) rfl ?_
  refine AW.topi (nI L) hL ?_
  refine AW.iload_n 44 dX0_add_43 rfl rfl ?_
  refine AW.iast 45 dX0_add_44 (zA rfl rfl) rfl (by omega) (by decide) rfl ?_
  refine AW.aload_n 46 dX0_add_45 rfl rfl ?_
  refine AW.dup 47 dX0_add_46 rfl rfl ?_
  refine AW.getI 50 dX0_add_47 fX0_16 rfl (zI rfl rfl) rfl ?_
  refine AW.topi (nI L) hL ?_
  refine AW.iconst 51 (nI 1) dX0_add_50 (by decide) rfl ?_
  refine AW.iaddN 52 dX0_add_51 rfl ?_
  refine AW.putI 55 .int dX0_add_52 pX0_16 rfl (zI rfl rfl) rfl rfl rfl ?_
  refine AW.vret dX0_add_55 rfl rfl ⟨rfl, ?_⟩
  exact hQ
theorem C_X10_tell (hL : M 99 25 = nI L) (hL2 : L ≤ 48) {t m : Int32} {Q : Int32 → zS → zM → Prop} (hbad : ¬ (0 ≤ t.toInt ∧ t.toInt ≤ 11 ∧ 0 ≤ m.toInt ∧ m.toInt ≤ 99) → Q (-1) (ZS m0 m1 md) M) (hfull : (0 ≤ t.toInt ∧ t.toInt ≤ 11 ∧ 0 ≤ m.toInt ∧ m.toInt ≤ 99) → L = 48 → Q (-3) (ZS m0 m1 md) M) (hok : (0 ≤ t.toInt ∧ t.toInt ≤ 11 ∧ 0 ≤ m.toInt ∧ m.toInt ≤ 99) → L < 48 → Q (nI L) (ZS m0 m1 md) (z_st (z_st (z_st (z_st M 121 L (nI 4)) 122 L t) 123 L m) 99 25 (nI (L + 1)))) : AMet l g yX10_tell cX10_tell 3 (some .int) (d + 1) 0 0 [.ref 99, .int t, .int m] (ZS m0 m1 md) M (z_Qi Q) := by
  refine AMet.of (ini := false) rfl (fun h => by first | rfl | cases h) (Nat.le_of_ble_eq_true rfl) ?_
  show AW l g RX10 cX10_tell 3 (some .int) false _ _ _ 0 [some (.ref 99), some (.int t), some (.int m)] [] _ _ _
  refine AW.iload_n 1 dX10_tell_0 rfl rfl ?_
  refine AW.i2l 2 dX10_tell_1 rfl ?_
  refine AW.lconst 3 (lN 0) dX10_tell_2 rfl rfl ?_
  refine AW.ldc2 6 (lN 11) dX10_tell_3 qX10_220 rfl ?_
  refine AW.cSi3 9 dX10_tell_6 kX10_131 (Nat.le_of_ble_eq_true rfl) rfl (C_in (Int32.toInt_toInt64 _) (z_lN (by decide)) (z_lN (by decide)) (fun b6 => ?_) (fun b6 => ?_))
  · skip
    refine AW.if_eq 12 24 dX10_tell_9 (by decide) rfl (fun h => absurd h (by decide)) (fun _ => ?_)
    refine AW.iload_n 13 dX10_tell_12 rfl rfl ?_
    refine AW.i2l 14 dX10_tell_13 rfl ?_
    refine AW.lconst 15 (lN 0) dX10_tell_14 rfl rfl ?_
    refine AW.ldc2 18 (lN 99) dX10_tell_15 qX10_222 rfl ?_
    refine AW.cSi3 21 dX10_tell_18 kX10_131 (Nat.le_of_ble_eq_true rfl) rfl (C_in (Int32.toInt_toInt64 _) (z_lN (by decide)) (z_lN (by decide)) (fun b18 => ?_) (fun b18 => ?_))
    · skip
      refine AW.if_ne 24 26 dX10_tell_21 (by decide) rfl (fun _ => ?_) (fun h => absurd h (by decide))
      refine AW.aload_n 27 dX10_tell_26 rfl rfl ?_
      refine AW.getI 30 dX10_tell_27 fX10_209 rfl (zI rfl rfl) rfl ?_
      refine AW.topi (nI L) hL ?_
      refine AW.bipush 32 (nI 48) dX10_tell_30 (by decide) rfl ?_
      refine AW.icmpN_ne 35 38 dX10_tell_32 (by decide) rfl (by omega) (by omega) (fun b32 => ?_) (fun b32 => ?_)
      · skip
        refine AW.aload_n 39 dX10_tell_38 rfl rfl ?_
        refine AW.iconst 40 (nI 4) dX10_tell_39 (by decide) rfl ?_
        refine AW.iload_n 41 dX10_tell_40 rfl rfl ?_
        refine AW.iload_n 42 dX10_tell_41 rfl rfl ?_
        refine AW.cVv3 45 dX10_tell_42 kX10_212 (zI rfl rfl) (Nat.le_of_ble_eq_true rfl) rfl (C_X10_writes hL (by omega) ?_)
        refine AW.aload_n 46 dX10_tell_45 rfl rfl ?_
        refine AW.getI 49 dX10_tell_46 fX10_209 rfl (zI rfl rfl) rfl ?_
        refine AW.topi (nI (L + 1)) (by rw [z_st_at]; rfl) ?_
        refine AW.iconst 50 (nI 1) dX10_tell_49 (by decide) rfl ?_
        refine AW.isubN 51 dX10_tell_50 (by omega) rfl ?_
        refine AW.iret dX10_tell_51 .int rfl rfl rfl ⟨_, rfl, ?_⟩
        exact hok (by omega) (by omega)
      · skip
        refine AW.bipush 37 (-3) dX10_tell_35 (by decide) rfl ?_
        refine AW.iret dX10_tell_37 .int rfl rfl rfl ⟨_, rfl, ?_⟩
        exact hfull (by omega) (by omega)
    · skip
      refine AW.if_ne 24 26 dX10_tell_21 (by decide) rfl (fun h => absurd h (by decide)) (fun _ => ?_)
      refine AW.iconst 25 (-1) dX10_tell_24 (by decide) rfl ?_
      refine AW.iret dX10_tell_25 .int rfl rfl rfl ⟨_, rfl, ?_⟩
      exact hbad (by omega)
  · skip
    refine AW.if_eq 12 24 dX10_tell_9 (by decide) rfl (fun _ => ?_) (fun h => absurd h (by decide))
    refine AW.iconst 25 (-1) dX10_tell_24 (by decide) rfl ?_
    refine AW.iret dX10_tell_25 .int rfl rfl rfl ⟨_, rfl, ?_⟩
    exact hbad (by omega)
theorem C_X9_tell (hL : M 70 1 = nI L) (hL2 : L ≤ 48) {t m : Int32} {Q : Int32 → zS → zM → Prop} (hbad : ¬ (0 ≤ t.toInt ∧ t.toInt ≤ 11 ∧ 0 ≤ m.toInt ∧ m.toInt ≤ 99) → Q (-1) (ZS m0 m1 md) M) (hfull : (0 ≤ t.toInt ∧ t.toInt ≤ 11 ∧ 0 ≤ m.toInt ∧ m.toInt ≤ 99) → L = 48 → Q (-3) (ZS m0 m1 md) M) (hok : (0 ≤ t.toInt ∧ t.toInt ≤ 11 ∧ 0 ≤ m.toInt ∧ m.toInt ≤ 99) → L < 48 → ∀ M', (∀ c, c ≠ 75 → M' c = z_st (z_st (z_st (z_st M 72 L (nI 4)) 73 L t) 74 L m) 70 1 (nI (L + 1)) c) → (∀ i, i < L + 1 → M' 75 i = z_sealF (M' 72) (M' 73) (M' 74) (i + 1)) → Q (nI L) (ZS m0 m1 md) M') : AMet l g yX9_tell cX9_tell 3 (some .int) (d + 1) 0 0 [.ref 0, .int t, .int m] (ZS m0 m1 md) M (z_Qi Q) := by
  refine AMet.of (ini := false) rfl (fun h => by first | rfl | cases h) (Nat.le_of_ble_eq_true rfl) ?_
  show AW l g RX9 cX9_tell 3 (some .int) false _ _ _ 0 [some (.ref 0), some (.int t), some (.int m)] [] _ _ _
  refine AW.iload_n 1 dX9_tell_0 rfl rfl ?_
  refine AW.bipush 3 (nI 11) dX9_tell_1 (by decide) rfl ?_
  refine AW.cSi2 6 dX9_tell_3 kX9_120 (Nat.le_of_ble_eq_true rfl) rfl (C_beyond rfl (by decide : (nI 11).toInt = 11) (fun b3 => ?_) (fun b3 => ?_))
  · skip
    refine AW.if_ne 9 18 dX9_tell_6 (by decide) rfl (fun _ => ?_) (fun h => absurd h (by decide))
    refine AW.iconst 19 (-1) dX9_tell_18 (by decide) rfl ?_
    refine AW.iret dX9_tell_19 .int rfl rfl rfl ⟨_, rfl, ?_⟩
    exact hbad (by omega)
  · skip
    refine AW.if_ne 9 18 dX9_tell_6 (by decide) rfl (fun h => absurd h (by decide)) (fun _ => ?_)
    refine AW.iload_n 10 dX9_tell_9 rfl rfl ?_
    refine AW.bipush 12 (nI 99) dX9_tell_10 (by decide) rfl ?_
    refine AW.cSi2 15 dX9_tell_12 kX9_120 (Nat.le_of_ble_eq_true rfl) rfl (C_beyond rfl (by decide : (nI 99).toInt = 99) (fun b12 => ?_) (fun b12 => ?_))
    · skip
      refine AW.if_eq 18 20 dX9_tell_15 (by decide) rfl (fun h => absurd h (by decide)) (fun _ => ?_)
      refine AW.iconst 19 (-1) dX9_tell_18 (by decide) rfl ?_
      refine AW.iret dX9_tell_19 .int rfl rfl rfl ⟨_, rfl, ?_⟩
      exact hbad (by omega)
    · skip
      refine AW.if_eq 18 20 dX9_tell_15 (by decide) rfl (fun _ => ?_) (fun h => absurd h (by decide))
      refine AW.aload_n 21 dX9_tell_20 rfl rfl ?_
      refine AW.getR 24 dX9_tell_21 fX9_53 rfl (zI rfl rfl) rfl rfl ?_
      refine AW.getI 27 dX9_tell_24 fX9_173 rfl (zI rfl rfl) rfl ?_
      refine AW.topi (nI L) hL ?_
      refine AW.bipush 29 (nI 48) dX9_tell_27 (by decide) rfl ?_
      refine AW.icmpN_lt 32 35 dX9_tell_29 (by decide) rfl (by omega) (by omega) (fun b29 => ?_) (fun b29 => ?_)
      · skip
        refine AW.aload_n 36 dX9_tell_35 rfl rfl ?_
        refine AW.getR 39 dX9_tell_36 fX9_53 rfl (zI rfl rfl) rfl rfl ?_
        refine AW.iconst 40 (nI 4) dX9_tell_39 (by decide) rfl ?_
        refine AW.iload_n 41 dX9_tell_40 rfl rfl ?_
        refine AW.iload_n 42 dX9_tell_41 rfl rfl ?_
        refine AW.cVv3 45 dX9_tell_42 kX9_177 (zI rfl rfl) (Nat.le_of_ble_eq_true rfl) rfl (C_X0_add hL (by omega) ?_)
        refine AW.aload_n 46 dX9_tell_45 rfl rfl ?_
        refine AW.getR 49 dX9_tell_46 fX9_53 rfl (zI rfl rfl) rfl rfl ?_
        refine AW.cVv0 52 dX9_tell_49 kX9_192 (zI rfl rfl) (Nat.le_of_ble_eq_true rfl) rfl (C_X0_sealAll (L := L + 1) (by rw [z_st_at]; rfl) (by omega) (fun M1 h1 h2 => ?_))
        refine AW.aload_n 53 dX9_tell_52 rfl rfl ?_
        refine AW.getR 56 dX9_tell_53 fX9_53 rfl (zI rfl rfl) rfl rfl ?_
        refine AW.getI 59 dX9_tell_56 fX9_173 rfl (zI rfl rfl) rfl ?_
        refine AW.topi (nI (L + 1)) (by rw [h1 70 (by decide), z_st_at]; rfl) ?_
        refine AW.iconst 60 (nI 1) dX9_tell_59 (by decide) rfl ?_
        refine AW.isubN 61 dX9_tell_60 (by omega) rfl ?_
        refine AW.iret dX9_tell_61 .int rfl rfl rfl ⟨_, rfl, ?_⟩
        refine hok (by omega) (by omega) M1 h1 (fun i hi => ?_)
        rw [h1 72 (by decide), h1 73 (by decide), h1 74 (by decide)]; exact h2 i hi
      · skip
        refine AW.bipush 34 (-3) dX9_tell_32 (by decide) rfl ?_
        refine AW.iret dX9_tell_34 .int rfl rfl rfl ⟨_, rfl, ?_⟩
        exact hfull (by omega) (by omega)
theorem C_X10_mostOf {k : Nat} (hk : k ≤ 5) {S : zS} {Q : Int32 → zS → zM → Prop} (hQ : Q (nI (z_most k)) S M) : AMet l g yX10_mostOf cX10_mostOf 1 (some .int) d 0 0 [.int (nI k)] S M (z_Qi Q) := by
  unfold z_most at hQ
  refine AMet.of (ini := false) rfl (fun h => by first | rfl | cases h) (Nat.le_of_ble_eq_true rfl) ?_
  show AW l g RX10 cX10_mostOf 1 (some .int) false _ _ _ 0 [some (.int (nI k))] [] _ _ _
  refine AW.iload_n 1 dX10_mostOf_0 rfl rfl ?_
  refine AW.ifN_ne 4 9 dX10_mostOf_1 (by decide) rfl (by omega) (fun b1 => ?_) (fun b1 => ?_)
  · skip
    refine AW.iload_n 10 dX10_mostOf_9 rfl rfl ?_
    refine AW.iconst 11 (nI 1) dX10_mostOf_10 (by decide) rfl ?_
    refine AW.icmpN_ne 14 19 dX10_mostOf_11 (by decide) rfl (by omega) (by omega) (fun b11 => ?_) (fun b11 => ?_)
    · skip
      refine AW.iload_n 20 dX10_mostOf_19 rfl rfl ?_
      refine AW.iconst 21 (nI 2) dX10_mostOf_20 (by decide) rfl ?_
      refine AW.icmpN_ne 24 28 dX10_mostOf_21 (by decide) rfl (by omega) (by omega) (fun b21 => ?_) (fun b21 => ?_)
      · skip
        refine AW.iload_n 29 dX10_mostOf_28 rfl rfl ?_
        refine AW.iconst 30 (nI 3) dX10_mostOf_29 (by decide) rfl ?_
        refine AW.icmpN_ne 33 37 dX10_mostOf_30 (by decide) rfl (by omega) (by omega) (fun b30 => ?_) (fun b30 => ?_)
        · skip
          refine AW.bipush 39 (nI 99) dX10_mostOf_37 (by decide) rfl ?_
          refine AW.iret dX10_mostOf_39 .int rfl rfl rfl ⟨_, rfl, ?_⟩
          (repeat' split at hQ) <;> first | exact hQ | (exfalso; omega)
        · skip
          refine AW.iconst 34 (nI 1) dX10_mostOf_33 (by decide) rfl ?_
          refine AW.goto 39 dX10_mostOf_34 (by decide) ?_
          refine AW.iret dX10_mostOf_39 .int rfl rfl rfl ⟨_, rfl, ?_⟩
          (repeat' split at hQ) <;> first | exact hQ | (exfalso; omega)
      · skip
        refine AW.iconst 25 (nI 3) dX10_mostOf_24 (by decide) rfl ?_
        refine AW.goto 39 dX10_mostOf_25 (by decide) ?_
        refine AW.iret dX10_mostOf_39 .int rfl rfl rfl ⟨_, rfl, ?_⟩
        (repeat' split at hQ) <;> first | exact hQ | (exfalso; omega)
    · skip
      refine AW.bipush 16 (nI 8) dX10_mostOf_14 (by decide) rfl ?_
      refine AW.goto 39 dX10_mostOf_16 (by decide) ?_
      refine AW.iret dX10_mostOf_39 .int rfl rfl rfl ⟨_, rfl, ?_⟩
      (repeat' split at hQ) <;> first | exact hQ | (exfalso; omega)
  · skip
    refine AW.bipush 6 (nI 15) dX10_mostOf_4 (by decide) rfl ?_
    refine AW.goto 39 dX10_mostOf_6 (by decide) ?_
    refine AW.iret dX10_mostOf_39 .int rfl rfl rfl ⟨_, rfl, ?_⟩
    (repeat' split at hQ) <;> first | exact hQ | (exfalso; omega)
theorem C_X10_forge (hL : M 99 25 = nI L) (hL2 : L ≤ 48) {kd : Nat → Nat} (hkd : ∀ i, i < L → M 121 i = nI (kd i) ∧ kd i ≤ 5) {i m : Int32} {Q : Int32 → zS → zM → Prop} (hbad : ¬ (0 ≤ i.toInt ∧ i.toInt < L ∧ 0 ≤ m.toInt ∧ m.toInt ≤ z_most (kd i.toNatClampNeg)) → Q (-1) (ZS m0 m1 md) M) (hlost : ∀ a, a < L → i = nI a → kd a = 5 → (0 ≤ m.toInt ∧ m.toInt ≤ z_most (kd a)) → Q (-12) (ZS m0 m1 md) M) (hok : ∀ a, a < L → i = nI a → ¬ kd a = 5 → (0 ≤ m.toInt ∧ m.toInt ≤ z_most (kd a)) → Q (M 123 a) (ZS m0 m1 md) (z_st M 123 a m)) : AMet l g yX10_forge cX10_forge 4 (some .int) (d + 2) 0 0 [.ref 99, .int i, .int m] (ZS m0 m1 md) M (z_Qi Q) := by
  have hm : ∀ k, (z_most k : Int) ≤ 99 ∧ z_most k < 2 ^ 31 := fun k => by unfold z_most; (repeat' split) <;> omega
  have hmm : ∀ k, ((nI (z_most k)).toInt64).toInt = (z_most k : Int) := fun k => by rw [Int32.toInt_toInt64]; exact z_ti (hm _).2
  refine AMet.of (ini := false) rfl (fun h => by first | rfl | cases h) (Nat.le_of_ble_eq_true rfl) ?_
  show AW l g RX10 cX10_forge 4 (some .int) false _ _ _ 0 [some (.ref 99), some (.int i), some (.int m), none] [] _ _ _
  refine AW.aload_n 1 dX10_forge_0 rfl rfl ?_
  refine AW.iload_n 2 dX10_forge_1 rfl rfl ?_
  refine AW.cVi1 5 dX10_forge_2 kX10_224 (zI rfl rfl) (Nat.le_of_ble_eq_true rfl) rfl (C_X10_isLine hL hL2 (fun b2 => ?_) (fun b2 => ?_))
  · skip
    obtain ⟨a, ha, rfl, ha2⟩ := z_nI (v := i) (n := 47) (by omega) (by omega)
    rw [nI_clamp (n := a) (by omega)] at hbad
    obtain ⟨d1, d2⟩ := hkd a (by omega)
    refine AW.if_eq 8 27 dX10_forge_5 (by decide) rfl (fun h => absurd h (by decide)) (fun _ => ?_)
    refine AW.iload_n 9 dX10_forge_8 rfl rfl ?_
    refine AW.i2l 10 dX10_forge_9 rfl ?_
    refine AW.lconst 11 (lN 0) dX10_forge_10 rfl rfl ?_
    refine AW.aload_n 12 dX10_forge_11 rfl rfl ?_
    refine AW.getR 15 dX10_forge_12 fX10_78 rfl (zI rfl rfl) rfl rfl ?_
    refine AW.iload_n 16 dX10_forge_15 rfl rfl ?_
    refine AW.iald 17 dX10_forge_16 (zA rfl rfl) rfl (by omega) (by decide) rfl ?_
    refine AW.topi (nI (kd a)) d1 ?_
    refine AW.cSi1 20 dX10_forge_17 kX10_235 (Nat.le_of_ble_eq_true rfl) rfl (C_X10_mostOf d2 ?_)
    refine AW.i2l 21 dX10_forge_20 rfl ?_
    refine AW.cSi3 24 dX10_forge_21 kX10_131 (Nat.le_of_ble_eq_true rfl) rfl (C_in (Int32.toInt_toInt64 _) (z_lN (by decide)) (hmm _) (fun b21 => ?_) (fun b21 => ?_))
    · skip
      refine AW.if_ne 27 29 dX10_forge_24 (by decide) rfl (fun _ => ?_) (fun h => absurd h (by decide))
      refine AW.aload_n 30 dX10_forge_29 rfl rfl ?_
      refine AW.getR 33 dX10_forge_30 fX10_78 rfl (zI rfl rfl) rfl rfl ?_
      refine AW.iload_n 34 dX10_forge_33 rfl rfl ?_
      refine AW.iald 35 dX10_forge_34 (zA rfl rfl) rfl (by omega) (by decide) rfl ?_
      refine AW.topi (nI (kd a)) d1 ?_
      refine AW.iconst 36 (nI 5) dX10_forge_35 (by decide) rfl ?_
      refine AW.icmpN_ne 39 42 dX10_forge_36 (by decide) rfl (by omega) (by omega) (fun b36 => ?_) (fun b36 => ?_)
      · skip
        refine AW.aload_n 43 dX10_forge_42 rfl rfl ?_
        refine AW.getR 46 dX10_forge_43 fX10_84 rfl (zI rfl rfl) rfl rfl ?_
        refine AW.iload_n 47 dX10_forge_46 rfl rfl ?_
        refine AW.iald 48 dX10_forge_47 (zA rfl rfl) rfl (by omega) (by decide) rfl ?_
        refine AW.istn3 49 dX10_forge_48 (by decide) rfl rfl ?_
        refine AW.aload_n 50 dX10_forge_49 rfl rfl ?_
        refine AW.getR 53 dX10_forge_50 fX10_84 rfl (zI rfl rfl) rfl rfl ?_
        refine AW.iload_n 54 dX10_forge_53 rfl rfl ?_
        refine AW.iload_n 55 dX10_forge_54 rfl rfl ?_
        refine AW.iast 56 dX10_forge_55 (zA rfl rfl) rfl (by omega) (by decide) rfl ?_
        refine AW.iload_n 57 dX10_forge_56 rfl rfl ?_
        refine AW.iret dX10_forge_57 .int rfl rfl rfl ⟨_, rfl, ?_⟩
        exact hok a (by omega) rfl (by omega) (by omega)
      · skip
        refine AW.bipush 41 (-12) dX10_forge_39 (by decide) rfl ?_
        refine AW.iret dX10_forge_41 .int rfl rfl rfl ⟨_, rfl, ?_⟩
        exact hlost a (by omega) rfl (by omega) (by omega)
    · skip
      refine AW.if_ne 27 29 dX10_forge_24 (by decide) rfl (fun h => absurd h (by decide)) (fun _ => ?_)
      refine AW.iconst 28 (-1) dX10_forge_27 (by decide) rfl ?_
      refine AW.iret dX10_forge_28 .int rfl rfl rfl ⟨_, rfl, ?_⟩
      exact hbad (by omega)
  · skip
    refine AW.if_eq 8 27 dX10_forge_5 (by decide) rfl (fun _ => ?_) (fun h => absurd h (by decide))
    refine AW.iconst 28 (-1) dX10_forge_27 (by decide) rfl ?_
    refine AW.iret dX10_forge_28 .int rfl rfl rfl ⟨_, rfl, ?_⟩
    exact hbad (by omega)
theorem C_X9_forge (hL : M 70 1 = nI L) (hL2 : L ≤ 48) {kd : Nat → Nat} (hkd : ∀ i, i < L → M 72 i = nI (kd i) ∧ kd i ≤ 5) {i m : Int32} {Q : Int32 → zS → zM → Prop} (hbad : ¬ (0 ≤ i.toInt ∧ i.toInt < L ∧ 0 ≤ m.toInt ∧ m.toInt ≤ z_most (kd i.toNatClampNeg)) → Q (-1) (ZS m0 m1 md) M) (hlost : ∀ a, a < L → i = nI a → kd a = 5 → (0 ≤ m.toInt ∧ m.toInt ≤ z_most (kd a)) → Q (-12) (ZS m0 m1 md) M) (hok : ∀ a, a < L → i = nI a → ¬ kd a = 5 → (0 ≤ m.toInt ∧ m.toInt ≤ z_most (kd a)) → ∀ M', (∀ c, c ≠ 75 → M' c = z_st M 74 a m c) → (∀ i, i < L → M' 75 i = z_sealF (M' 72) (M' 73) (M' 74) (i + 1)) → Q (M 74 a) (ZS m0 m1 md) M') : AMet l g yX9_forge cX9_forge 4 (some .int) (d + 2) 0 0 [.ref 0, .int i, .int m] (ZS m0 m1 md) M (z_Qi Q) := by
  have hm : ∀ k, (z_most k : Int) ≤ 99 ∧ z_most k < 2 ^ 31 := fun k => by unfold z_most; (repeat' split) <;> omega
  have hv : ∀ k, k ≤ 5 → z_ev g 0 k = nI (z_most k) := fun k hk => by
    rcases (show k = 0 ∨ k = 1 ∨ k = 2 ∨ k = 3 ∨ k = 4 ∨ k = 5 by omega) with rfl | rfl | rfl | rfl | rfl | rfl <;> rfl
  refine AMet.of (ini := false) rfl (fun h => by first | rfl | cases h) (Nat.le_of_ble_eq_true rfl) ?_
  show AW l g RX9 cX9_forge 4 (some .int) false _ _ _ 0 [some (.ref 0), some (.int i), some (.int m), none] [] _ _ _
  refine AW.aload_n 1 dX9_forge_0 rfl rfl ?_
  refine AW.iload_n 2 dX9_forge_1 rfl rfl ?_
  refine AW.cVi1 5 dX9_forge_2 kX9_195 (zI rfl rfl) (Nat.le_of_ble_eq_true rfl) rfl (C_X9_noLine hL hL2 (fun b2 => ?_) (fun b2 => ?_))
  · skip
    refine AW.if_ne 8 30 dX9_forge_5 (by decide) rfl (fun _ => ?_) (fun h => absurd h (by decide))
    refine AW.iconst 31 (-1) dX9_forge_30 (by decide) rfl ?_
    refine AW.iret dX9_forge_31 .int rfl rfl rfl ⟨_, rfl, ?_⟩
    exact hbad (by omega)
  · skip
    obtain ⟨a, ha, rfl, ha2⟩ := z_nI (v := i) (n := 47) (by omega) (by omega)
    rw [nI_clamp (n := a) (by omega)] at hbad
    obtain ⟨d1, d2⟩ := hkd a (by omega)
    refine AW.if_ne 8 30 dX9_forge_5 (by decide) rfl (fun h => absurd h (by decide)) (fun _ => ?_)
    refine AW.iload_n 9 dX9_forge_8 rfl rfl ?_
    refine AW.gets 12 dX9_forge_9 (by decide : 0 < 4) qX9_208 rfl ?_
    refine AW.aload_n 13 dX9_forge_12 rfl rfl ?_
    refine AW.getR 16 dX9_forge_13 fX9_53 rfl (zI rfl rfl) rfl rfl ?_
    refine AW.getR 19 dX9_forge_16 fX9_198 rfl (zI rfl rfl) rfl rfl ?_
    refine AW.iconst 20 (nI 0) dX9_forge_19 (by decide) rfl ?_
    refine AW.aald 21 dX9_forge_20 (zA rfl rfl) (by decide) rfl (by omega) (by decide) rfl rfl ?_
    refine AW.iload_n 22 dX9_forge_21 rfl rfl ?_
    refine AW.iald 23 dX9_forge_22 (zA rfl rfl) rfl (by omega) (by decide) rfl ?_
    refine AW.topi (nI (kd a)) d1 ?_
    refine AW.eald 24 dX9_forge_23 (by decide) rfl (show kd a < 6 by omega) (show 6 < 2 ^ 31 by decide) rfl ?_
    refine AW.topi (nI (z_most (kd a))) (hv _ d2) ?_
    refine AW.cSi2 27 dX9_forge_24 kX9_120 (Nat.le_of_ble_eq_true rfl) rfl (C_beyond rfl (z_ti (hm _).2) (fun b24 => ?_) (fun b24 => ?_))
    · skip
      refine AW.if_eq 30 32 dX9_forge_27 (by decide) rfl (fun h => absurd h (by decide)) (fun _ => ?_)
      refine AW.iconst 31 (-1) dX9_forge_30 (by decide) rfl ?_
      refine AW.iret dX9_forge_31 .int rfl rfl rfl ⟨_, rfl, ?_⟩
      exact hbad (by omega)
    · skip
      refine AW.if_eq 30 32 dX9_forge_27 (by decide) rfl (fun _ => ?_) (fun h => absurd h (by decide))
      refine AW.aload_n 33 dX9_forge_32 rfl rfl ?_
      refine AW.getR 36 dX9_forge_33 fX9_53 rfl (zI rfl rfl) rfl rfl ?_
      refine AW.getR 39 dX9_forge_36 fX9_198 rfl (zI rfl rfl) rfl rfl ?_
      refine AW.iconst 40 (nI 0) dX9_forge_39 (by decide) rfl ?_
      refine AW.aald 41 dX9_forge_40 (zA rfl rfl) (by decide) rfl (by omega) (by decide) rfl rfl ?_
      refine AW.iload_n 42 dX9_forge_41 rfl rfl ?_
      refine AW.iald 43 dX9_forge_42 (zA rfl rfl) rfl (by omega) (by decide) rfl ?_
      refine AW.topi (nI (kd a)) d1 ?_
      refine AW.iconst 44 (nI 5) dX9_forge_43 (by decide) rfl ?_
      refine AW.icmpN_ne 47 50 dX9_forge_44 (by decide) rfl (by omega) (by omega) (fun b44 => ?_) (fun b44 => ?_)
      · skip
        refine AW.aload_n 51 dX9_forge_50 rfl rfl ?_
        refine AW.getR 54 dX9_forge_51 fX9_53 rfl (zI rfl rfl) rfl rfl ?_
        refine AW.getR 57 dX9_forge_54 fX9_198 rfl (zI rfl rfl) rfl rfl ?_
        refine AW.iconst 58 (nI 2) dX9_forge_57 (by decide) rfl ?_
        refine AW.aald 59 dX9_forge_58 (zA rfl rfl) (by decide) rfl (by omega) (by decide) rfl rfl ?_
        refine AW.iload_n 60 dX9_forge_59 rfl rfl ?_
        refine AW.iald 61 dX9_forge_60 (zA rfl rfl) rfl (by omega) (by decide) rfl ?_
        refine AW.istn3 62 dX9_forge_61 (by decide) rfl rfl ?_
        refine AW.aload_n 63 dX9_forge_62 rfl rfl ?_
        refine AW.getR 66 dX9_forge_63 fX9_53 rfl (zI rfl rfl) rfl rfl ?_
        refine AW.getR 69 dX9_forge_66 fX9_198 rfl (zI rfl rfl) rfl rfl ?_
        refine AW.iconst 70 (nI 2) dX9_forge_69 (by decide) rfl ?_
        refine AW.aald 71 dX9_forge_70 (zA rfl rfl) (by decide) rfl (by omega) (by decide) rfl rfl ?_
        refine AW.iload_n 72 dX9_forge_71 rfl rfl ?_
        refine AW.iload_n 73 dX9_forge_72 rfl rfl ?_
        refine AW.iast 74 dX9_forge_73 (zA rfl rfl) rfl (by omega) (by decide) rfl ?_
        refine AW.aload_n 75 dX9_forge_74 rfl rfl ?_
        refine AW.getR 78 dX9_forge_75 fX9_53 rfl (zI rfl rfl) rfl rfl ?_
        refine AW.cVv0 81 dX9_forge_78 kX9_192 (zI rfl rfl) (Nat.le_of_ble_eq_true rfl) rfl (C_X0_sealAll (L := L) (by rw [z_st_ne (by decide : (70 : Nat) ≠ 74)]; exact hL) (by omega) (fun M1 h1 h2 => ?_))
        refine AW.iload_n 82 dX9_forge_81 rfl rfl ?_
        refine AW.iret dX9_forge_82 .int rfl rfl rfl ⟨_, rfl, ?_⟩
        refine hok a (by omega) rfl (by omega) (by omega) M1 h1 (fun i hi => ?_)
        rw [h1 72 (by decide), h1 73 (by decide), h1 74 (by decide)]; exact h2 i hi
      · skip
        refine AW.bipush 49 (-12) dX9_forge_47 (by decide) rfl ?_
        refine AW.iret dX9_forge_49 .int rfl rfl rfl ⟨_, rfl, ?_⟩
        exact hlost a (by omega) rfl (by omega) (by omega)
theorem C_X10_moves {a b : Nat} (ha : a < 48) (hb : b < 48) {Q : zS → zM → Prop} (hQ : Q (ZS m0 m1 md) (z_st (z_st (z_st M 121 b (M 121 a)) 122 b (M 122 a)) 123 b (M 123 a))) : AMet l g yX10_moves cX10_moves 3 none d 0 0 [.ref 99, .int (nI a), .int (nI b)] (ZS m0 m1 md) M (z_Qv Q) := by
  refine AMet.of (ini := false) rfl (fun h => by first | rfl | cases h) (Nat.le_of_ble_eq_true rfl) ?_
  show AW l g RX10 cX10_moves 3 none false _ _ _ 0 [some (.ref 99), some (.int (nI a)), some (.int (nI b))] [] _ _ _
  refine AW.aload_n 1 dX10_moves_0 rfl rfl ?_
  refine AW.getR 4 dX10_moves_1 fX10_78 rfl (zI rfl rfl) rfl rfl ?_
  refine AW.iload_n 5 dX10_moves_4 rfl rfl ?_
  refine AW.aload_n 6 dX10_moves_5 rfl rfl ?_
  refine AW.getR 9 dX10_moves_6 fX10_78 rfl (zI rfl rfl) rfl rfl ?_
  refine AW.iload_n 10 dX10_moves_9 rfl rfl ?_
  refine AW.iald 11 dX10_moves_10 (zA rfl rfl) rfl (by omega) (by decide) rfl ?_
  refine AW.iast 12 dX10_moves_11 (zA rfl rfl) rfl (by omega) (by decide) rfl ?_
  refine AW.aload_n 13 dX10_moves_12 rfl rfl ?_
  refine AW.getR 16 dX10_moves_13 fX10_81 rfl (zI rfl rfl) rfl rfl ?_
  refine AW.iload_n 17 dX10_moves_16 rfl rfl ?_
  refine AW.aload_n 18 dX10_moves_17 rfl rfl ?_
  refine AW.getR 21 dX10_moves_18 fX10_81 rfl (zI rfl rfl) rfl rfl ?_
  refine AW.iload_n 22 dX10_moves_21 rfl rfl ?_
  refine AW.iald 23 dX10_moves_22 (zA rfl rfl) rfl (by omega) (by decide) rfl ?_
  refine AW.iast 24 dX10_moves_23 (zA rfl rfl) rfl (by omega) (by decide) rfl ?_
  refine AW.aload_n 25 dX10_moves_24 rfl rfl ?_
  refine AW.getR 28 dX10_moves_25 fX10_84 rfl (zI rfl rfl) rfl rfl ?_
  refine AW.iload_n 29 dX10_moves_28 rfl rfl ?_
  refine AW.aload_n 30 dX10_moves_29 rfl rfl ?_
  refine AW.getR 33 dX10_moves_30 fX10_84 rfl (zI rfl rfl) rfl rfl ?_
  refine AW.iload_n 34 dX10_moves_33 rfl rfl ?_
  refine AW.iald 35 dX10_moves_34 (zA rfl rfl) rfl (by omega) (by decide) rfl ?_
  refine AW.iast 36 dX10_moves_35 (zA rfl rfl) rfl (by omega) (by decide) rfl ?_
  refine AW.vret dX10_moves_36 rfl rfl ⟨rfl, ?_⟩
  exact hQ
def z_swp (f : Nat → Int32) (a b : Nat) : Nat → Int32 := upd (upd f a (f b)) b (f a)
theorem C_X10_swap (hL : M 99 25 = nI L) (hL2 : L ≤ 48) {i j : Int32} {Q : Int32 → zS → zM → Prop} (hbad : ¬ (0 ≤ i.toInt ∧ i.toInt < L ∧ 0 ≤ j.toInt ∧ j.toInt < L ∧ ¬ i.toInt = j.toInt) → Q (-1) (ZS m0 m1 md) M) (hok : ∀ a b, a < L → b < L → a ≠ b → i = nI a → j = nI b → ∀ M', (∀ c, c ≠ 121 → c ≠ 122 → c ≠ 123 → M' c = M c) → M' 121 = z_swp (M 121) a b → M' 122 = z_swp (M 122) a b → M' 123 = z_swp (M 123) a b → Q (nI 1) (ZS m0 m1 md) M') : AMet l g yX10_swap cX10_swap 6 (some .int) (d + 2) 0 0 [.ref 99, .int i, .int j] (ZS m0 m1 md) M (z_Qi Q) := by
  refine AMet.of (ini := false) rfl (fun h => by first | rfl | cases h) (Nat.le_of_ble_eq_true rfl) ?_
  show AW l g RX10 cX10_swap 6 (some .int) false _ _ _ 0 [some (.ref 99), some (.int i), some (.int j), none, none, none] [] _ _ _
  refine AW.aload_n 1 dX10_swap_0 rfl rfl ?_
  refine AW.iload_n 2 dX10_swap_1 rfl rfl ?_
  refine AW.cVi1 5 dX10_swap_2 kX10_224 (zI rfl rfl) (Nat.le_of_ble_eq_true rfl) rfl (C_X10_isLine hL hL2 (fun b2 => ?_) (fun b2 => ?_))
  · skip
    obtain ⟨a, ha, rfl, ha2⟩ := z_nI (v := i) (n := 47) (by omega) (by omega)
    refine AW.if_eq 8 21 dX10_swap_5 (by decide) rfl (fun h => absurd h (by decide)) (fun _ => ?_)
    refine AW.aload_n 9 dX10_swap_8 rfl rfl ?_
    refine AW.iload_n 10 dX10_swap_9 rfl rfl ?_
    refine AW.cVi1 13 dX10_swap_10 kX10_224 (zI rfl rfl) (Nat.le_of_ble_eq_true rfl) rfl (C_X10_isLine hL hL2 (fun b10 => ?_) (fun b10 => ?_))
    · skip
      obtain ⟨b, hb, rfl, hb2⟩ := z_nI (v := j) (n := 47) (by omega) (by omega)
      refine AW.if_eq 16 21 dX10_swap_13 (by decide) rfl (fun h => absurd h (by decide)) (fun _ => ?_)
      refine AW.iload_n 17 dX10_swap_16 rfl rfl ?_
      refine AW.iload_n 18 dX10_swap_17 rfl rfl ?_
      refine AW.icmpN_ne 21 23 dX10_swap_18 (by decide) rfl (by omega) (by omega) (fun b18 => ?_) (fun b18 => ?_)
      · skip
        refine AW.aload_n 24 dX10_swap_23 rfl rfl ?_
        refine AW.getR 27 dX10_swap_24 fX10_78 rfl (zI rfl rfl) rfl rfl ?_
        refine AW.iload_n 28 dX10_swap_27 rfl rfl ?_
        refine AW.iald 29 dX10_swap_28 (zA rfl rfl) rfl (by omega) (by decide) rfl ?_
        refine AW.istn3 30 dX10_swap_29 (by decide) rfl rfl ?_
        refine AW.aload_n 31 dX10_swap_30 rfl rfl ?_
        refine AW.getR 34 dX10_swap_31 fX10_81 rfl (zI rfl rfl) rfl rfl ?_
        refine AW.iload_n 35 dX10_swap_34 rfl rfl ?_
        refine AW.iald 36 dX10_swap_35 (zA rfl rfl) rfl (by omega) (by decide) rfl ?_
        refine AW.ist4 38 dX10_swap_36 (by decide) rfl rfl ?_
        refine AW.aload_n 39 dX10_swap_38 rfl rfl ?_
        refine AW.getR 42 dX10_swap_39 fX10_84 rfl (zI rfl rfl) rfl rfl ?_
        refine AW.iload_n 43 dX10_swap_42 rfl rfl ?_
        refine AW.iald 44 dX10_swap_43 (zA rfl rfl) rfl (by omega) (by decide) rfl ?_
        refine AW.ist5 46 dX10_swap_44 (by decide) rfl rfl ?_
        refine AW.aload_n 47 dX10_swap_46 rfl rfl ?_
        refine AW.iload_n 48 dX10_swap_47 rfl rfl ?_
        refine AW.iload_n 49 dX10_swap_48 rfl rfl ?_
        refine AW.cVv2 52 dX10_swap_49 kX10_239 (zI rfl rfl) (Nat.le_of_ble_eq_true rfl) rfl (C_X10_moves (by omega) (by omega) ?_)
        refine AW.aload_n 53 dX10_swap_52 rfl rfl ?_
        refine AW.getR 56 dX10_swap_53 fX10_78 rfl (zI rfl rfl) rfl rfl ?_
        refine AW.iload_n 57 dX10_swap_56 rfl rfl ?_
        refine AW.iload_n 58 dX10_swap_57 rfl rfl ?_
        refine AW.iast 59 dX10_swap_58 (zA rfl rfl) rfl (by omega) (by decide) rfl ?_
        refine AW.aload_n 60 dX10_swap_59 rfl rfl ?_
        refine AW.getR 63 dX10_swap_60 fX10_81 rfl (zI rfl rfl) rfl rfl ?_
        refine AW.iload_n 64 dX10_swap_63 rfl rfl ?_
        refine AW.iload 66 dX10_swap_64 rfl rfl ?_
        refine AW.iast 67 dX10_swap_66 (zA rfl rfl) rfl (by omega) (by decide) rfl ?_
        refine AW.aload_n 68 dX10_swap_67 rfl rfl ?_
        refine AW.getR 71 dX10_swap_68 fX10_84 rfl (zI rfl rfl) rfl rfl ?_
        refine AW.iload_n 72 dX10_swap_71 rfl rfl ?_
        refine AW.iload 74 dX10_swap_72 rfl rfl ?_
        refine AW.iast 75 dX10_swap_74 (zA rfl rfl) rfl (by omega) (by decide) rfl ?_
        refine AW.iconst 76 (nI 1) dX10_swap_75 (by decide) rfl ?_
        refine AW.iret dX10_swap_76 .int rfl rfl rfl ⟨_, rfl, ?_⟩
        refine hok a b (by omega) (by omega) (by omega) rfl rfl _ (fun c c1 c2 c3 => ?_) ?_ ?_ ?_
        · rw [z_st_ne c3, z_st_ne c2, z_st_ne c1, z_st_ne c3, z_st_ne c2, z_st_ne c1]
        · rfl
        · rfl
        · rfl
      · skip
        refine AW.iconst 22 (-1) dX10_swap_21 (by decide) rfl ?_
        refine AW.iret dX10_swap_22 .int rfl rfl rfl ⟨_, rfl, ?_⟩
        exact hbad (by omega)
    · skip
      refine AW.if_eq 16 21 dX10_swap_13 (by decide) rfl (fun _ => ?_) (fun h => absurd h (by decide))
      refine AW.iconst 22 (-1) dX10_swap_21 (by decide) rfl ?_
      refine AW.iret dX10_swap_22 .int rfl rfl rfl ⟨_, rfl, ?_⟩
      exact hbad (by omega)
  · skip
    refine AW.if_eq 8 21 dX10_swap_5 (by decide) rfl (fun _ => ?_) (fun h => absurd h (by decide))
    refine AW.iconst 22 (-1) dX10_swap_21 (by decide) rfl ?_
    refine AW.iret dX10_swap_22 .int rfl rfl rfl ⟨_, rfl, ?_⟩
    exact hbad (by omega)
theorem L_X0_exchange {a b : Nat} (ha : a < 48) (hb : b < 48) {Q : zS → zM → Prop} (hQ : ∀ M', (∀ c, c ≠ 72 → c ≠ 73 → c ≠ 74 → M' c = M c) → M' 72 = z_swp (M 72) a b → M' 73 = z_swp (M 73) a b → M' 74 = z_swp (M 74) a b → Q (ZS m0 m1 md) M') :
    ∀ (q k : Nat) (v4 : Option Value), k + q = 3 → ∀ M' : zM, (∀ c, (c < 72 ∨ 72 + k ≤ c) → M' c = M c) → (∀ c, c < k → M' (72 + c) = z_swp (M (72 + c)) a b) → AW l g RX0 cX0_exchange 5 none false d 0 0 2 [some (.ref 70), some (.int (nI a)), some (.int (nI b)), some (.int (nI k)), v4] [] (ZS m0 m1 md) M' (z_Qv Q) := by
  intro q
  induction q with
  | zero =>
    intro k v4 hk M' h1 h2
    have hk : k = 3 := by omega
    subst hk
    refine AW.iload_n 3 dX0_exchange_2 rfl rfl ?_
    refine AW.iconst 4 (nI 2) dX0_exchange_3 (by decide) rfl ?_
    refine AW.icmp_gt 7 49 dX0_exchange_4 (by decide) rfl (fun _ => ?_) (fun h => absurd h (by decide))
    refine AW.vret dX0_exchange_49 rfl rfl ⟨rfl, ?_⟩
    exact hQ M' (fun c c1 c2 c3 => h1 c (by omega)) (h2 0 (by omega)) (h2 1 (by omega)) (h2 2 (by omega))
  | succ q ih =>
    intro k v4 hk M' h1 h2
    have e := fun v => ih (k + 1) v (by omega)
    refine AW.iload_n 3 dX0_exchange_2 rfl rfl ?_
    refine AW.iconst 4 (nI 2) dX0_exchange_3 (by decide) rfl ?_
    refine AW.icmpN_gt 7 49 dX0_exchange_4 (by decide) rfl (by omega) (by omega) (fun b4 => absurd b4 (by omega)) (fun b4 => ?_)
    refine AW.aload_n 8 dX0_exchange_7 rfl rfl ?_
    refine AW.getR 11 dX0_exchange_8 fX0_11 rfl (zI rfl rfl) rfl rfl ?_
    refine AW.iload_n 12 dX0_exchange_11 rfl rfl ?_
    refine AW.aald 13 dX0_exchange_12 (zA rfl rfl) (by decide) rfl (by omega) (by decide) (zBk_r (by omega)) rfl ?_
    refine AW.iload_n 14 dX0_exchange_13 rfl rfl ?_
    refine AW.iald 15 dX0_exchange_14 (zBk_a (by omega)) rfl (by omega) (by decide) rfl ?_
    refine AW.ist4 17 dX0_exchange_15 (by decide) rfl rfl ?_
    refine AW.aload_n 18 dX0_exchange_17 rfl rfl ?_
    refine AW.getR 21 dX0_exchange_18 fX0_11 rfl (zI rfl rfl) rfl rfl ?_
    refine AW.iload_n 22 dX0_exchange_21 rfl rfl ?_
    refine AW.aald 23 dX0_exchange_22 (zA rfl rfl) (by decide) rfl (by omega) (by decide) (zBk_r (by omega)) rfl ?_
    refine AW.iload_n 24 dX0_exchange_23 rfl rfl ?_
    refine AW.aload_n 25 dX0_exchange_24 rfl rfl ?_
    refine AW.getR 28 dX0_exchange_25 fX0_11 rfl (zI rfl rfl) rfl rfl ?_
    refine AW.iload_n 29 dX0_exchange_28 rfl rfl ?_
    refine AW.aald 30 dX0_exchange_29 (zA rfl rfl) (by decide) rfl (by omega) (by decide) (zBk_r (by omega)) rfl ?_
    refine AW.iload_n 31 dX0_exchange_30 rfl rfl ?_
    refine AW.iald 32 dX0_exchange_31 (zBk_a (by omega)) rfl (by omega) (by decide) rfl ?_
    refine AW.iast 33 dX0_exchange_32 (zBk_a (by omega)) rfl (by omega) (by decide) rfl ?_
    refine AW.aload_n 34 dX0_exchange_33 rfl rfl ?_
    refine AW.getR 37 dX0_exchange_34 fX0_11 rfl (zI rfl rfl) rfl rfl ?_
    refine AW.iload_n 38 dX0_exchange_37 rfl rfl ?_
    refine AW.aald 39 dX0_exchange_38 (zA rfl rfl) (by decide) rfl (by omega) (by decide) (zBk_r (by omega)) rfl ?_
    refine AW.iload_n 40 dX0_exchange_39 rfl rfl ?_
    refine AW.iload 42 dX0_exchange_40 rfl rfl ?_
    refine AW.iast 43 dX0_exchange_42 (zBk_a (by omega)) rfl (by omega) (by decide) rfl ?_
    refine AW.iinc3 46 _ dX0_exchange_43 (z_inc1 _) (by decide) rfl rfl ?_
    refine AW.goto 2 dX0_exchange_46 (by decide) ?_
    refine e _ _ (fun c hc => ?_) (fun c hc => ?_)
    · rw [z_st_ne (by omega), z_st_ne (by omega)]; exact h1 c (by omega)
    · rcases Nat.lt_or_ge c k with h | h
      · rw [z_st_ne (by omega), z_st_ne (by omega)]; exact h2 c h
      · have : c = k := by omega
        subst this
        rw [z_st_at, z_st_at, h1 (72 + c) (by omega)]; rfl
theorem C_X0_exchange {a b : Nat} (ha : a < 48) (hb : b < 48) {Q : zS → zM → Prop} (hQ : ∀ M', (∀ c, c ≠ 72 → c ≠ 73 → c ≠ 74 → M' c = M c) → M' 72 = z_swp (M 72) a b → M' 73 = z_swp (M 73) a b → M' 74 = z_swp (M 74) a b → Q (ZS m0 m1 md) M') : AMet l g yX0_exchange cX0_exchange 5 none d 0 0 [.ref 70, .int (nI a), .int (nI b)] (ZS m0 m1 md) M (z_Qv Q) := by
  refine AMet.of (ini := false) rfl (fun h => by first | rfl | cases h) (Nat.le_of_ble_eq_true rfl) ?_
  show AW l g RX0 cX0_exchange 5 none false _ _ _ 0 [some (.ref 70), some (.int (nI a)), some (.int (nI b)), none, none] [] _ _ _
  refine AW.iconst 1 (nI 0) dX0_exchange_0 (by decide) rfl ?_
  refine AW.istn3 2 dX0_exchange_1 (by decide) rfl rfl ?_
  exact L_X0_exchange ha hb hQ 3 0 none (by omega) M (fun _ _ => rfl) (fun c hc => absurd hc (by omega))
theorem C_X9_swap (hL : M 70 1 = nI L) (hL2 : L ≤ 48) {i j : Int32} {Q : Int32 → zS → zM → Prop} (hbad : ¬ (0 ≤ i.toInt ∧ i.toInt < L ∧ 0 ≤ j.toInt ∧ j.toInt < L ∧ ¬ i.toInt = j.toInt) → Q (-1) (ZS m0 m1 md) M) (hok : ∀ a b, a < L → b < L → a ≠ b → i = nI a → j = nI b → ∀ M', (∀ c, c ≠ 72 → c ≠ 73 → c ≠ 74 → c ≠ 75 → M' c = M c) → M' 72 = z_swp (M 72) a b → M' 73 = z_swp (M 73) a b → M' 74 = z_swp (M 74) a b → (∀ i, i < L → M' 75 i = z_sealF (M' 72) (M' 73) (M' 74) (i + 1)) → Q (nI 1) (ZS m0 m1 md) M') : AMet l g yX9_swap cX9_swap 3 (some .int) (d + 2) 0 0 [.ref 0, .int i, .int j] (ZS m0 m1 md) M (z_Qi Q) := by
  refine AMet.of (ini := false) rfl (fun h => by first | rfl | cases h) (Nat.le_of_ble_eq_true rfl) ?_
  show AW l g RX9 cX9_swap 3 (some .int) false _ _ _ 0 [some (.ref 0), some (.int i), some (.int j)] [] _ _ _
  refine AW.aload_n 1 dX9_swap_0 rfl rfl ?_
  refine AW.iload_n 2 dX9_swap_1 rfl rfl ?_
  refine AW.cVi1 5 dX9_swap_2 kX9_195 (zI rfl rfl) (Nat.le_of_ble_eq_true rfl) rfl (C_X9_noLine hL hL2 (fun b2 => ?_) (fun b2 => ?_))
  · skip
    refine AW.if_ne 8 21 dX9_swap_5 (by decide) rfl (fun _ => ?_) (fun h => absurd h (by decide))
    refine AW.iconst 22 (-1) dX9_swap_21 (by decide) rfl ?_
    refine AW.iret dX9_swap_22 .int rfl rfl rfl ⟨_, rfl, ?_⟩
    exact hbad (by omega)
  · skip
    obtain ⟨a, ha, rfl, ha2⟩ := z_nI (v := i) (n := 47) (by omega) (by omega)
    refine AW.if_ne 8 21 dX9_swap_5 (by decide) rfl (fun h => absurd h (by decide)) (fun _ => ?_)
    refine AW.aload_n 9 dX9_swap_8 rfl rfl ?_
    refine AW.iload_n 10 dX9_swap_9 rfl rfl ?_
    refine AW.cVi1 13 dX9_swap_10 kX9_195 (zI rfl rfl) (Nat.le_of_ble_eq_true rfl) rfl (C_X9_noLine hL hL2 (fun b10 => ?_) (fun b10 => ?_))
    · skip
      refine AW.if_ne 16 21 dX9_swap_13 (by decide) rfl (fun _ => ?_) (fun h => absurd h (by decide))
      refine AW.iconst 22 (-1) dX9_swap_21 (by decide) rfl ?_
      refine AW.iret dX9_swap_22 .int rfl rfl rfl ⟨_, rfl, ?_⟩
      exact hbad (by omega)
    · skip
      obtain ⟨b, hb, rfl, hb2⟩ := z_nI (v := j) (n := 47) (by omega) (by omega)
      refine AW.if_ne 16 21 dX9_swap_13 (by decide) rfl (fun h => absurd h (by decide)) (fun _ => ?_)
      refine AW.iload_n 17 dX9_swap_16 rfl rfl ?_
      refine AW.iload_n 18 dX9_swap_17 rfl rfl ?_
      refine AW.icmpN_ne 21 23 dX9_swap_18 (by decide) rfl (by omega) (by omega) (fun b18 => ?_) (fun b18 => ?_)
      · skip
        refine AW.aload_n 24 dX9_swap_23 rfl rfl ?_
        refine AW.getR 27 dX9_swap_24 fX9_53 rfl (zI rfl rfl) rfl rfl ?_
        refine AW.iload_n 28 dX9_swap_27 rfl rfl ?_
        refine AW.iload_n 29 dX9_swap_28 rfl rfl ?_
        refine AW.cVv2 32 dX9_swap_29 kX9_211 (zI rfl rfl) (Nat.le_of_ble_eq_true rfl) rfl (C_X0_exchange (by omega) (by omega) (fun M1 h1 h2 h3 h4 => ?_))
        refine AW.aload_n 33 dX9_swap_32 rfl rfl ?_
        refine AW.getR 36 dX9_swap_33 fX9_53 rfl (zI rfl rfl) rfl rfl ?_
        refine AW.cVv0 39 dX9_swap_36 kX9_192 (zI rfl rfl) (Nat.le_of_ble_eq_true rfl) rfl (C_X0_sealAll (L := L) (by rw [h1 70 (by decide) (by decide) (by decide)]; exact hL) (by omega) (fun M2 k1 k2 => ?_))
        refine AW.iconst 40 (nI 1) dX9_swap_39 (by decide) rfl ?_
        refine AW.iret dX9_swap_40 .int rfl rfl rfl ⟨_, rfl, ?_⟩
        refine hok a b (by omega) (by omega) (by omega) rfl rfl M2 (fun c c1 c2 c3 c4 => by rw [k1 c c4, h1 c c1 c2 c3]) (by rw [k1 72 (by decide)]; exact h2) (by rw [k1 73 (by decide)]; exact h3) (by rw [k1 74 (by decide)]; exact h4) (fun i hi => ?_)
        rw [k1 72 (by decide), k1 73 (by decide), k1 74 (by decide)]; exact k2 i hi
      · skip
        refine AW.iconst 22 (-1) dX9_swap_21 (by decide) rfl ?_
        refine AW.iret dX9_swap_22 .int rfl rfl rfl ⟨_, rfl, ?_⟩
        exact hbad (by omega)
end BOOK2
