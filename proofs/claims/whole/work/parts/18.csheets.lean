def f_lk (z i n : Int32) : Prop := i.toInt < 0 ∨ n.toInt < 0 ∨ z.toInt - n.toInt < i.toInt
def f_find (M : zM) (b : Nat) (lane i n : Int32) : Int32 := if (M b 1).toInt = -4 then -11 else if ¬ (M b 1).toInt = lane.toInt then -12 else if i.toInt < 0 ∨ n.toInt < 0 ∨ (M b 2).toInt - n.toInt < i.toInt then -13 else nI 0
theorem f_find_ok {M : zM} {b : Nat} {lane i n : Int32} (h : 0 ≤ (f_find M b lane i n).toInt) : ¬ (M b 1).toInt = -4 ∧ (M b 1).toInt = lane.toInt ∧ ¬ i.toInt < 0 ∧ ¬ n.toInt < 0 ∧ i.toInt + n.toInt ≤ (M b 2).toInt := by
  unfold f_find at h
  repeat' split at h
  · exact absurd h (by decide)
  · exact absurd h (by decide)
  · exact absurd h (by decide)
  · omega
def f_sheet (M : zM) (s lane n : Int32) : Int32 × zM := if s.toInt < 0 ∨ 3 < s.toInt then (-1, M) else if lane.toInt < 0 ∨ 2 < lane.toInt then (-1, M) else if 48 < n.toInt then (-1, M) else if n.toInt < 0 then (-14, M) else
  (n, z_row (z_st (z_st M (91 + 2 * s.toNatClampNeg) 1 lane) (91 + 2 * s.toNatClampNeg) 2 n) (92 + 2 * s.toNatClampNeg) (z_fill (M (92 + 2 * s.toNatClampNeg)) 48 (nI 0)))
def f_drop (M : zM) (s : Int32) : Int32 × zM := if s.toInt < 0 ∨ 3 < s.toInt then (-1, M) else if (M (91 + 2 * s.toNatClampNeg) 1).toInt = -4 then (-11, M) else (M (91 + 2 * s.toNatClampNeg) 2, z_st M (91 + 2 * s.toNatClampNeg) 1 (-4))
def f_item (M : zM) (s lane i v : Int32) : Int32 × zM := if s.toInt < 0 ∨ 3 < s.toInt then (-1, M) else if lane.toInt < 0 ∨ 2 < lane.toInt then (-1, M) else if (f_find M (91 + 2 * s.toNatClampNeg) lane i (nI 1)).toInt < 0 then (f_find M (91 + 2 * s.toNatClampNeg) lane i (nI 1), M) else
  (nI 1, z_st M (92 + 2 * s.toNatClampNeg) i.toNatClampNeg (z_item lane v))
def f_copy (M : zM) (a i b j n : Int32) : Int32 × zM := if a.toInt < 0 ∨ 3 < a.toInt then (-1, M) else if b.toInt < 0 ∨ 3 < b.toInt then (-1, M) else
  if (M (91 + 2 * a.toNatClampNeg) 1).toInt = -4 then (-11, M) else if (M (91 + 2 * b.toNatClampNeg) 1).toInt = -4 then (-11, M) else if ¬ (M (91 + 2 * a.toNatClampNeg) 1).toInt = (M (91 + 2 * b.toNatClampNeg) 1).toInt then (-12, M) else
  if i.toInt < 0 ∨ n.toInt < 0 ∨ (M (91 + 2 * a.toNatClampNeg) 2).toInt - n.toInt < i.toInt then (-13, M) else if j.toInt < 0 ∨ n.toInt < 0 ∨ (M (91 + 2 * b.toNatClampNeg) 2).toInt - n.toInt < j.toInt then (-13, M) else
  (n, z_row M (92 + 2 * b.toNatClampNeg) (va_cpy (M (92 + 2 * a.toNatClampNeg)) (M (92 + 2 * b.toNatClampNeg)) i.toNatClampNeg j.toNatClampNeg n.toNatClampNeg))
theorem z_st_ne {M : zM} {k a i : Nat} {v : Int32} (h : a ≠ k) : z_st M k i v a = M a := va_up_ne _ _ h
theorem z_st_at (M : zM) (k i : Nat) (v : Int32) : z_st M k i v k = upd (M k) i v := va_up_self _ _ _
section CSHEET
variable {l : Launch} {g : zG} {d m0 m1 md : Nat} {M : zM}
theorem C_X9_noSheet {s : Int32} {Q : Int32 → zS → zM → Prop} (h1 : s.toInt < 0 ∨ 3 < s.toInt → Q (nI 1) (ZS m0 m1 md) M) (h0 : ¬ (s.toInt < 0 ∨ 3 < s.toInt) → Q (nI 0) (ZS m0 m1 md) M) : AMet l g yX9_noSheet cX9_noSheet 2 (some .boolean) (d + 1) 0 0 [.ref 0, .int s] (ZS m0 m1 md) M (z_Qi Q) := by
  refine AMet.of (ini := false) rfl (fun h => by first | rfl | cases h) (Nat.le_of_ble_eq_true rfl) ?_
  show AW l g RX9 cX9_noSheet 2 (some .boolean) false _ _ _ 0 [some (.ref 0), some (.int s)] [] _ _ _
  refine AW.iload_n 1 dX9_noSheet_0 rfl rfl ?_
  refine AW.aload_n 2 dX9_noSheet_1 rfl rfl ?_
  refine AW.getR 5 dX9_noSheet_2 fX9_85 rfl (zI rfl rfl) rfl rfl ?_
  refine AW.alen 6 dX9_noSheet_5 (zA rfl rfl) (by decide) (by decide) rfl ?_
  refine AW.iconst 7 (nI 1) dX9_noSheet_6 (by decide) rfl ?_
  refine AW.isubN 8 dX9_noSheet_7 (by decide) rfl ?_
  refine AW.cSi2 11 dX9_noSheet_8 kX9_120 (Nat.le_of_ble_eq_true rfl) rfl (C_beyond rfl (by decide : (nI (4 - 1)).toInt = 3) (fun b8 => ?_) (fun b8 => ?_))
  · skip
    refine AW.iret dX9_noSheet_11 .boolean rfl rfl rfl ⟨_, rfl, ?_⟩
    first | exact h1 (by omega) | exact h0 (by omega)
  · skip
    refine AW.iret dX9_noSheet_11 .boolean rfl rfl rfl ⟨_, rfl, ?_⟩
    first | exact h1 (by omega) | exact h0 (by omega)
theorem C_X5_lacks {k : Nat} (hk : k < 4) (hz : 0 ≤ (M (91 + 2 * k) 2).toInt ∧ (M (91 + 2 * k) 2).toInt ≤ 48) {i n : Int32} {Q : Int32 → zS → zM → Prop} (h1 : (i.toInt < 0 ∨ n.toInt < 0 ∨ (M (91 + 2 * k) 2).toInt - n.toInt < i.toInt) → Q (nI 1) (ZS m0 m1 md) M) (h0 : ¬ (i.toInt < 0 ∨ n.toInt < 0 ∨ (M (91 + 2 * k) 2).toInt - n.toInt < i.toInt) → Q (nI 0) (ZS m0 m1 md) M) : AMet l g yX5_lacks cX5_lacks 3 (some .boolean) d 0 0 [.ref (91 + 2 * k), .int i, .int n] (ZS m0 m1 md) M (z_Qi Q) := by
  have hn := Int32.toInt_lt n
  refine AMet.of (ini := false) rfl (fun h => by first | rfl | cases h) (Nat.le_of_ble_eq_true rfl) ?_
  show AW l g RX5 cX5_lacks 3 (some .boolean) false _ _ _ 0 [some (.ref (91 + 2 * k)), some (.int i), some (.int n)] [] _ _ _
  refine AW.iload_n 1 dX5_lacks_0 rfl rfl ?_
  refine AW.zif_lt 4 18 dX5_lacks_1 (by decide) rfl rfl (fun b1 => ?_) (fun b1 => ?_)
  · skip
    refine AW.iconst 19 (nI 1) dX5_lacks_18 (by decide) rfl ?_
    refine AW.goto 23 dX5_lacks_19 (by decide) ?_
    refine AW.iret dX5_lacks_23 .boolean rfl rfl rfl ⟨_, rfl, ?_⟩
    first | exact h1 (by omega) | exact h0 (by omega)
  · skip
    refine AW.iload_n 5 dX5_lacks_4 rfl rfl ?_
    refine AW.zif_lt 8 18 dX5_lacks_5 (by decide) rfl rfl (fun b5 => ?_) (fun b5 => ?_)
    · skip
      refine AW.iconst 19 (nI 1) dX5_lacks_18 (by decide) rfl ?_
      refine AW.goto 23 dX5_lacks_19 (by decide) ?_
      refine AW.iret dX5_lacks_23 .boolean rfl rfl rfl ⟨_, rfl, ?_⟩
      first | exact h1 (by omega) | exact h0 (by omega)
    · skip
      refine AW.iload_n 9 dX5_lacks_8 rfl rfl ?_
      refine AW.aload_n 10 dX5_lacks_9 rfl rfl ?_
      refine AW.getI 13 dX5_lacks_10 fX5_19 rfl (zSh_is hk) rfl ?_
      refine AW.iload_n 14 dX5_lacks_13 rfl rfl ?_
      refine AW.isub 15 dX5_lacks_14 rfl ?_
      refine AW.zicmp_le 18 22 dX5_lacks_15 (by decide) rfl rfl (z_sub_toInt _ _ (by omega) (by omega)) (fun b15 => ?_) (fun b15 => ?_)
      · skip
        refine AW.iconst 23 (nI 0) dX5_lacks_22 (by decide) rfl ?_
        refine AW.iret dX5_lacks_23 .boolean rfl rfl rfl ⟨_, rfl, ?_⟩
        first | exact h1 (by omega) | exact h0 (by omega)
      · skip
        refine AW.iconst 19 (nI 1) dX5_lacks_18 (by decide) rfl ?_
        refine AW.goto 23 dX5_lacks_19 (by decide) ?_
        refine AW.iret dX5_lacks_23 .boolean rfl rfl rfl ⟨_, rfl, ?_⟩
        first | exact h1 (by omega) | exact h0 (by omega)
theorem C_X5_findFault {k : Nat} (hk : k < 4) (hz : 0 ≤ (M (91 + 2 * k) 2).toInt ∧ (M (91 + 2 * k) 2).toInt ≤ 48) {lane i n : Int32} {Q : Int32 → zS → zM → Prop} (hQ : Q (f_find M (91 + 2 * k) lane i n) (ZS m0 m1 md) M) : AMet l g yX5_findFault cX5_findFault 4 (some .int) (d + 1) 0 0 [.ref (91 + 2 * k), .int lane, .int i, .int n] (ZS m0 m1 md) M (z_Qi Q) := by
  unfold f_find at hQ
  refine AMet.of (ini := false) rfl (fun h => by first | rfl | cases h) (Nat.le_of_ble_eq_true rfl) ?_
  show AW l g RX5 cX5_findFault 4 (some .int) false _ _ _ 0 [some (.ref (91 + 2 * k)), some (.int lane), some (.int i), some (.int n)] [] _ _ _
  refine AW.aload_n 1 dX5_findFault_0 rfl rfl ?_
  refine AW.getI 4 dX5_findFault_1 fX5_15 rfl (zSh_is hk) rfl ?_
  refine AW.bipush 6 (-4) dX5_findFault_4 (by decide) rfl ?_
  refine AW.zicmp_ne 9 12 dX5_findFault_6 (by decide) rfl rfl (by decide : (-4 : Int32).toInt = -4) (fun b6 => ?_) (fun b6 => ?_)
  · skip
    refine AW.aload_n 13 dX5_findFault_12 rfl rfl ?_
    refine AW.getI 16 dX5_findFault_13 fX5_15 rfl (zSh_is hk) rfl ?_
    refine AW.iload_n 17 dX5_findFault_16 rfl rfl ?_
    refine AW.zicmp_eq 20 23 dX5_findFault_17 (by decide) rfl rfl rfl (fun b17 => ?_) (fun b17 => ?_)
    · skip
      refine AW.aload_n 24 dX5_findFault_23 rfl rfl ?_
      refine AW.iload_n 25 dX5_findFault_24 rfl rfl ?_
      refine AW.iload_n 26 dX5_findFault_25 rfl rfl ?_
      refine AW.cVi2 29 dX5_findFault_26 kX5_28 (zSh_is hk) (Nat.le_of_ble_eq_true rfl) rfl (C_X5_lacks hk hz (fun b26 => ?_) (fun b26 => ?_))
      · skip
        refine AW.if_eq 32 37 dX5_findFault_29 (by decide) rfl (fun h => absurd h (by decide)) (fun _ => ?_)
        refine AW.bipush 34 (-13) dX5_findFault_32 (by decide) rfl ?_
        refine AW.goto 38 dX5_findFault_34 (by decide) ?_
        refine AW.iret dX5_findFault_38 .int rfl rfl rfl ⟨_, rfl, ?_⟩
        repeat' split at hQ
        all_goals first | exact hQ | (exfalso; omega)
      · skip
        refine AW.if_eq 32 37 dX5_findFault_29 (by decide) rfl (fun _ => ?_) (fun h => absurd h (by decide))
        refine AW.iconst 38 (nI 0) dX5_findFault_37 (by decide) rfl ?_
        refine AW.iret dX5_findFault_38 .int rfl rfl rfl ⟨_, rfl, ?_⟩
        repeat' split at hQ
        all_goals first | exact hQ | (exfalso; omega)
    · skip
      refine AW.bipush 22 (-12) dX5_findFault_20 (by decide) rfl ?_
      refine AW.iret dX5_findFault_22 .int rfl rfl rfl ⟨_, rfl, ?_⟩
      repeat' split at hQ
      all_goals first | exact hQ | (exfalso; omega)
  · skip
    refine AW.bipush 11 (-11) dX5_findFault_9 (by decide) rfl ?_
    refine AW.iret dX5_findFault_11 .int rfl rfl rfl ⟨_, rfl, ?_⟩
    repeat' split at hQ
    all_goals first | exact hQ | (exfalso; omega)
theorem C_X5_renew {k : Nat} (hk : k < 4) {lane n : Int32} {Q : zS → zM → Prop} (hQ : Q (ZS m0 m1 md) (z_row (z_st (z_st M (91 + 2 * k) 1 lane) (91 + 2 * k) 2 n) (92 + 2 * k) (z_fill (M (92 + 2 * k)) 48 (nI 0)))) : AMet l g yX5_renew cX5_renew 3 none (d + 1) 0 0 [.ref (91 + 2 * k), .int lane, .int n] (ZS m0 m1 md) M (z_Qv Q) := by
  refine AMet.of (ini := false) rfl (fun h => by first | rfl | cases h) (Nat.le_of_ble_eq_true rfl) ?_
  show AW l g RX5 cX5_renew 3 none false _ _ _ 0 [some (.ref (91 + 2 * k)), some (.int lane), some (.int n)] [] _ _ _
  refine AW.aload_n 1 dX5_renew_0 rfl rfl ?_
  refine AW.iload_n 2 dX5_renew_1 rfl rfl ?_
  refine AW.putI 5 .int dX5_renew_2 pX5_15 rfl (zSh_is hk) rfl rfl rfl ?_
  refine AW.aload_n 6 dX5_renew_5 rfl rfl ?_
  refine AW.iload_n 7 dX5_renew_6 rfl rfl ?_
  refine AW.putI 10 .int dX5_renew_7 pX5_19 rfl (zSh_is hk) rfl rfl rfl ?_
  refine AW.aload_n 11 dX5_renew_10 rfl rfl ?_
  refine AW.getR 14 dX5_renew_11 fX5_9 rfl (zSh_is hk) (zSh_r0 hk) rfl ?_
  refine AW.iconst 15 (nI 0) dX5_renew_14 (by decide) rfl ?_
  refine AW.cSv2 18 dX5_renew_15 kX5_22 (Nat.le_of_ble_eq_true rfl) rfl (C_fill (zSh_a hk) (by decide) ?_)
  refine AW.vret dX5_renew_18 rfl rfl ⟨rfl, ?_⟩
  rw [z_st_ne (by omega), z_st_ne (by omega)]
  exact hQ
theorem C_X9_sheet {s lane n : Int32} {Q : Int32 → zS → zM → Prop} (hQ : Q (f_sheet M s lane n).1 (ZS m0 m1 md) (f_sheet M s lane n).2) : AMet l g yX9_sheet cX9_sheet 4 (some .int) (d + 2) 0 0 [.ref 0, .int s, .int lane, .int n] (ZS m0 m1 md) M (z_Qi Q) := by
  unfold f_sheet at hQ
  refine AMet.of (ini := false) rfl (fun h => by first | rfl | cases h) (Nat.le_of_ble_eq_true rfl) ?_
  show AW l g RX9 cX9_sheet 4 (some .int) false _ _ _ 0 [some (.ref 0), some (.int s), some (.int lane), some (.int n)] [] _ _ _
  refine AW.aload_n 1 dX9_sheet_0 rfl rfl ?_
  refine AW.iload_n 2 dX9_sheet_1 rfl rfl ?_
  refine AW.cVi1 5 dX9_sheet_2 kX9_144 (zI rfl rfl) (Nat.le_of_ble_eq_true rfl) rfl (C_X9_noSheet (fun b2 => ?_) (fun b2 => ?_))
  · skip
    refine AW.if_ne 8 22 dX9_sheet_5 (by decide) rfl (fun _ => ?_) (fun h => absurd h (by decide))
    refine AW.iconst 23 (-1) dX9_sheet_22 (by decide) rfl ?_
    refine AW.iret dX9_sheet_23 .int rfl rfl rfl ⟨_, rfl, ?_⟩
    repeat' split at hQ
    all_goals first | exact hQ | (exfalso; omega)
  · skip
    obtain ⟨k, hk, rfl, hk2⟩ := z_nI (v := s) (n := 3) (by omega) (by omega)
    rw [nI_clamp (by omega)] at hQ
    refine AW.if_ne 8 22 dX9_sheet_5 (by decide) rfl (fun h => absurd h (by decide)) (fun _ => ?_)
    refine AW.iload_n 9 dX9_sheet_8 rfl rfl ?_
    refine AW.iconst 10 (nI 2) dX9_sheet_9 (by decide) rfl ?_
    refine AW.cSi2 13 dX9_sheet_10 kX9_120 (Nat.le_of_ble_eq_true rfl) rfl (C_beyond rfl (by decide : (nI 2).toInt = 2) (fun b10 => ?_) (fun b10 => ?_))
    · skip
      refine AW.if_ne 16 22 dX9_sheet_13 (by decide) rfl (fun _ => ?_) (fun h => absurd h (by decide))
      refine AW.iconst 23 (-1) dX9_sheet_22 (by decide) rfl ?_
      refine AW.iret dX9_sheet_23 .int rfl rfl rfl ⟨_, rfl, ?_⟩
      repeat' split at hQ
      all_goals first | exact hQ | (exfalso; omega)
    · skip
      refine AW.if_ne 16 22 dX9_sheet_13 (by decide) rfl (fun h => absurd h (by decide)) (fun _ => ?_)
      refine AW.iload_n 17 dX9_sheet_16 rfl rfl ?_
      refine AW.bipush 19 (nI 48) dX9_sheet_17 (by decide) rfl ?_
      refine AW.zicmp_le 22 24 dX9_sheet_19 (by decide) rfl rfl (by decide : (nI 48).toInt = 48) (fun b19 => ?_) (fun b19 => ?_)
      · skip
        refine AW.iload_n 25 dX9_sheet_24 rfl rfl ?_
        refine AW.zif_ge 28 31 dX9_sheet_25 (by decide) rfl rfl (fun b25 => ?_) (fun b25 => ?_)
        · skip
          refine AW.aload_n 32 dX9_sheet_31 rfl rfl ?_
          refine AW.getR 35 dX9_sheet_32 fX9_85 rfl (zI rfl rfl) rfl rfl ?_
          refine AW.iload_n 36 dX9_sheet_35 rfl rfl ?_
          refine AW.aald 37 dX9_sheet_36 (zA rfl rfl) (by decide) rfl (by omega) (by decide) (zSh_r (by omega)) rfl ?_
          refine AW.iload_n 38 dX9_sheet_37 rfl rfl ?_
          refine AW.iload_n 39 dX9_sheet_38 rfl rfl ?_
          refine AW.cVv2 42 dX9_sheet_39 kX9_300 (zSh_is (by omega)) (Nat.le_of_ble_eq_true rfl) rfl (C_X5_renew (by omega) ?_)
          refine AW.iload_n 43 dX9_sheet_42 rfl rfl ?_
          refine AW.iret dX9_sheet_43 .int rfl rfl rfl ⟨_, rfl, ?_⟩
          repeat' split at hQ
          all_goals first | exact hQ | (exfalso; omega)
        · skip
          refine AW.bipush 30 (-14) dX9_sheet_28 (by decide) rfl ?_
          refine AW.iret dX9_sheet_30 .int rfl rfl rfl ⟨_, rfl, ?_⟩
          repeat' split at hQ
          all_goals first | exact hQ | (exfalso; omega)
      · skip
        refine AW.iconst 23 (-1) dX9_sheet_22 (by decide) rfl ?_
        refine AW.iret dX9_sheet_23 .int rfl rfl rfl ⟨_, rfl, ?_⟩
        repeat' split at hQ
        all_goals first | exact hQ | (exfalso; omega)
theorem C_X9_drop {s : Int32} {Q : Int32 → zS → zM → Prop} (hQ : Q (f_drop M s).1 (ZS m0 m1 md) (f_drop M s).2) : AMet l g yX9_drop cX9_drop 3 (some .int) (d + 2) 0 0 [.ref 0, .int s] (ZS m0 m1 md) M (z_Qi Q) := by
  unfold f_drop at hQ
  refine AMet.of (ini := false) rfl (fun h => by first | rfl | cases h) (Nat.le_of_ble_eq_true rfl) ?_
  show AW l g RX9 cX9_drop 3 (some .int) false _ _ _ 0 [some (.ref 0), some (.int s), none] [] _ _ _
  refine AW.aload_n 1 dX9_drop_0 rfl rfl ?_
  refine AW.iload_n 2 dX9_drop_1 rfl rfl ?_
  refine AW.cVi1 5 dX9_drop_2 kX9_144 (zI rfl rfl) (Nat.le_of_ble_eq_true rfl) rfl (C_X9_noSheet (fun b2 => ?_) (fun b2 => ?_))
  · skip
    refine AW.if_eq 8 10 dX9_drop_5 (by decide) rfl (fun h => absurd h (by decide)) (fun _ => ?_)
    refine AW.iconst 9 (-1) dX9_drop_8 (by decide) rfl ?_
    refine AW.iret dX9_drop_9 .int rfl rfl rfl ⟨_, rfl, ?_⟩
    repeat' split at hQ
    all_goals first | exact hQ | (exfalso; omega)
  · skip
    obtain ⟨k, hk, rfl, hk2⟩ := z_nI (v := s) (n := 3) (by omega) (by omega)
    rw [nI_clamp (by omega)] at hQ
    refine AW.if_eq 8 10 dX9_drop_5 (by decide) rfl (fun _ => ?_) (fun h => absurd h (by decide))
    refine AW.aload_n 11 dX9_drop_10 rfl rfl ?_
    refine AW.getR 14 dX9_drop_11 fX9_85 rfl (zI rfl rfl) rfl rfl ?_
    refine AW.iload_n 15 dX9_drop_14 rfl rfl ?_
    refine AW.aald 16 dX9_drop_15 (zA rfl rfl) (by decide) rfl (by omega) (by decide) (zSh_r (by omega)) rfl ?_
    refine AW.astn2 17 dX9_drop_16 (by decide) rfl rfl ?_
    refine AW.aload_n 18 dX9_drop_17 rfl rfl ?_
    refine AW.getI 21 dX9_drop_18 fX9_303 rfl (zSh_is (by omega)) rfl ?_
    refine AW.bipush 23 (-4) dX9_drop_21 (by decide) rfl ?_
    refine AW.zicmp_ne 26 29 dX9_drop_23 (by decide) rfl rfl (by decide : (-4 : Int32).toInt = -4) (fun b23 => ?_) (fun b23 => ?_)
    · skip
      refine AW.aload_n 30 dX9_drop_29 rfl rfl ?_
      refine AW.bipush 32 (-4) dX9_drop_30 (by decide) rfl ?_
      refine AW.putI 35 .int dX9_drop_32 pX9_303 rfl (zSh_is (by omega)) rfl rfl rfl ?_
      refine AW.aload_n 36 dX9_drop_35 rfl rfl ?_
      refine AW.getI 39 dX9_drop_36 fX9_306 rfl (zSh_is (by omega)) rfl ?_
      refine AW.topi (M (91 + 2 * k) 2) (by rw [z_st_at]; rfl) ?_
      refine AW.iret dX9_drop_39 .int rfl rfl rfl ⟨_, rfl, ?_⟩
      repeat' split at hQ
      all_goals first | exact hQ | (exfalso; omega)
    · skip
      refine AW.bipush 28 (-11) dX9_drop_26 (by decide) rfl ?_
      refine AW.iret dX9_drop_28 .int rfl rfl rfl ⟨_, rfl, ?_⟩
      repeat' split at hQ
      all_goals first | exact hQ | (exfalso; omega)
theorem C_X9_item {s lane i v : Int32} (hz : ∀ k, k < 4 → 0 ≤ (M (91 + 2 * k) 2).toInt ∧ (M (91 + 2 * k) 2).toInt ≤ 48) {Q : Int32 → zS → zM → Prop} (hQ : Q (f_item M s lane i v).1 (ZS m0 m1 md) (f_item M s lane i v).2) : AMet l g yX9_item cX9_item 7 (some .int) (d + 2) 0 0 [.ref 0, .int s, .int lane, .int i, .int v] (ZS m0 m1 md) M (z_Qi Q) := by
  unfold f_item at hQ
  refine AMet.of (ini := false) rfl (fun h => by first | rfl | cases h) (Nat.le_of_ble_eq_true rfl) ?_
  show AW l g RX9 cX9_item 7 (some .int) false _ _ _ 0 [some (.ref 0), some (.int s), some (.int lane), some (.int i), some (.int v), none, none] [] _ _ _
  refine AW.aload_n 1 dX9_item_0 rfl rfl ?_
  refine AW.iload_n 2 dX9_item_1 rfl rfl ?_
  refine AW.cVi1 5 dX9_item_2 kX9_144 (zI rfl rfl) (Nat.le_of_ble_eq_true rfl) rfl (C_X9_noSheet (fun b2 => ?_) (fun b2 => ?_))
  · skip
    refine AW.if_ne 8 16 dX9_item_5 (by decide) rfl (fun _ => ?_) (fun h => absurd h (by decide))
    refine AW.iconst 17 (-1) dX9_item_16 (by decide) rfl ?_
    refine AW.iret dX9_item_17 .int rfl rfl rfl ⟨_, rfl, ?_⟩
    repeat' split at hQ
    all_goals first | exact hQ | (exfalso; omega)
  · skip
    obtain ⟨k, hk, rfl, hk2⟩ := z_nI (v := s) (n := 3) (by omega) (by omega)
    rw [nI_clamp (by omega)] at hQ
    refine AW.if_ne 8 16 dX9_item_5 (by decide) rfl (fun h => absurd h (by decide)) (fun _ => ?_)
    refine AW.iload_n 9 dX9_item_8 rfl rfl ?_
    refine AW.iconst 10 (nI 2) dX9_item_9 (by decide) rfl ?_
    refine AW.cSi2 13 dX9_item_10 kX9_120 (Nat.le_of_ble_eq_true rfl) rfl (C_beyond rfl (by decide : (nI 2).toInt = 2) (fun b10 => ?_) (fun b10 => ?_))
    · skip
      refine AW.if_eq 16 18 dX9_item_13 (by decide) rfl (fun h => absurd h (by decide)) (fun _ => ?_)
      refine AW.iconst 17 (-1) dX9_item_16 (by decide) rfl ?_
      refine AW.iret dX9_item_17 .int rfl rfl rfl ⟨_, rfl, ?_⟩
      repeat' split at hQ
      all_goals first | exact hQ | (exfalso; omega)
    · skip
      refine AW.if_eq 16 18 dX9_item_13 (by decide) rfl (fun _ => ?_) (fun h => absurd h (by decide))
      refine AW.aload_n 19 dX9_item_18 rfl rfl ?_
      refine AW.getR 22 dX9_item_19 fX9_85 rfl (zI rfl rfl) rfl rfl ?_
      refine AW.iload_n 23 dX9_item_22 rfl rfl ?_
      refine AW.aald 24 dX9_item_23 (zA rfl rfl) (by decide) rfl (by omega) (by decide) (zSh_r (by omega)) rfl ?_
      refine AW.ast5 26 dX9_item_24 (by decide) rfl rfl ?_
      refine AW.aload 28 dX9_item_26 rfl rfl ?_
      refine AW.iload_n 29 dX9_item_28 rfl rfl ?_
      refine AW.iload_n 30 dX9_item_29 rfl rfl ?_
      refine AW.iconst 31 (nI 1) dX9_item_30 (by decide) rfl ?_
      refine AW.cVi3 34 dX9_item_31 kX9_147 (zSh_is (by omega)) (Nat.le_of_ble_eq_true rfl) rfl (C_X5_findFault (by omega) (hz k (by omega)) ?_)
      refine AW.ist6 36 dX9_item_34 (by decide) rfl rfl ?_
      refine AW.iload 38 dX9_item_36 rfl rfl ?_
      refine AW.zif_ge 41 44 dX9_item_38 (by decide) rfl rfl (fun b38 => ?_) (fun b38 => ?_)
      · skip
        have e1 := f_find_ok b38
        have e2 := hz k (by omega)
        have e0 : (nI 1).toInt = 1 := by decide
        obtain ⟨a, ha, rfl, ha2⟩ := z_nI (v := i) (n := 47) (by omega) (by omega)
        rw [if_neg (by omega), if_neg (by omega), if_neg (by omega), nI_clamp (n := a) (by omega)] at hQ
        refine AW.aload 46 dX9_item_44 rfl rfl ?_
        refine AW.getR 49 dX9_item_46 fX9_151 rfl (zSh_is (by omega)) (zSh_r0 (by omega)) rfl ?_
        refine AW.iload_n 50 dX9_item_49 rfl rfl ?_
        refine AW.iload_n 51 dX9_item_50 rfl rfl ?_
        refine AW.zif_ne 54 67 dX9_item_51 (by decide) rfl rfl (fun b51 => ?_) (fun b51 => ?_)
        · skip
          refine AW.iload_n 68 dX9_item_67 rfl rfl ?_
          refine AW.iconst 69 (nI 1) dX9_item_68 (by decide) rfl ?_
          refine AW.zicmp_ne 72 78 dX9_item_69 (by decide) rfl rfl (by decide : (nI 1).toInt = 1) (fun b69 => ?_) (fun b69 => ?_)
          · skip
            refine AW.iload 80 dX9_item_78 rfl rfl ?_
            refine AW.iast 81 dX9_item_80 (zSh_a (by omega)) rfl (by omega) (by decide) rfl ?_
            refine AW.iconst 82 (nI 1) dX9_item_81 (by decide) rfl ?_
            refine AW.iret dX9_item_82 .int rfl rfl rfl ⟨_, rfl, ?_⟩
            unfold z_item at hQ
            repeat' split at hQ
            all_goals first | exact hQ | (exfalso; omega)
          · skip
            refine AW.iload 74 dX9_item_72 rfl rfl ?_
            refine AW.i2b 75 dX9_item_74 rfl ?_
            refine AW.goto 80 dX9_item_75 (by decide) ?_
            refine AW.iast 81 dX9_item_80 (zSh_a (by omega)) rfl (by omega) (by decide) rfl ?_
            refine AW.iconst 82 (nI 1) dX9_item_81 (by decide) rfl ?_
            refine AW.iret dX9_item_82 .int rfl rfl rfl ⟨_, rfl, ?_⟩
            unfold z_item at hQ
            repeat' split at hQ
            all_goals first | exact hQ | (exfalso; omega)
        · skip
          refine AW.iload 56 dX9_item_54 rfl rfl ?_
          refine AW.zif_eq 59 63 dX9_item_56 (by decide) rfl rfl (fun b56 => ?_) (fun b56 => ?_)
          · skip
            refine AW.iconst 64 (nI 0) dX9_item_63 (by decide) rfl ?_
            refine AW.goto 80 dX9_item_64 (by decide) ?_
            refine AW.iast 81 dX9_item_80 (zSh_a (by omega)) rfl (by omega) (by decide) rfl ?_
            refine AW.iconst 82 (nI 1) dX9_item_81 (by decide) rfl ?_
            refine AW.iret dX9_item_82 .int rfl rfl rfl ⟨_, rfl, ?_⟩
            unfold z_item at hQ
            repeat' split at hQ
            all_goals first | exact hQ | (exfalso; omega)
          · skip
            refine AW.iconst 60 (nI 1) dX9_item_59 (by decide) rfl ?_
            refine AW.goto 80 dX9_item_60 (by decide) ?_
            refine AW.iast 81 dX9_item_80 (zSh_a (by omega)) rfl (by omega) (by decide) rfl ?_
            refine AW.iconst 82 (nI 1) dX9_item_81 (by decide) rfl ?_
            refine AW.iret dX9_item_82 .int rfl rfl rfl ⟨_, rfl, ?_⟩
            unfold z_item at hQ
            repeat' split at hQ
            all_goals first | exact hQ | (exfalso; omega)
      · skip
        refine AW.iload 43 dX9_item_41 rfl rfl ?_
        refine AW.iret dX9_item_43 .int rfl rfl rfl ⟨_, rfl, ?_⟩
        repeat' split at hQ
        all_goals first | exact hQ | (exfalso; omega)
theorem C_X9_copy {s i t j n : Int32} (hz : ∀ k, k < 4 → 0 ≤ (M (91 + 2 * k) 2).toInt ∧ (M (91 + 2 * k) 2).toInt ≤ 48) {Q : Int32 → zS → zM → Prop} (hQ : Q (f_copy M s i t j n).1 (ZS m0 m1 md) (f_copy M s i t j n).2) : AMet l g yX9_copy cX9_copy 8 (some .int) (d + 2) 0 0 [.ref 0, .int s, .int i, .int t, .int j, .int n] (ZS m0 m1 md) M (z_Qi Q) := by
  unfold f_copy at hQ
  refine AMet.of (ini := false) rfl (fun h => by first | rfl | cases h) (Nat.le_of_ble_eq_true rfl) ?_
  show AW l g RX9 cX9_copy 8 (some .int) false _ _ _ 0 [some (.ref 0), some (.int s), some (.int i), some (.int t), some (.int j), some (.int n), none, none] [] _ _ _
  refine AW.aload_n 1 dX9_copy_0 rfl rfl ?_
  refine AW.iload_n 2 dX9_copy_1 rfl rfl ?_
  refine AW.cVi1 5 dX9_copy_2 kX9_144 (zI rfl rfl) (Nat.le_of_ble_eq_true rfl) rfl (C_X9_noSheet (fun b2 => ?_) (fun b2 => ?_))
  · skip
    refine AW.if_ne 8 16 dX9_copy_5 (by decide) rfl (fun _ => ?_) (fun h => absurd h (by decide))
    refine AW.iconst 17 (-1) dX9_copy_16 (by decide) rfl ?_
    refine AW.iret dX9_copy_17 .int rfl rfl rfl ⟨_, rfl, ?_⟩
    repeat' split at hQ
    all_goals first | exact hQ | (exfalso; omega)
  · skip
    obtain ⟨ka, hka, rfl, hka2⟩ := z_nI (v := s) (n := 3) (by omega) (by omega)
    rw [nI_clamp (n := ka) (by omega)] at hQ
    refine AW.if_ne 8 16 dX9_copy_5 (by decide) rfl (fun h => absurd h (by decide)) (fun _ => ?_)
    refine AW.aload_n 9 dX9_copy_8 rfl rfl ?_
    refine AW.iload_n 10 dX9_copy_9 rfl rfl ?_
    refine AW.cVi1 13 dX9_copy_10 kX9_144 (zI rfl rfl) (Nat.le_of_ble_eq_true rfl) rfl (C_X9_noSheet (fun b10 => ?_) (fun b10 => ?_))
    · skip
      refine AW.if_eq 16 18 dX9_copy_13 (by decide) rfl (fun h => absurd h (by decide)) (fun _ => ?_)
      refine AW.iconst 17 (-1) dX9_copy_16 (by decide) rfl ?_
      refine AW.iret dX9_copy_17 .int rfl rfl rfl ⟨_, rfl, ?_⟩
      repeat' split at hQ
      all_goals first | exact hQ | (exfalso; omega)
    · skip
      obtain ⟨kb, hkb, rfl, hkb2⟩ := z_nI (v := t) (n := 3) (by omega) (by omega)
      rw [nI_clamp (n := kb) (by omega)] at hQ
      refine AW.if_eq 16 18 dX9_copy_13 (by decide) rfl (fun _ => ?_) (fun h => absurd h (by decide))
      refine AW.aload_n 19 dX9_copy_18 rfl rfl ?_
      refine AW.getR 22 dX9_copy_19 fX9_85 rfl (zI rfl rfl) rfl rfl ?_
      refine AW.iload_n 23 dX9_copy_22 rfl rfl ?_
      refine AW.aald 24 dX9_copy_23 (zA rfl rfl) (by decide) rfl (by omega) (by decide) (zSh_r (by omega)) rfl ?_
      refine AW.ast6 26 dX9_copy_24 (by decide) rfl rfl ?_
      refine AW.aload_n 27 dX9_copy_26 rfl rfl ?_
      refine AW.getR 30 dX9_copy_27 fX9_85 rfl (zI rfl rfl) rfl rfl ?_
      refine AW.iload_n 31 dX9_copy_30 rfl rfl ?_
      refine AW.aald 32 dX9_copy_31 (zA rfl rfl) (by decide) rfl (by omega) (by decide) (zSh_r (by omega)) rfl ?_
      refine AW.ast7 34 dX9_copy_32 (by decide) rfl rfl ?_
      refine AW.aload 36 dX9_copy_34 rfl rfl ?_
      refine AW.getI 39 dX9_copy_36 fX9_303 rfl (zSh_is (by omega)) rfl ?_
      refine AW.bipush 41 (-4) dX9_copy_39 (by decide) rfl ?_
      refine AW.zicmp_eq 44 54 dX9_copy_41 (by decide) rfl rfl (by decide : (-4 : Int32).toInt = -4) (fun b41 => ?_) (fun b41 => ?_)
      · skip
        refine AW.bipush 56 (-11) dX9_copy_54 (by decide) rfl ?_
        refine AW.iret dX9_copy_56 .int rfl rfl rfl ⟨_, rfl, ?_⟩
        repeat' split at hQ
        all_goals first | exact hQ | (exfalso; omega)
      · skip
        refine AW.aload 46 dX9_copy_44 rfl rfl ?_
        refine AW.getI 49 dX9_copy_46 fX9_303 rfl (zSh_is (by omega)) rfl ?_
        refine AW.bipush 51 (-4) dX9_copy_49 (by decide) rfl ?_
        refine AW.zicmp_ne 54 57 dX9_copy_51 (by decide) rfl rfl (by decide : (-4 : Int32).toInt = -4) (fun b51 => ?_) (fun b51 => ?_)
        · skip
          refine AW.aload 59 dX9_copy_57 rfl rfl ?_
          refine AW.getI 62 dX9_copy_59 fX9_303 rfl (zSh_is (by omega)) rfl ?_
          refine AW.aload 64 dX9_copy_62 rfl rfl ?_
          refine AW.getI 67 dX9_copy_64 fX9_303 rfl (zSh_is (by omega)) rfl ?_
          refine AW.zicmp_eq 70 73 dX9_copy_67 (by decide) rfl rfl rfl (fun b67 => ?_) (fun b67 => ?_)
          · skip
            refine AW.aload 75 dX9_copy_73 rfl rfl ?_
            refine AW.iload_n 76 dX9_copy_75 rfl rfl ?_
            refine AW.iload 78 dX9_copy_76 rfl rfl ?_
            refine AW.cVi2 81 dX9_copy_78 kX9_307 (zSh_is (by omega)) (Nat.le_of_ble_eq_true rfl) rfl (C_X5_lacks (by omega) (hz ka (by omega)) (fun b78 => ?_) (fun b78 => ?_))
            · skip
              refine AW.if_ne 84 96 dX9_copy_81 (by decide) rfl (fun _ => ?_) (fun h => absurd h (by decide))
              refine AW.bipush 98 (-13) dX9_copy_96 (by decide) rfl ?_
              refine AW.iret dX9_copy_98 .int rfl rfl rfl ⟨_, rfl, ?_⟩
              repeat' split at hQ
              all_goals first | exact hQ | (exfalso; omega)
            · skip
              refine AW.if_ne 84 96 dX9_copy_81 (by decide) rfl (fun h => absurd h (by decide)) (fun _ => ?_)
              refine AW.aload 86 dX9_copy_84 rfl rfl ?_
              refine AW.iload 88 dX9_copy_86 rfl rfl ?_
              refine AW.iload 90 dX9_copy_88 rfl rfl ?_
              refine AW.cVi2 93 dX9_copy_90 kX9_307 (zSh_is (by omega)) (Nat.le_of_ble_eq_true rfl) rfl (C_X5_lacks (by omega) (hz kb (by omega)) (fun b90 => ?_) (fun b90 => ?_))
              · skip
                refine AW.if_eq 96 99 dX9_copy_93 (by decide) rfl (fun h => absurd h (by decide)) (fun _ => ?_)
                refine AW.bipush 98 (-13) dX9_copy_96 (by decide) rfl ?_
                refine AW.iret dX9_copy_98 .int rfl rfl rfl ⟨_, rfl, ?_⟩
                repeat' split at hQ
                all_goals first | exact hQ | (exfalso; omega)
              · skip
                refine AW.if_eq 96 99 dX9_copy_93 (by decide) rfl (fun _ => ?_) (fun h => absurd h (by decide))
                have e3 := hz ka (by omega)
                have e4 := hz kb (by omega)
                obtain ⟨a, ha, rfl, ha2⟩ := z_nI (v := i) (n := 48) (by omega) (by omega)
                obtain ⟨b, hb, rfl, hb2⟩ := z_nI (v := j) (n := 48) (by omega) (by omega)
                obtain ⟨c, hc, rfl, hc2⟩ := z_nI (v := n) (n := 48) (by omega) (by omega)
                rw [if_neg (by omega), if_neg (by omega), if_neg (by omega), if_neg (by omega), if_neg (by omega), if_neg (by omega), if_neg (by omega), nI_clamp (n := a) (by omega), nI_clamp (n := b) (by omega), nI_clamp (n := c) (by omega)] at hQ
                refine AW.aload 101 dX9_copy_99 rfl rfl ?_
                refine AW.getR 104 dX9_copy_101 fX9_151 rfl (zSh_is (by omega)) (zSh_r0 (by omega)) rfl ?_
                refine AW.iload_n 105 dX9_copy_104 rfl rfl ?_
                refine AW.aload 107 dX9_copy_105 rfl rfl ?_
                refine AW.getR 110 dX9_copy_107 fX9_151 rfl (zSh_is (by omega)) (zSh_r0 (by omega)) rfl ?_
                refine AW.iload 112 dX9_copy_110 rfl rfl ?_
                refine AW.iload 114 dX9_copy_112 rfl rfl ?_
                refine AW.copy 117 dX9_copy_114 qX9_153 (zSh_a (by omega)) (zSh_a (by omega)) rfl rfl rfl (by omega) (by omega) (by decide) (by decide) (Nat.le_of_ble_eq_true rfl) rfl ?_
                refine AW.iload 119 dX9_copy_117 rfl rfl ?_
                refine AW.iret dX9_copy_119 .int rfl rfl rfl ⟨_, rfl, ?_⟩
                exact hQ
          · skip
            refine AW.bipush 72 (-12) dX9_copy_70 (by decide) rfl ?_
            refine AW.iret dX9_copy_72 .int rfl rfl rfl ⟨_, rfl, ?_⟩
            repeat' split at hQ
            all_goals first | exact hQ | (exfalso; omega)
        · skip
          refine AW.bipush 56 (-11) dX9_copy_54 (by decide) rfl ?_
          refine AW.iret dX9_copy_56 .int rfl rfl rfl ⟨_, rfl, ?_⟩
          repeat' split at hQ
          all_goals first | exact hQ | (exfalso; omega)
end CSHEET
