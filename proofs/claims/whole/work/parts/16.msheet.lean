theorem z_add64 (a b : Int32) : (a.toInt64 + b.toInt64).toInt = a.toInt + b.toInt := by
  rw [Int64.toInt_add, Int32.toInt_toInt64, Int32.toInt_toInt64]
  have h1 := Int32.toInt_lt a
  have h2 := Int32.toInt_lt b
  have h3 := Int32.le_toInt a
  have h4 := Int32.le_toInt b
  apply Int.bmod_eq_of_le <;> omega
theorem z_sub_toInt (a b : Int32) (h1 : -2147483648 ≤ a.toInt - b.toInt) (h2 : a.toInt - b.toInt < 2147483648) : (a - b).toInt = a.toInt - b.toInt := by
  rw [Int32.toInt_sub]
  apply Int.bmod_eq_of_le <;> omega
theorem z_add_toInt (a b : Int32) (h1 : -2147483648 ≤ a.toInt + b.toInt) (h2 : a.toInt + b.toInt < 2147483648) : (a + b).toInt = a.toInt + b.toInt := by
  rw [Int32.toInt_add]
  apply Int.bmod_eq_of_le <;> omega
/-- places a .. b - 1 of a row become v -/
def z_rng (f : Nat → Int32) (a b : Nat) (v : Int32) : Nat → Int32 := fun j => if a ≤ j ∧ j < b then v else f j
theorem z_rng_0 (f : Nat → Int32) (a : Nat) (v : Int32) : z_rng f a a v = f := by
  funext j; unfold z_rng; rw [if_neg (by omega)]
theorem z_rng_s (f : Nat → Int32) (a b : Nat) (v : Int32) (h : a ≤ b) : upd (z_rng f a b v) b v = z_rng f a (b + 1) v := by
  funext j
  unfold upd z_rng
  by_cases h1 : j = b
  · subst h1; rw [if_pos rfl, if_pos ⟨h, Nat.lt_succ_self _⟩]
  · rw [if_neg h1]
    by_cases h2 : a ≤ j ∧ j < b
    · rw [if_pos h2, if_pos ⟨h2.1, by omega⟩]
    · rw [if_neg h2, if_neg (by omega)]
def g_finds (M : zM) (s : Nat) (lane i n : Int32) : Int32 := if (M 133 s).toInt < 0 then -11 else if ¬ (M 133 s).toInt = lane.toInt then -12 else if i.toInt < 0 ∨ (M 134 s).toInt < i.toInt + n.toInt then -13 else nI 0
def g_sheet (M : zM) (s lane n : Int32) : Int32 × zM := if ¬ (0 ≤ s.toInt ∧ s.toInt ≤ 3) then (-1, M) else if ¬ (0 ≤ lane.toInt ∧ lane.toInt ≤ 2) then (-1, M) else if 48 < n.toInt then (-1, M) else if n.toInt < 0 then (-14, M) else
  (n, z_row (z_st (z_st M 133 s.toNatClampNeg lane) 134 s.toNatClampNeg n) 135 (z_rng (M 135) (48 * s.toNatClampNeg) (48 * s.toNatClampNeg + 48) (nI 0)))
def g_drop (M : zM) (s : Int32) : Int32 × zM := if ¬ (0 ≤ s.toInt ∧ s.toInt ≤ 3) then (-1, M) else if (M 133 s.toNatClampNeg).toInt < 0 then (-11, M) else (M 134 s.toNatClampNeg, z_st M 133 s.toNatClampNeg (-1))
theorem z_cmp_le0 {x y : Int64} : (lg_cmp x y).toInt ≤ 0 ↔ x.toInt ≤ y.toInt := by
  have := @z_cmp_gt0 x y
  constructor <;> intro h <;> omega
section MSHEET
variable {l : Launch} {g : zG} {d m0 m1 md : Nat} {M : zM}
theorem C_X10_isSheet {S : zS} {s : Int32} {Q : Int32 → zS → zM → Prop} (h1 : 0 ≤ s.toInt ∧ s.toInt ≤ 3 → Q (nI 1) S M) (h0 : ¬ (0 ≤ s.toInt ∧ s.toInt ≤ 3) → Q (nI 0) S M) : AMet l g yX10_isSheet cX10_isSheet 1 (some .boolean) (d + 1) 0 0 [.int s] S M (z_Qi Q) := by
  refine AMet.of (ini := false) rfl (fun h => by first | rfl | cases h) (Nat.le_of_ble_eq_true rfl) ?_
  show AW l g RX10 cX10_isSheet 1 (some .boolean) false _ _ _ 0 [some (.int s)] [] _ _ _
  refine AW.iload_n 1 dX10_isSheet_0 rfl rfl ?_
  refine AW.i2l 2 dX10_isSheet_1 rfl ?_
  refine AW.lconst 3 (lN 0) dX10_isSheet_2 rfl rfl ?_
  refine AW.ldc2 6 (lN 3) dX10_isSheet_3 qX10_207 rfl ?_
  refine AW.cSi3 9 dX10_isSheet_6 kX10_131 (Nat.le_of_ble_eq_true rfl) rfl (C_in (Int32.toInt_toInt64 _) (z_lN (by decide)) (z_lN (by decide)) (fun b6 => ?_) (fun b6 => ?_))
  · skip
    refine AW.iret dX10_isSheet_9 .boolean rfl rfl rfl ⟨_, rfl, ?_⟩
    first | exact h1 (by omega) | exact h0 (by omega)
  · skip
    refine AW.iret dX10_isSheet_9 .boolean rfl rfl rfl ⟨_, rfl, ?_⟩
    first | exact h1 (by omega) | exact h0 (by omega)
theorem C_X10_isLane {S : zS} {s : Int32} {Q : Int32 → zS → zM → Prop} (h1 : 0 ≤ s.toInt ∧ s.toInt ≤ 2 → Q (nI 1) S M) (h0 : ¬ (0 ≤ s.toInt ∧ s.toInt ≤ 2) → Q (nI 0) S M) : AMet l g yX10_isLane cX10_isLane 1 (some .boolean) (d + 1) 0 0 [.int s] S M (z_Qi Q) := by
  refine AMet.of (ini := false) rfl (fun h => by first | rfl | cases h) (Nat.le_of_ble_eq_true rfl) ?_
  show AW l g RX10 cX10_isLane 1 (some .boolean) false _ _ _ 0 [some (.int s)] [] _ _ _
  refine AW.iload_n 1 dX10_isLane_0 rfl rfl ?_
  refine AW.i2l 2 dX10_isLane_1 rfl ?_
  refine AW.lconst 3 (lN 0) dX10_isLane_2 rfl rfl ?_
  refine AW.ldc2 6 (lN 2) dX10_isLane_3 qX10_180 rfl ?_
  refine AW.cSi3 9 dX10_isLane_6 kX10_131 (Nat.le_of_ble_eq_true rfl) rfl (C_in (Int32.toInt_toInt64 _) (z_lN (by decide)) (z_lN (by decide)) (fun b6 => ?_) (fun b6 => ?_))
  · skip
    refine AW.iret dX10_isLane_9 .boolean rfl rfl rfl ⟨_, rfl, ?_⟩
    first | exact h1 (by omega) | exact h0 (by omega)
  · skip
    refine AW.iret dX10_isLane_9 .boolean rfl rfl rfl ⟨_, rfl, ?_⟩
    first | exact h1 (by omega) | exact h0 (by omega)
theorem C_X10_isMachine {S : zS} {s : Int32} {Q : Int32 → zS → zM → Prop} (h1 : 0 ≤ s.toInt ∧ s.toInt ≤ 1 → Q (nI 1) S M) (h0 : ¬ (0 ≤ s.toInt ∧ s.toInt ≤ 1) → Q (nI 0) S M) : AMet l g yX10_isMachine cX10_isMachine 1 (some .boolean) (d + 1) 0 0 [.int s] S M (z_Qi Q) := by
  refine AMet.of (ini := false) rfl (fun h => by first | rfl | cases h) (Nat.le_of_ble_eq_true rfl) ?_
  show AW l g RX10 cX10_isMachine 1 (some .boolean) false _ _ _ 0 [some (.int s)] [] _ _ _
  refine AW.iload_n 1 dX10_isMachine_0 rfl rfl ?_
  refine AW.i2l 2 dX10_isMachine_1 rfl ?_
  refine AW.lconst 3 (lN 0) dX10_isMachine_2 rfl rfl ?_
  refine AW.lconst 4 (lN 1) dX10_isMachine_3 rfl rfl ?_
  refine AW.cSi3 7 dX10_isMachine_4 kX10_131 (Nat.le_of_ble_eq_true rfl) rfl (C_in (Int32.toInt_toInt64 _) (z_lN (by decide)) (z_lN (by decide)) (fun b4 => ?_) (fun b4 => ?_))
  · skip
    refine AW.iret dX10_isMachine_7 .boolean rfl rfl rfl ⟨_, rfl, ?_⟩
    first | exact h1 (by omega) | exact h0 (by omega)
  · skip
    refine AW.iret dX10_isMachine_7 .boolean rfl rfl rfl ⟨_, rfl, ?_⟩
    first | exact h1 (by omega) | exact h0 (by omega)
theorem C_X10_finds {s : Nat} (hs : s < 4) {lane i n : Int32} {Q : Int32 → zS → zM → Prop} (hQ : Q (g_finds M s lane i n) (ZS m0 m1 md) M) : AMet l g yX10_finds cX10_finds 5 (some .int) d 0 0 [.ref 99, .int (nI s), .int lane, .int i, .int n] (ZS m0 m1 md) M (z_Qi Q) := by
  refine AMet.of (ini := false) rfl (fun h => by first | rfl | cases h) (Nat.le_of_ble_eq_true rfl) ?_
  show AW l g RX10 cX10_finds 5 (some .int) false _ _ _ 0 [some (.ref 99), some (.int (nI s)), some (.int lane), some (.int i), some (.int n)] [] _ _ _
  refine AW.aload_n 1 dX10_finds_0 rfl rfl ?_
  refine AW.getR 4 dX10_finds_1 fX10_117 rfl (zI rfl rfl) rfl rfl ?_
  refine AW.iload_n 5 dX10_finds_4 rfl rfl ?_
  refine AW.iald 6 dX10_finds_5 (zA rfl rfl) rfl (by omega) (by decide) rfl ?_
  refine AW.zif_ge 9 12 dX10_finds_6 (by decide) rfl rfl (fun b6 => ?_) (fun b6 => ?_)
  · skip
    refine AW.aload_n 13 dX10_finds_12 rfl rfl ?_
    refine AW.getR 16 dX10_finds_13 fX10_117 rfl (zI rfl rfl) rfl rfl ?_
    refine AW.iload_n 17 dX10_finds_16 rfl rfl ?_
    refine AW.iald 18 dX10_finds_17 (zA rfl rfl) rfl (by omega) (by decide) rfl ?_
    refine AW.iload_n 19 dX10_finds_18 rfl rfl ?_
    refine AW.zicmp_eq 22 25 dX10_finds_19 (by decide) rfl rfl rfl (fun b19 => ?_) (fun b19 => ?_)
    · skip
      refine AW.iload_n 26 dX10_finds_25 rfl rfl ?_
      refine AW.zif_lt 29 46 dX10_finds_26 (by decide) rfl rfl (fun b26 => ?_) (fun b26 => ?_)
      · skip
        refine AW.bipush 48 (-13) dX10_finds_46 (by decide) rfl ?_
        refine AW.goto 52 dX10_finds_48 (by decide) ?_
        refine AW.iret dX10_finds_52 .int rfl rfl rfl ⟨_, rfl, ?_⟩
        (try rw [z_cmp_le0, z_add64, Int32.toInt_toInt64] at b43)
        unfold g_finds at hQ
        repeat' split at hQ
        all_goals first | exact hQ | (exfalso; omega)
      · skip
        refine AW.iload_n 30 dX10_finds_29 rfl rfl ?_
        refine AW.i2l 31 dX10_finds_30 rfl ?_
        refine AW.iload 33 dX10_finds_31 rfl rfl ?_
        refine AW.i2l 34 dX10_finds_33 rfl ?_
        refine AW.ladd 35 dX10_finds_34 rfl ?_
        refine AW.aload_n 36 dX10_finds_35 rfl rfl ?_
        refine AW.getR 39 dX10_finds_36 fX10_120 rfl (zI rfl rfl) rfl rfl ?_
        refine AW.iload_n 40 dX10_finds_39 rfl rfl ?_
        refine AW.iald 41 dX10_finds_40 (zA rfl rfl) rfl (by omega) (by decide) rfl ?_
        refine AW.i2l 42 dX10_finds_41 rfl ?_
        refine AW.lcmp 43 dX10_finds_42 rfl ?_
        refine AW.zif_le 46 51 dX10_finds_43 (by decide) rfl rfl (fun b43 => ?_) (fun b43 => ?_)
        · skip
          refine AW.iconst 52 (nI 0) dX10_finds_51 (by decide) rfl ?_
          refine AW.iret dX10_finds_52 .int rfl rfl rfl ⟨_, rfl, ?_⟩
          (try rw [z_cmp_le0, z_add64, Int32.toInt_toInt64] at b43)
          unfold g_finds at hQ
          repeat' split at hQ
          all_goals first | exact hQ | (exfalso; omega)
        · skip
          refine AW.bipush 48 (-13) dX10_finds_46 (by decide) rfl ?_
          refine AW.goto 52 dX10_finds_48 (by decide) ?_
          refine AW.iret dX10_finds_52 .int rfl rfl rfl ⟨_, rfl, ?_⟩
          (try rw [z_cmp_le0, z_add64, Int32.toInt_toInt64] at b43)
          unfold g_finds at hQ
          repeat' split at hQ
          all_goals first | exact hQ | (exfalso; omega)
    · skip
      refine AW.bipush 24 (-12) dX10_finds_22 (by decide) rfl ?_
      refine AW.iret dX10_finds_24 .int rfl rfl rfl ⟨_, rfl, ?_⟩
      (try rw [z_cmp_le0, z_add64, Int32.toInt_toInt64] at b43)
      unfold g_finds at hQ
      repeat' split at hQ
      all_goals first | exact hQ | (exfalso; omega)
  · skip
    refine AW.bipush 11 (-11) dX10_finds_9 (by decide) rfl ?_
    refine AW.iret dX10_finds_11 .int rfl rfl rfl ⟨_, rfl, ?_⟩
    (try rw [z_cmp_le0, z_add64, Int32.toInt_toInt64] at b43)
    unfold g_finds at hQ
    repeat' split at hQ
    all_goals first | exact hQ | (exfalso; omega)
theorem C_X10_drop {s : Int32} {Q : Int32 → zS → zM → Prop} (hQ : Q (g_drop M s).1 (ZS m0 m1 md) (g_drop M s).2) : AMet l g yX10_drop cX10_drop 2 (some .int) (d + 2) 0 0 [.ref 99, .int s] (ZS m0 m1 md) M (z_Qi Q) := by
  unfold g_drop at hQ
  refine AMet.of (ini := false) rfl (fun h => by first | rfl | cases h) (Nat.le_of_ble_eq_true rfl) ?_
  show AW l g RX10 cX10_drop 2 (some .int) false _ _ _ 0 [some (.ref 99), some (.int s)] [] _ _ _
  refine AW.iload_n 1 dX10_drop_0 rfl rfl ?_
  refine AW.cSi1 4 dX10_drop_1 kX10_189 (Nat.le_of_ble_eq_true rfl) rfl (C_X10_isSheet (fun b1 => ?_) (fun b1 => ?_))
  · skip
    obtain ⟨k, hk, rfl, hk2⟩ := z_nI b1.1 b1.2
    rw [nI_clamp (by omega)] at hQ
    refine AW.if_ne 7 9 dX10_drop_4 (by decide) rfl (fun _ => ?_) (fun h => absurd h (by decide))
    refine AW.aload_n 10 dX10_drop_9 rfl rfl ?_
    refine AW.getR 13 dX10_drop_10 fX10_117 rfl (zI rfl rfl) rfl rfl ?_
    refine AW.iload_n 14 dX10_drop_13 rfl rfl ?_
    refine AW.iald 15 dX10_drop_14 (zA rfl rfl) rfl (by omega) (by decide) rfl ?_
    refine AW.zif_ge 18 21 dX10_drop_15 (by decide) rfl rfl (fun b15 => ?_) (fun b15 => ?_)
    · skip
      refine AW.aload_n 22 dX10_drop_21 rfl rfl ?_
      refine AW.getR 25 dX10_drop_22 fX10_117 rfl (zI rfl rfl) rfl rfl ?_
      refine AW.iload_n 26 dX10_drop_25 rfl rfl ?_
      refine AW.iconst 27 (-1) dX10_drop_26 (by decide) rfl ?_
      refine AW.iast 28 dX10_drop_27 (zA rfl rfl) rfl (by omega) (by decide) rfl ?_
      refine AW.aload_n 29 dX10_drop_28 rfl rfl ?_
      refine AW.getR 32 dX10_drop_29 fX10_120 rfl (zI rfl rfl) rfl rfl ?_
      refine AW.iload_n 33 dX10_drop_32 rfl rfl ?_
      refine AW.iald 34 dX10_drop_33 (zA rfl rfl) rfl (by omega) (by decide) rfl ?_
      refine AW.iret dX10_drop_34 .int rfl rfl rfl ⟨_, rfl, ?_⟩
      repeat' split at hQ
      all_goals first | exact hQ | (exfalso; omega)
    · skip
      refine AW.bipush 20 (-11) dX10_drop_18 (by decide) rfl ?_
      refine AW.iret dX10_drop_20 .int rfl rfl rfl ⟨_, rfl, ?_⟩
      repeat' split at hQ
      all_goals first | exact hQ | (exfalso; omega)
  · skip
    refine AW.if_ne 7 9 dX10_drop_4 (by decide) rfl (fun h => absurd h (by decide)) (fun _ => ?_)
    refine AW.iconst 8 (-1) dX10_drop_7 (by decide) rfl ?_
    refine AW.iret dX10_drop_8 .int rfl rfl rfl ⟨_, rfl, ?_⟩
    repeat' split at hQ
    all_goals first | exact hQ | (exfalso; omega)
end MSHEET
