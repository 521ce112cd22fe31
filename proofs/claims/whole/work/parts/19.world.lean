theorem z_st_row_ne {M : zM} {k a i : Nat} {f : Nat → Int32} {v : Int32} (h : k ≠ a) : z_st (z_row M a f) k i v = z_row (z_st M k i v) a f := by
  funext c
  unfold z_st z_row
  rw [va_up_ne _ _ h]
  by_cases h1 : c = k
  · subst h1; rw [va_up_self, va_up_ne _ _ h, va_up_self]
  · rw [va_up_ne _ _ h1]
    by_cases h2 : c = a
    · subst h2; rw [va_up_self, va_up_self]
    · rw [va_up_ne _ _ h2, va_up_ne _ _ h2, va_up_ne _ _ h1]
def z_sum (f : Nat → Int32) : Nat → Int32
  | 0 => nI 0
  | n + 1 => z_sum f n + f n
def g_ticks (M : zM) (n : Int32) : Int32 × zM := if ¬ (1 ≤ n.toInt ∧ n.toInt ≤ 12) then (-1, M) else
  (M 99 16, z_st (z_row (z_row (z_row M 113 (z_rng (M 113) (M 99 16).toNatClampNeg n.toNatClampNeg (nI 0))) 114 (z_rng (M 114) (M 99 16).toNatClampNeg n.toNatClampNeg (nI 0))) 115 (z_rng (M 115) (M 99 16).toNatClampNeg n.toNatClampNeg (nI 15))) 99 16 n)
def f_ticks (M : zM) (n : Int32) : Int32 × zM := if ¬ (1 ≤ n.toInt ∧ n.toInt ≤ 12) then (-1, M) else
  (M 59 1, z_st (z_row (z_row (z_row M 61 (z_rng (M 61) (M 59 1).toNatClampNeg n.toNatClampNeg (nI 0))) 62 (z_rng (M 62) (M 59 1).toNatClampNeg n.toNatClampNeg (nI 0))) 63 (z_rng (M 63) (M 59 1).toNatClampNeg n.toNatClampNeg (nI 15))) 59 1 n)
def g_world (M : zM) (t w v : Int32) : Int32 × zM := if ¬ (0 ≤ t.toInt ∧ t.toInt ≤ (M 99 16).toInt - 1) then (-1, M) else if ¬ (0 ≤ w.toInt ∧ w.toInt ≤ 2) then (-1, M) else if ¬ (0 ≤ v.toInt ∧ v.toInt ≤ (if w.toInt = 1 then 1 else 15)) then (-1, M) else
  (M (113 + w.toNatClampNeg) t.toNatClampNeg, z_st M (113 + w.toNatClampNeg) t.toNatClampNeg v)
def f_world (M : zM) (t w v : Int32) : Int32 × zM := if ¬ (0 ≤ t.toInt ∧ t.toInt ≤ (M 59 1).toInt - 1) then (-1, M) else if ¬ (0 ≤ w.toInt ∧ w.toInt ≤ 2) then (-1, M) else if ¬ (0 ≤ v.toInt ∧ v.toInt ≤ (if w.toInt = 1 then 1 else 15)) then (-1, M) else
  (M (61 + w.toNatClampNeg) t.toNatClampNeg, z_st M (61 + w.toNatClampNeg) t.toNatClampNeg v)
def g_sights (M : zM) (s lane i : Int32) : Int32 × zM := if ¬ (0 ≤ s.toInt ∧ s.toInt ≤ 3) then (-1, M) else if ¬ (1 ≤ lane.toInt ∧ lane.toInt ≤ 2) then (-1, M) else if (g_finds M s.toNatClampNeg lane i (M 99 16)).toInt < 0 then (g_finds M s.toNatClampNeg lane i (M 99 16), M) else
  if ∀ t, t < (M 99 16).toNatClampNeg → 0 ≤ (M 135 (48 * s.toNatClampNeg + i.toNatClampNeg + t)).toInt ∧ (M 135 (48 * s.toNatClampNeg + i.toNatClampNeg + t)).toInt ≤ 15 then
  (M 99 16, z_row M 113 (va_cpy (M 135) (M 113) (48 * s.toNatClampNeg + i.toNatClampNeg) 0 (M 99 16).toNatClampNeg)) else (-2, M)
def f_sights (M : zM) (s lane i : Int32) : Int32 × zM := if ¬ (0 ≤ s.toInt ∧ s.toInt ≤ 3) then (-1, M) else if ¬ (1 ≤ lane.toInt ∧ lane.toInt ≤ 2) then (-1, M) else if (f_find M (91 + 2 * s.toNatClampNeg) lane i (M 59 1)).toInt < 0 then (f_find M (91 + 2 * s.toNatClampNeg) lane i (M 59 1), M) else
  if ∀ t, t < (M 59 1).toNatClampNeg → 0 ≤ (M (92 + 2 * s.toNatClampNeg) (i.toNatClampNeg + t)).toInt ∧ (M (92 + 2 * s.toNatClampNeg) (i.toNatClampNeg + t)).toInt ≤ 15 then
  (M 59 1, z_row M 61 (va_cpy (M (92 + 2 * s.toNatClampNeg)) (M 61) i.toNatClampNeg 0 (M 59 1).toNatClampNeg)) else (-2, M)
def g_lots (M : zM) (s i : Int32) : Int32 × zM := if ¬ (0 ≤ s.toInt ∧ s.toInt ≤ 3) then (-1, M) else if (g_finds M s.toNatClampNeg (nI 0) i (M 99 16)).toInt < 0 then (g_finds M s.toNatClampNeg (nI 0) i (M 99 16), M) else
  (z_sum (fun t => M 135 (48 * s.toNatClampNeg + i.toNatClampNeg + t)) (M 99 16).toNatClampNeg, z_row M 114 (va_cpy (M 135) (M 114) (48 * s.toNatClampNeg + i.toNatClampNeg) 0 (M 99 16).toNatClampNeg))
def f_lots (M : zM) (s i : Int32) : Int32 × zM := if ¬ (0 ≤ s.toInt ∧ s.toInt ≤ 3) then (-1, M) else if (f_find M (91 + 2 * s.toNatClampNeg) (nI 0) i (M 59 1)).toInt < 0 then (f_find M (91 + 2 * s.toNatClampNeg) (nI 0) i (M 59 1), M) else
  (z_sum (fun t => M (92 + 2 * s.toNatClampNeg) (i.toNatClampNeg + t)) (M 59 1).toNatClampNeg, z_row M 62 (va_cpy (M (92 + 2 * s.toNatClampNeg)) (M 62) i.toNatClampNeg 0 (M 59 1).toNatClampNeg))
section MWORLD
variable {l : Launch} {g : zG} {d m0 m1 md : Nat} {M : zM} {T : Nat}
theorem C_X10_isTick (hT : M 99 16 = nI T) (hT1 : 1 ≤ T) (hT2 : T ≤ 12) {s : Int32} {Q : Int32 → zS → zM → Prop} (h1 : 0 ≤ s.toInt ∧ s.toInt < T → Q (nI 1) (ZS m0 m1 md) M) (h0 : ¬ (0 ≤ s.toInt ∧ s.toInt < T) → Q (nI 0) (ZS m0 m1 md) M) : AMet l g yX10_isTick cX10_isTick 2 (some .boolean) (d + 1) 0 0 [.ref 99, .int s] (ZS m0 m1 md) M (z_Qi Q) := by
  have e : ((nI (T - 1)).toInt64).toInt = ((T - 1 : Nat) : Int) := by rw [Int32.toInt_toInt64]; exact z_ti (by omega)
  refine AMet.of (ini := false) rfl (fun h => by first | rfl | cases h) (Nat.le_of_ble_eq_true rfl) ?_
  show AW l g RX10 cX10_isTick 2 (some .boolean) false _ _ _ 0 [some (.ref 99), some (.int s)] [] _ _ _
  refine AW.iload_n 1 dX10_isTick_0 rfl rfl ?_
  refine AW.i2l 2 dX10_isTick_1 rfl ?_
  refine AW.lconst 3 (lN 0) dX10_isTick_2 rfl rfl ?_
  refine AW.aload_n 4 dX10_isTick_3 rfl rfl ?_
  refine AW.getI 7 dX10_isTick_4 fX10_50 rfl (zI rfl rfl) rfl ?_
  refine AW.topi (nI T) hT ?_
  refine AW.iconst 8 (nI 1) dX10_isTick_7 (by decide) rfl ?_
  refine AW.isubN 9 dX10_isTick_8 (by omega) rfl ?_
  refine AW.i2l 10 dX10_isTick_9 rfl ?_
  refine AW.cSi3 13 dX10_isTick_10 kX10_131 (Nat.le_of_ble_eq_true rfl) rfl (C_in (Int32.toInt_toInt64 _) (z_lN (by decide)) e (fun b10 => ?_) (fun b10 => ?_))
  · skip
    refine AW.iret dX10_isTick_13 .boolean rfl rfl rfl ⟨_, rfl, ?_⟩
    first | exact h1 (by omega) | exact h0 (by omega)
  · skip
    refine AW.iret dX10_isTick_13 .boolean rfl rfl rfl ⟨_, rfl, ?_⟩
    first | exact h1 (by omega) | exact h0 (by omega)
theorem L_X10_ticks {n : Nat} (hn : n ≤ 12) {Q : Option Value → zS → zM → Prop} (hQ : AW l g RX10 cX10_ticks 3 (some .int) false d 0 0 52 [some (.ref 99), some (.int (nI n)), some (.int (nI n))] [] (ZS m0 m1 md) (z_row (z_row (z_row M 113 (z_rng (M 113) T n (nI 0))) 114 (z_rng (M 114) T n (nI 0))) 115 (z_rng (M 115) T n (nI 15))) Q) :
    ∀ (q i : Nat), T ≤ i → i + q = n → AW l g RX10 cX10_ticks 3 (some .int) false d 0 0 19 [some (.ref 99), some (.int (nI n)), some (.int (nI i))] [] (ZS m0 m1 md) (z_row (z_row (z_row M 113 (z_rng (M 113) T i (nI 0))) 114 (z_rng (M 114) T i (nI 0))) 115 (z_rng (M 115) T i (nI 15))) Q := by
  intro q
  induction q with
  | zero =>
    intro i hi0 hi
    have hi : i = n := by omega
    subst hi
    refine AW.iload_n 20 dX10_ticks_19 rfl rfl ?_
    refine AW.iload_n 21 dX10_ticks_20 rfl rfl ?_
    refine AW.icmpN_ge 24 52 dX10_ticks_21 (by decide) rfl (by omega) (by omega) (fun b21 => ?_) (fun b21 => absurd b21 (by omega))
    exact hQ
  | succ q ih =>
    intro i hi0 hi
    refine AW.iload_n 20 dX10_ticks_19 rfl rfl ?_
    refine AW.iload_n 21 dX10_ticks_20 rfl rfl ?_
    refine AW.icmpN_ge 24 52 dX10_ticks_21 (by decide) rfl (by omega) (by omega) (fun b21 => absurd b21 (by omega)) (fun b21 => ?_)
    refine AW.aload_n 25 dX10_ticks_24 rfl rfl ?_
    refine AW.getR 28 dX10_ticks_25 fX10_54 rfl (zI rfl rfl) rfl rfl ?_
    refine AW.iload_n 29 dX10_ticks_28 rfl rfl ?_
    refine AW.iconst 30 (nI 0) dX10_ticks_29 (by decide) rfl ?_
    refine AW.iast 31 dX10_ticks_30 (zA rfl rfl) rfl (by omega) (by decide) rfl ?_
    rw [z_st_row_ne (by decide), z_st_row_ne (by decide), z_st_row, z_rng_s _ _ _ _ hi0]
    refine AW.aload_n 32 dX10_ticks_31 rfl rfl ?_
    refine AW.getR 35 dX10_ticks_32 fX10_57 rfl (zI rfl rfl) rfl rfl ?_
    refine AW.iload_n 36 dX10_ticks_35 rfl rfl ?_
    refine AW.iconst 37 (nI 0) dX10_ticks_36 (by decide) rfl ?_
    refine AW.iast 38 dX10_ticks_37 (zA rfl rfl) rfl (by omega) (by decide) rfl ?_
    rw [z_st_row_ne (by decide), z_st_row, z_rng_s _ _ _ _ hi0]
    refine AW.aload_n 39 dX10_ticks_38 rfl rfl ?_
    refine AW.getR 42 dX10_ticks_39 fX10_60 rfl (zI rfl rfl) rfl rfl ?_
    refine AW.iload_n 43 dX10_ticks_42 rfl rfl ?_
    refine AW.bipush 45 (nI 15) dX10_ticks_43 (by decide) rfl ?_
    refine AW.iast 46 dX10_ticks_45 (zA rfl rfl) rfl (by omega) (by decide) rfl ?_
    rw [z_st_row, z_rng_s _ _ _ _ hi0]
    refine AW.iinc2 49 _ dX10_ticks_46 (z_inc1 _) (by decide) rfl rfl ?_
    refine AW.goto 19 dX10_ticks_49 (by decide) ?_
    exact ih (i + 1) (by omega) (by omega)
theorem z_rng_e (f : Nat → Int32) {a b : Nat} (v : Int32) (h : b ≤ a) : z_rng f a b v = f := by
  funext j; unfold z_rng; rw [if_neg (by omega)]
theorem C_X10_ticks (hT : M 99 16 = nI T) (hT1 : 1 ≤ T) (hT2 : T ≤ 12) {n : Int32} {Q : Int32 → zS → zM → Prop} (hQ : Q (g_ticks M n).1 (ZS m0 m1 md) (g_ticks M n).2) : AMet l g yX10_ticks cX10_ticks 3 (some .int) (d + 1) 0 0 [.ref 99, .int n] (ZS m0 m1 md) M (z_Qi Q) := by
  unfold g_ticks at hQ
  rw [hT, nI_clamp (by omega)] at hQ
  refine AMet.of (ini := false) rfl (fun h => by first | rfl | cases h) (Nat.le_of_ble_eq_true rfl) ?_
  show AW l g RX10 cX10_ticks 3 (some .int) false _ _ _ 0 [some (.ref 99), some (.int n), none] [] _ _ _
  refine AW.iload_n 1 dX10_ticks_0 rfl rfl ?_
  refine AW.i2l 2 dX10_ticks_1 rfl ?_
  refine AW.lconst 3 (lN 1) dX10_ticks_2 rfl rfl ?_
  refine AW.ldc2 6 (lN 12) dX10_ticks_3 qX10_182 rfl ?_
  refine AW.cSi3 9 dX10_ticks_6 kX10_131 (Nat.le_of_ble_eq_true rfl) rfl (C_in (Int32.toInt_toInt64 _) (z_lN (by decide)) (z_lN (by decide)) (fun b6 => ?_) (fun b6 => ?_))
  · skip
    obtain ⟨k, hk, rfl, hk2⟩ := z_nI (v := n) (n := 12) (by omega) (by omega)
    rw [if_neg (by omega), nI_clamp (n := k) (by omega)] at hQ
    refine AW.if_ne 12 14 dX10_ticks_9 (by decide) rfl (fun _ => ?_) (fun h => absurd h (by decide))
    refine AW.aload_n 15 dX10_ticks_14 rfl rfl ?_
    refine AW.getI 18 dX10_ticks_15 fX10_50 rfl (zI rfl rfl) rfl ?_
    refine AW.topi (nI T) hT ?_
    refine AW.istn2 19 dX10_ticks_18 (by decide) rfl rfl ?_
    rcases Nat.lt_or_ge k T with h | h
    · rw [z_rng_e _ _ (by omega), z_rng_e _ _ (by omega), z_rng_e _ _ (by omega), z_row_self, z_row_self, z_row_self] at hQ
      refine AW.iload_n 20 dX10_ticks_19 rfl rfl ?_
      refine AW.iload_n 21 dX10_ticks_20 rfl rfl ?_
      refine AW.icmpN_ge 24 52 dX10_ticks_21 (by decide) rfl (by omega) (by omega) (fun b21 => ?_) (fun b21 => absurd b21 (by omega))
      refine AW.aload_n 53 dX10_ticks_52 rfl rfl ?_
      refine AW.getI 56 dX10_ticks_53 fX10_50 rfl (zI rfl rfl) rfl ?_
      refine AW.topi (nI T) hT ?_
      refine AW.istn2 57 dX10_ticks_56 (by decide) rfl rfl ?_
      refine AW.aload_n 58 dX10_ticks_57 rfl rfl ?_
      refine AW.iload_n 59 dX10_ticks_58 rfl rfl ?_
      refine AW.putI 62 .int dX10_ticks_59 pX10_50 rfl (zI rfl rfl) rfl rfl rfl ?_
      refine AW.iload_n 63 dX10_ticks_62 rfl rfl ?_
      refine AW.iret dX10_ticks_63 .int rfl rfl rfl ⟨_, rfl, ?_⟩
      exact hQ
    · have L := L_X10_ticks (l := l) (g := g) (d := d + 1) (m0 := m0) (m1 := m1) (md := md) (M := M) (T := T) (n := k) (Q := z_Qi Q) (by omega) ?_ (k - T) T (Nat.le_refl _) (by omega)
      · rw [z_rng_0, z_rng_0, z_rng_0, z_row_self, z_row_self, z_row_self] at L
        exact L
      · skip
        refine AW.aload_n 53 dX10_ticks_52 rfl rfl ?_
        refine AW.getI 56 dX10_ticks_53 fX10_50 rfl (zI rfl rfl) rfl ?_
        refine AW.topi (nI T) hT ?_
        refine AW.istn2 57 dX10_ticks_56 (by decide) rfl rfl ?_
        refine AW.aload_n 58 dX10_ticks_57 rfl rfl ?_
        refine AW.iload_n 59 dX10_ticks_58 rfl rfl ?_
        refine AW.putI 62 .int dX10_ticks_59 pX10_50 rfl (zI rfl rfl) rfl rfl rfl ?_
        refine AW.iload_n 63 dX10_ticks_62 rfl rfl ?_
        refine AW.iret dX10_ticks_63 .int rfl rfl rfl ⟨_, rfl, ?_⟩
        exact hQ
  · skip
    refine AW.if_ne 12 14 dX10_ticks_9 (by decide) rfl (fun h => absurd h (by decide)) (fun _ => ?_)
    refine AW.iconst 13 (-1) dX10_ticks_12 (by decide) rfl ?_
    refine AW.iret dX10_ticks_13 .int rfl rfl rfl ⟨_, rfl, ?_⟩
    rw [if_pos (by omega)] at hQ
    exact hQ
end MWORLD
