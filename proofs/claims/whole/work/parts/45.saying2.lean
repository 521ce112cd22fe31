section SAYING2
variable {l : Launch} {g : zG} {d m0 m1 md : Nat} {M : zM} {n : Nat} {H : Nat → Nat → Nat → Bool} {A : Nat → Nat} {N : Nat → Int32}
def z_lk (f : Nat) (s t : Int32) : Nat := 2 * f + (if s.toInt = 0 then 0 else 96) + (if t.toInt = 0 then 0 else 1)
theorem L_X10_saying (hG : g_mach M 0 n H A N) {L : Nat} (hL : L < 128) {x1 x2 x3 : Int32} {Q : Int32 → zS → zM → Prop} :
    ∀ (z a : Nat), a + z = 128 → Q (z_sy (z_sE L (z_aa n H A)) z a) (ZS m0 m1 md) M → ∀ y w, AW l g RX10 cX10_saying 8 (some .int) false (d + 2) 0 0 43 [some (.ref 99), some (.int x1), some (.int x2), some (.int x3), some (.int (nI L)), some (.int (nI a)), y, w] [] (ZS m0 m1 md) M (z_Qi Q) := by
  intro z
  induction z with
  | zero =>
    intro a ha hQ y w
    have ha : a = 128 := by omega
    subst ha
    refine AW.iload 45 dX10_saying_43 rfl rfl ?_
    refine AW.sipush 48 (nI 128) dX10_saying_45 (by decide) rfl ?_
    refine AW.icmp_ge 51 119 dX10_saying_48 (by decide) rfl (fun _ => ?_) (fun h => absurd h (by decide))
    refine AW.bipush 121 (-4) dX10_saying_119 (by decide) rfl ?_
    refine AW.iret dX10_saying_121 .int rfl rfl rfl ⟨_, rfl, ?_⟩
    exact hQ
  | succ z ih =>
    intro a ha hQ y w
    rw [z_sy] at hQ
    refine AW.iload 45 dX10_saying_43 rfl rfl ?_
    refine AW.sipush 48 (nI 128) dX10_saying_45 (by decide) rfl ?_
    refine AW.icmpN_ge 51 119 dX10_saying_48 (by decide) rfl (by omega) (by omega) (fun b48 => absurd b48 (by omega)) (fun b48 => ?_)
    refine AW.aload_n 52 dX10_saying_51 rfl rfl ?_
    refine AW.iload 54 dX10_saying_52 rfl rfl ?_
    refine AW.cVi1 57 dX10_saying_54 kX10_272 (zI rfl rfl) (Nat.le_of_ble_eq_true rfl) rfl (C_X10_actAt hG (k := a) (by omega) ?_)
    refine AW.ist6 59 dX10_saying_57 (by decide) rfl rfl ?_
    refine AW.iload 61 dX10_saying_59 rfl rfl ?_
    refine AW.iconst 62 (nI 1) dX10_saying_61 (by decide) rfl ?_
    refine AW.iaddN 63 dX10_saying_62 rfl ?_
    refine AW.ist7 65 dX10_saying_63 (by decide) rfl rfl ?_
    refine L_X10_sayingB hG hL (by omega) (f := 0) (fun v hv => ?_) (fun hv y w => ?_) (127 - a) (a + 1) (by omega) rfl
    · rw [hv] at hQ; exact hQ
    · rw [hv] at hQ; exact ih (a + 1) (by omega) hQ y w
theorem C_X10_saying (hG : g_mach M 0 n H A N) {f s t : Int32} {Q : Int32 → zS → zM → Prop} (hbad : ¬ (0 ≤ f.toInt ∧ f.toInt ≤ 15) → Q (-1) (ZS m0 m1 md) M) (hgo : ∀ k, f = nI k → k < 16 → Q (z_sy (z_sE (z_lk k s t) (z_aa n H A)) 128 0) (ZS m0 m1 md) M) : AMet l g yX10_saying cX10_saying 8 (some .int) (d + 2) 0 0 [.ref 99, .int f, .int s, .int t] (ZS m0 m1 md) M (z_Qi Q) := by
  refine AMet.of (ini := false) rfl (fun h => by first | rfl | cases h) (Nat.le_of_ble_eq_true rfl) ?_
  show AW l g RX10 cX10_saying 8 (some .int) false _ _ _ 0 [some (.ref 99), some (.int f), some (.int s), some (.int t), none, none, none, none] [] _ _ _
  refine AW.iload_n 1 dX10_saying_0 rfl rfl ?_
  refine AW.i2l 2 dX10_saying_1 rfl ?_
  refine AW.lconst 3 (lN 0) dX10_saying_2 rfl rfl ?_
  refine AW.ldc2 6 (lN 15) dX10_saying_3 qX10_187 rfl ?_
  refine AW.cSi3 9 dX10_saying_6 kX10_131 (Nat.le_of_ble_eq_true rfl) rfl (C_in (Int32.toInt_toInt64 _) (z_lN (by decide)) (z_lN (by decide)) (fun b6 => ?_) (fun b6 => ?_))
  · skip
    obtain ⟨k, hk, rfl, hk2⟩ := z_nI (v := f) (n := 15) (by omega) (by omega)
    have e := hgo k rfl (by omega)
    unfold z_lk at e
    refine AW.if_ne 12 14 dX10_saying_9 (by decide) rfl (fun _ => ?_) (fun h => absurd h (by decide))
    refine AW.iconst 15 (nI 2) dX10_saying_14 (by decide) rfl ?_
    refine AW.iload_n 16 dX10_saying_15 rfl rfl ?_
    refine AW.imulN 17 dX10_saying_16 rfl ?_
    refine AW.iload_n 18 dX10_saying_17 rfl rfl ?_
    refine AW.zif_eq 21 26 dX10_saying_18 (by decide) rfl rfl (fun b18 => ?_) (fun b18 => ?_)
    · skip
      refine AW.iconst 27 (nI 0) dX10_saying_26 (by decide) rfl ?_
      refine AW.iaddN 28 dX10_saying_27 rfl ?_
      refine AW.iload_n 29 dX10_saying_28 rfl rfl ?_
      refine AW.zif_eq 32 36 dX10_saying_29 (by decide) rfl rfl (fun b29 => ?_) (fun b29 => ?_)
      · skip
        refine AW.iconst 37 (nI 0) dX10_saying_36 (by decide) rfl ?_
        refine AW.iaddN 38 dX10_saying_37 rfl ?_
        refine AW.ist4 40 dX10_saying_38 (by decide) rfl rfl ?_
        refine AW.iconst 41 (nI 0) dX10_saying_40 (by decide) rfl ?_
        refine AW.ist5 43 dX10_saying_41 (by decide) rfl rfl ?_
        (repeat' split at e) <;> first | exact L_X10_saying hG (by omega) 128 0 (by omega) e _ _ | (exfalso; omega)
      · skip
        refine AW.iconst 33 (nI 1) dX10_saying_32 (by decide) rfl ?_
        refine AW.goto 37 dX10_saying_33 (by decide) ?_
        refine AW.iaddN 38 dX10_saying_37 rfl ?_
        refine AW.ist4 40 dX10_saying_38 (by decide) rfl rfl ?_
        refine AW.iconst 41 (nI 0) dX10_saying_40 (by decide) rfl ?_
        refine AW.ist5 43 dX10_saying_41 (by decide) rfl rfl ?_
        (repeat' split at e) <;> first | exact L_X10_saying hG (by omega) 128 0 (by omega) e _ _ | (exfalso; omega)
    · skip
      refine AW.bipush 23 (nI 96) dX10_saying_21 (by decide) rfl ?_
      refine AW.goto 27 dX10_saying_23 (by decide) ?_
      refine AW.iaddN 28 dX10_saying_27 rfl ?_
      refine AW.iload_n 29 dX10_saying_28 rfl rfl ?_
      refine AW.zif_eq 32 36 dX10_saying_29 (by decide) rfl rfl (fun b29 => ?_) (fun b29 => ?_)
      · skip
        refine AW.iconst 37 (nI 0) dX10_saying_36 (by decide) rfl ?_
        refine AW.iaddN 38 dX10_saying_37 rfl ?_
        refine AW.ist4 40 dX10_saying_38 (by decide) rfl rfl ?_
        refine AW.iconst 41 (nI 0) dX10_saying_40 (by decide) rfl ?_
        refine AW.ist5 43 dX10_saying_41 (by decide) rfl rfl ?_
        (repeat' split at e) <;> first | exact L_X10_saying hG (by omega) 128 0 (by omega) e _ _ | (exfalso; omega)
      · skip
        refine AW.iconst 33 (nI 1) dX10_saying_32 (by decide) rfl ?_
        refine AW.goto 37 dX10_saying_33 (by decide) ?_
        refine AW.iaddN 38 dX10_saying_37 rfl ?_
        refine AW.ist4 40 dX10_saying_38 (by decide) rfl rfl ?_
        refine AW.iconst 41 (nI 0) dX10_saying_40 (by decide) rfl ?_
        refine AW.ist5 43 dX10_saying_41 (by decide) rfl rfl ?_
        (repeat' split at e) <;> first | exact L_X10_saying hG (by omega) 128 0 (by omega) e _ _ | (exfalso; omega)
  · skip
    refine AW.if_ne 12 14 dX10_saying_9 (by decide) rfl (fun h => absurd h (by decide)) (fun _ => ?_)
    refine AW.iconst 13 (-1) dX10_saying_12 (by decide) rfl ?_
    refine AW.iret dX10_saying_13 .int rfl rfl rfl ⟨_, rfl, ?_⟩
    exact hbad (by omega)
end SAYING2
