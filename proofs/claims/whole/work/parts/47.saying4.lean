section SAYING4
variable {l : Launch} {g : zG} {d m0 m1 md : Nat} {M : zM} {n : Nat} {H : Nat → Nat → Nat → Bool} {A : Nat → Nat} {N : Nat → Int32}
theorem L_X9_saying {F : Nat → Nat} (hA : ∀ k, k < 128 → M 88 k = nI (F k)) (hF4 : ∀ k, F k < 4) {L : Nat} (hL : L < 128) {x1 x2 x3 : Int32} {Q : Int32 → zS → zM → Prop} :
    ∀ (z a : Nat), a + z = 128 → Q (z_sy (z_sE L F) z a) (ZS m0 m1 md) M → ∀ y, AW l g RX9 cX9_saying 7 (some .int) false d 0 0 94 [some (.ref 0), some (.int x1), some (.int x2), some (.int x3), some (.int (nI L)), some (.int (nI a)), y] [] (ZS m0 m1 md) M (z_Qi Q) := by
  intro z
  induction z with
  | zero =>
    intro a ha hQ y
    have ha : a = 128 := by omega
    subst ha
    refine AW.iload 96 dX9_saying_94 rfl rfl ?_
    refine AW.sipush 99 (nI 128) dX9_saying_96 (by decide) rfl ?_
    refine AW.icmp_ge 102 166 dX9_saying_99 (by decide) rfl (fun _ => ?_) (fun h => absurd h (by decide))
    refine AW.bipush 168 (-4) dX9_saying_166 (by decide) rfl ?_
    refine AW.iret dX9_saying_168 .int rfl rfl rfl ⟨_, rfl, ?_⟩
    exact hQ
  | succ z ih =>
    intro a ha hQ y
    rw [z_sy] at hQ
    refine AW.iload 96 dX9_saying_94 rfl rfl ?_
    refine AW.sipush 99 (nI 128) dX9_saying_96 (by decide) rfl ?_
    refine AW.icmpN_ge 102 166 dX9_saying_99 (by decide) rfl (by omega) (by omega) (fun b99 => absurd b99 (by omega)) (fun b99 => ?_)
    refine AW.iload 104 dX9_saying_102 rfl rfl ?_
    refine AW.iconst 105 (nI 1) dX9_saying_104 (by decide) rfl ?_
    refine AW.iaddN 106 dX9_saying_105 rfl ?_
    refine AW.ist6 108 dX9_saying_106 (by decide) rfl rfl ?_
    refine L_X9_sayingB hA hF4 hL (by omega) (fun v hv => ?_) (fun hv y => ?_) (127 - a) (a + 1) (by omega) rfl
    · rw [hv] at hQ; exact hQ
    · rw [hv] at hQ; exact ih (a + 1) (by omega) hQ y
theorem C_X9_saying (hb0 : zMb m0) (hF : f_mach M m0 n H A N) {f s t : Int32} {Q : Int32 → zS → zM → Prop} (hbad : ¬ (0 ≤ f.toInt ∧ f.toInt ≤ 15) → Q (-1) (ZS m0 m1 md) M) (hgo : ∀ k, f = nI k → k < 16 → ∀ M', (∀ c, c ≠ 88 → M' c = M c) → Q (z_sy (z_sE (z_lk k s t) (z_aa n H A)) 128 0) (ZS m0 m1 md) M') : AMet l g yX9_saying cX9_saying 7 (some .int) (d + 2) 0 0 [.ref 0, .int f, .int s, .int t] (ZS m0 m1 md) M (z_Qi Q) := by
  refine AMet.of (ini := false) rfl (fun h => by first | rfl | cases h) (Nat.le_of_ble_eq_true rfl) ?_
  show AW l g RX9 cX9_saying 7 (some .int) false _ _ _ 0 [some (.ref 0), some (.int f), some (.int s), some (.int t), none, none, none] [] _ _ _
  refine AW.iload_n 1 dX9_saying_0 rfl rfl ?_
  refine AW.bipush 3 (nI 15) dX9_saying_1 (by decide) rfl ?_
  refine AW.cSi2 6 dX9_saying_3 kX9_120 (Nat.le_of_ble_eq_true rfl) rfl (C_beyond rfl (by decide : (nI 15).toInt = 15) (fun b3 => ?_) (fun b3 => ?_))
  · skip
    refine AW.if_eq 9 11 dX9_saying_6 (by decide) rfl (fun h => absurd h (by decide)) (fun _ => ?_)
    refine AW.iconst 10 (-1) dX9_saying_9 (by decide) rfl ?_
    refine AW.iret dX9_saying_10 .int rfl rfl rfl ⟨_, rfl, ?_⟩
    exact hbad (by omega)
  · skip
    obtain ⟨k, hk, rfl, hk2⟩ := z_nI (v := f) (n := 15) (by omega) (by omega)
    refine AW.if_eq 9 11 dX9_saying_6 (by decide) rfl (fun _ => ?_) (fun h => absurd h (by decide))
    refine AW.iconst 12 (nI 2) dX9_saying_11 (by decide) rfl ?_
    refine AW.iload_n 13 dX9_saying_12 rfl rfl ?_
    refine AW.imulN 14 dX9_saying_13 rfl ?_
    refine AW.iload_n 15 dX9_saying_14 rfl rfl ?_
    refine AW.zif_eq 18 23 dX9_saying_15 (by decide) rfl rfl (fun b15 => ?_) (fun b15 => ?_)
    · skip
      refine AW.iconst 24 (nI 0) dX9_saying_23 (by decide) rfl ?_
      refine AW.iaddN 25 dX9_saying_24 rfl ?_
      refine AW.iload_n 26 dX9_saying_25 rfl rfl ?_
      refine AW.zif_eq 29 33 dX9_saying_26 (by decide) rfl rfl (fun b26 => ?_) (fun b26 => ?_)
      · skip
        refine AW.iconst 34 (nI 0) dX9_saying_33 (by decide) rfl ?_
        refine AW.iaddN 35 dX9_saying_34 rfl ?_
        refine AW.ist4 37 dX9_saying_35 (by decide) rfl rfl ?_
        refine AW.iconst 38 (nI 0) dX9_saying_37 (by decide) rfl ?_
        refine AW.ist5 40 dX9_saying_38 (by decide) rfl rfl ?_
        refine L_X9_saying0 hb0 hF (fun M' y f1 f2 => ?_) 128 0 (by omega) M (fun _ _ => rfl) (fun j hj => absurd hj (by omega))
        have e := hgo k rfl (by omega) M' f1
        unfold z_lk at e
        (repeat' split at e) <;> first | exact L_X9_saying f2 (fun k => z_act_lt (fun r hr => (hF.2.2 r hr).1) _) (by omega) 128 0 (by omega) e _ | (exfalso; omega)
      · skip
        refine AW.iconst 30 (nI 1) dX9_saying_29 (by decide) rfl ?_
        refine AW.goto 34 dX9_saying_30 (by decide) ?_
        refine AW.iaddN 35 dX9_saying_34 rfl ?_
        refine AW.ist4 37 dX9_saying_35 (by decide) rfl rfl ?_
        refine AW.iconst 38 (nI 0) dX9_saying_37 (by decide) rfl ?_
        refine AW.ist5 40 dX9_saying_38 (by decide) rfl rfl ?_
        refine L_X9_saying0 hb0 hF (fun M' y f1 f2 => ?_) 128 0 (by omega) M (fun _ _ => rfl) (fun j hj => absurd hj (by omega))
        have e := hgo k rfl (by omega) M' f1
        unfold z_lk at e
        (repeat' split at e) <;> first | exact L_X9_saying f2 (fun k => z_act_lt (fun r hr => (hF.2.2 r hr).1) _) (by omega) 128 0 (by omega) e _ | (exfalso; omega)
    · skip
      refine AW.bipush 20 (nI 96) dX9_saying_18 (by decide) rfl ?_
      refine AW.goto 24 dX9_saying_20 (by decide) ?_
      refine AW.iaddN 25 dX9_saying_24 rfl ?_
      refine AW.iload_n 26 dX9_saying_25 rfl rfl ?_
      refine AW.zif_eq 29 33 dX9_saying_26 (by decide) rfl rfl (fun b26 => ?_) (fun b26 => ?_)
      · skip
        refine AW.iconst 34 (nI 0) dX9_saying_33 (by decide) rfl ?_
        refine AW.iaddN 35 dX9_saying_34 rfl ?_
        refine AW.ist4 37 dX9_saying_35 (by decide) rfl rfl ?_
        refine AW.iconst 38 (nI 0) dX9_saying_37 (by decide) rfl ?_
        refine AW.ist5 40 dX9_saying_38 (by decide) rfl rfl ?_
        refine L_X9_saying0 hb0 hF (fun M' y f1 f2 => ?_) 128 0 (by omega) M (fun _ _ => rfl) (fun j hj => absurd hj (by omega))
        have e := hgo k rfl (by omega) M' f1
        unfold z_lk at e
        (repeat' split at e) <;> first | exact L_X9_saying f2 (fun k => z_act_lt (fun r hr => (hF.2.2 r hr).1) _) (by omega) 128 0 (by omega) e _ | (exfalso; omega)
      · skip
        refine AW.iconst 30 (nI 1) dX9_saying_29 (by decide) rfl ?_
        refine AW.goto 34 dX9_saying_30 (by decide) ?_
        refine AW.iaddN 35 dX9_saying_34 rfl ?_
        refine AW.ist4 37 dX9_saying_35 (by decide) rfl rfl ?_
        refine AW.iconst 38 (nI 0) dX9_saying_37 (by decide) rfl ?_
        refine AW.ist5 40 dX9_saying_38 (by decide) rfl rfl ?_
        refine L_X9_saying0 hb0 hF (fun M' y f1 f2 => ?_) 128 0 (by omega) M (fun _ _ => rfl) (fun j hj => absurd hj (by omega))
        have e := hgo k rfl (by omega) M' f1
        unfold z_lk at e
        (repeat' split at e) <;> first | exact L_X9_saying f2 (fun k => z_act_lt (fun r hr => (hF.2.2 r hr).1) _) (by omega) 128 0 (by omega) e _ | (exfalso; omega)
end SAYING4
