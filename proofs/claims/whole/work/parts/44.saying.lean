def z_aa (n : Nat) (H : Nat → Nat → Nat → Bool) (A : Nat → Nat) (k : Nat) : Nat := z_act n A (z_ch n H (fun _ => true) (k / 32) (k % 32))
def z_sb (E : Nat → Nat → Bool) (a : Nat) : Nat → Nat → Option Nat
  | 0, _ => none
  | z + 1, b => if E a b = true then some (128 * a + b) else z_sb E a z (b + 1)
def z_sy (E : Nat → Nat → Bool) : Nat → Nat → Int32
  | 0, _ => -4
  | z + 1, a => match z_sb E a (127 - a) (a + 1) with
    | some v => nI v
    | none => z_sy E z (a + 1)
def z_sE (L : Nat) (f : Nat → Nat) (a b : Nat) : Bool := decide (a &&& L = b &&& L) && decide (f b ≠ f a)
theorem z_and128 : ∀ e, e < 128 → ∀ s, s < 128 → (nI e &&& nI s) = nI (e &&& s) := by decide +kernel
section SAYING
variable {l : Launch} {g : zG} {d m0 m1 md : Nat} {M : zM} {n : Nat} {H : Nat → Nat → Nat → Bool} {A : Nat → Nat} {N : Nat → Int32}
theorem C_X10_actAt (hG : g_mach M 0 n H A N) {k : Nat} (hk : k < 128) {Q : Int32 → zS → zM → Prop} (hQ : Q (nI (z_aa n H A k)) (ZS m0 m1 md) M) : AMet l g yX10_actAt cX10_actAt 3 (some .int) (d + 1) 0 0 [.ref 99, .int (nI k)] (ZS m0 m1 md) M (z_Qi Q) := by
  have h8 := hG.2.1
  have e : 32 * (k / 32) + k % 32 = k := by omega
  have hr := z_fst_or (fun r => (fun _ => true) r && H r (k / 32) (k % 32)) n 0
  have hch : ∀ Q : Int32 → zS → zM → Prop, Q (nI (z_ch n H (fun _ => true) (k / 32) (k % 32))) (ZS m0 m1 md) M → AMet l g yX10_chosen cX10_chosen 5 (some .int) d 0 0 [.ref 99, .int (nI 0), .int (nI k), .int (nI 0)] (ZS m0 m1 md) M (z_Qi Q) := fun Q hq => by
    have := C_X10_chosen (l := l) (g := g) (d := d) (m0 := m0) (m1 := m1) (md := md) (M := M) (m := 0) (pr := fun _ => true) (wo := nI 0) (by decide) hG hp0 (st := k / 32) (x := k % 32) (by omega) (by omega) hq
    rw [e] at this
    exact this
  unfold z_aa at hQ
  change z_ch n H (fun _ => true) (k / 32) (k % 32) < 0 + n ∨ z_ch n H (fun _ => true) (k / 32) (k % 32) = 8 at hr
  generalize z_ch n H (fun _ => true) (k / 32) (k % 32) = r at *
  refine AMet.of (ini := false) rfl (fun h => by first | rfl | cases h) (Nat.le_of_ble_eq_true rfl) ?_
  show AW l g RX10 cX10_actAt 3 (some .int) false _ _ _ 0 [some (.ref 99), some (.int (nI k)), none] [] _ _ _
  refine AW.aload_n 1 dX10_actAt_0 rfl rfl ?_
  refine AW.iconst 2 (nI 0) dX10_actAt_1 (by decide) rfl ?_
  refine AW.iload_n 3 dX10_actAt_2 rfl rfl ?_
  refine AW.iconst 4 (nI 0) dX10_actAt_3 (by decide) rfl ?_
  refine AW.cVi3 7 dX10_actAt_4 kX10_196 (zI rfl rfl) (Nat.le_of_ble_eq_true rfl) rfl (hch _ ?_)
  refine AW.istn2 8 dX10_actAt_7 (by decide) rfl rfl ?_
  refine AW.iload_n 9 dX10_actAt_8 rfl rfl ?_
  refine AW.bipush 11 (nI 8) dX10_actAt_9 (by decide) rfl ?_
  refine AW.icmpN_ne 14 18 dX10_actAt_11 (by decide) rfl (by omega) (by omega) (fun b11 => ?_) (fun b11 => ?_)
  · skip
    refine AW.aload_n 19 dX10_actAt_18 rfl rfl ?_
    refine AW.getR 22 dX10_actAt_19 fX10_29 rfl (zI rfl rfl) rfl rfl ?_
    refine AW.iload_n 23 dX10_actAt_22 rfl rfl ?_
    refine AW.iald 24 dX10_actAt_23 (zA rfl rfl) rfl (by omega) (by decide) rfl ?_
    refine AW.iret dX10_actAt_24 .int rfl rfl rfl ⟨_, rfl, ?_⟩
    unfold z_act at hQ
    first | (rw [if_neg (by omega)] at hQ; exact hQ) | (rw [if_pos (by omega)] at hQ; have q := (hG.2.2 r (by omega)).2.1; rw [← q] at hQ; rw [show 8 * 0 + r = r by omega] at hQ; exact hQ)
  · skip
    refine AW.iconst 15 (nI 0) dX10_actAt_14 (by decide) rfl ?_
    refine AW.goto 24 dX10_actAt_15 (by decide) ?_
    refine AW.iret dX10_actAt_24 .int rfl rfl rfl ⟨_, rfl, ?_⟩
    unfold z_act at hQ
    first | (rw [if_neg (by omega)] at hQ; exact hQ) | (rw [if_pos (by omega)] at hQ; have q := (hG.2.2 r (by omega)).2.1; rw [← q] at hQ; rw [show 8 * 0 + r = r by omega] at hQ; exact hQ)
theorem L_X10_sayingB (hG : g_mach M 0 n H A N) {L a : Nat} (hL : L < 128) (ha : a < 128) {f x1 x2 x3 : Int32} {Q : Int32 → zS → zM → Prop}
    (h1 : ∀ v, z_sb (z_sE L (z_aa n H A)) a (127 - a) (a + 1) = some v → Q (nI v) (ZS m0 m1 md) M)
    (h0 : z_sb (z_sE L (z_aa n H A)) a (127 - a) (a + 1) = none → ∀ y z, AW l g RX10 cX10_saying 8 (some .int) false (d + 2) 0 0 43 [some (.ref 99), some (.int x1), some (.int x2), some (.int x3), some (.int (nI L)), some (.int (nI (a + 1))), y, z] [] (ZS m0 m1 md) M (z_Qi Q)) :
    ∀ (z b : Nat), b + z = 128 → z_sb (z_sE L (z_aa n H A)) a z b = z_sb (z_sE L (z_aa n H A)) a (127 - a) (a + 1) → AW l g RX10 cX10_saying 8 (some .int) false (d + 2) 0 0 65 [some (.ref 99), some (.int x1), some (.int x2), some (.int x3), some (.int (nI L)), some (.int (nI a)), some (.int (nI (z_aa n H A a))), some (.int (nI b))] [] (ZS m0 m1 md) M (z_Qi Q) := by
  intro z
  induction z with
  | zero =>
    intro b hb hz
    have hb : b = 128 := by omega
    subst hb
    refine AW.iload 67 dX10_saying_65 rfl rfl ?_
    refine AW.sipush 70 (nI 128) dX10_saying_67 (by decide) rfl ?_
    refine AW.icmp_ge 73 113 dX10_saying_70 (by decide) rfl (fun _ => ?_) (fun h => absurd h (by decide))
    refine AW.iinc5 116 _ dX10_saying_113 (z_inc1 _) (by decide) rfl rfl ?_
    refine AW.goto 43 dX10_saying_116 (by decide) ?_
    exact h0 (by rw [← hz]; rfl) _ _
  | succ z ih =>
    intro b hb hz
    rw [z_sb] at hz
    have e1 := z_and128 a ha L hL
    have e2 := z_and128 b (by omega) L hL
    have l1 : a &&& L < 128 := Nat.lt_of_le_of_lt Nat.and_le_left ha
    have l2 : b &&& L < 128 := Nat.lt_of_le_of_lt Nat.and_le_left (by omega)
    have s1 : z_aa n H A a < 4 := z_act_lt (fun r hr => (hG.2.2 r hr).1) _
    have s2 : z_aa n H A b < 4 := z_act_lt (fun r hr => (hG.2.2 r hr).1) _
    refine AW.iload 67 dX10_saying_65 rfl rfl ?_
    refine AW.sipush 70 (nI 128) dX10_saying_67 (by decide) rfl ?_
    refine AW.icmpN_ge 73 113 dX10_saying_70 (by decide) rfl (by omega) (by omega) (fun b70 => absurd b70 (by omega)) (fun b70 => ?_)
    refine AW.iload 75 dX10_saying_73 rfl rfl ?_
    refine AW.iload 77 dX10_saying_75 rfl rfl ?_
    refine AW.iand 78 dX10_saying_77 rfl ?_
    refine AW.topi (nI (a &&& L)) e1 ?_
    refine AW.iload 80 dX10_saying_78 rfl rfl ?_
    refine AW.iload 82 dX10_saying_80 rfl rfl ?_
    refine AW.iand 83 dX10_saying_82 rfl ?_
    refine AW.topi (nI (b &&& L)) e2 ?_
    refine AW.icmpN_ne 86 107 dX10_saying_83 (by decide) rfl (by omega) (by omega) (fun b83 => ?_) (fun b83 => ?_)
    · skip
      refine AW.iinc7 110 _ dX10_saying_107 (z_inc1 _) (by decide) rfl rfl ?_
      refine AW.goto 65 dX10_saying_110 (by decide) ?_
      refine ih (b + 1) (by omega) ?_
      rw [if_neg (by unfold z_sE; rw [Bool.and_eq_true, decide_eq_true_eq, decide_eq_true_eq]; omega)] at hz
      exact hz
    · skip
      refine AW.aload_n 87 dX10_saying_86 rfl rfl ?_
      refine AW.iload 89 dX10_saying_87 rfl rfl ?_
      refine AW.cVi1 92 dX10_saying_89 kX10_272 (zI rfl rfl) (Nat.le_of_ble_eq_true rfl) rfl (C_X10_actAt hG (k := b) (by omega) ?_)
      refine AW.iload 94 dX10_saying_92 rfl rfl ?_
      refine AW.icmpN_eq 97 107 dX10_saying_94 (by decide) rfl (by omega) (by omega) (fun b94 => ?_) (fun b94 => ?_)
      · skip
        refine AW.iinc7 110 _ dX10_saying_107 (z_inc1 _) (by decide) rfl rfl ?_
        refine AW.goto 65 dX10_saying_110 (by decide) ?_
        refine ih (b + 1) (by omega) ?_
        rw [if_neg (by unfold z_sE; rw [Bool.and_eq_true, decide_eq_true_eq, decide_eq_true_eq]; omega)] at hz
        exact hz
      · skip
        refine AW.sipush 100 (nI 128) dX10_saying_97 (by decide) rfl ?_
        refine AW.iload 102 dX10_saying_100 rfl rfl ?_
        refine AW.imulN 103 dX10_saying_102 rfl ?_
        refine AW.iload 105 dX10_saying_103 rfl rfl ?_
        refine AW.iaddN 106 dX10_saying_105 rfl ?_
        refine AW.iret dX10_saying_106 .int rfl rfl rfl ⟨_, rfl, ?_⟩
        refine h1 _ ?_
        rw [← hz, if_pos (by unfold z_sE; rw [Bool.and_eq_true, decide_eq_true_eq, decide_eq_true_eq]; omega)]
end SAYING
