section SAYING3
variable {l : Launch} {g : zG} {d m0 m1 md : Nat} {M : zM} {n : Nat} {H : Nat → Nat → Nat → Bool} {A : Nat → Nat} {N : Nat → Int32}
theorem z_xor128 : ∀ e, e < 128 → ∀ s, s < 128 → (nI e ^^^ nI s) = nI (e ^^^ s) ∧ e ^^^ s < 128 := by decide +kernel
theorem z_xe {a b L : Nat} : (a ^^^ b) &&& L = 0 ↔ a &&& L = b &&& L := by
  rw [Nat.and_xor_distrib_right]
  constructor
  · intro h
    have h2 : (a &&& L) ^^^ ((a &&& L) ^^^ (b &&& L)) = (a &&& L) ^^^ 0 := by rw [h]
    rw [← Nat.xor_assoc, Nat.xor_self, Nat.zero_xor, Nat.xor_zero] at h2
    exact h2.symm
  · intro h; rw [h, Nat.xor_self]
theorem z_m32 : ∀ k, k < 128 → (nI k >>> (nI 5 &&& 31)) = nI (k / 32) ∧ (nI k &&& nI 31) = nI (k % 32) := by decide +kernel
theorem L_X9_saying0 (hb0 : zMb m0) (hF : f_mach M m0 n H A N) {x1 x2 x3 x4 : Int32} {Q : Int32 → zS → zM → Prop}
    (hQ : ∀ M' y, (∀ c, c ≠ 88 → M' c = M c) → (∀ k, k < 128 → M' 88 k = nI (z_aa n H A k)) → AW l g RX9 cX9_saying 7 (some .int) false (d + 1) 0 0 94 [some (.ref 0), some (.int x1), some (.int x2), some (.int x3), some (.int x4), some (.int (nI 0)), y] [] (ZS m0 m1 md) M' (z_Qi Q)) :
    ∀ (z k : Nat), k + z = 128 → ∀ M', (∀ c, c ≠ 88 → M' c = M c) → (∀ j, j < k → M' 88 j = nI (z_aa n H A j)) → AW l g RX9 cX9_saying 7 (some .int) false (d + 1) 0 0 40 [some (.ref 0), some (.int x1), some (.int x2), some (.int x3), some (.int x4), some (.int (nI k)), none] [] (ZS m0 m1 md) M' (z_Qi Q) := by
  have hbl := zMb_lt hb0
  intro z
  induction z with
  | zero =>
    intro k hk M' f h1
    have hk : k = 128 := by omega
    subst hk
    refine AW.iload 42 dX9_saying_40 rfl rfl ?_
    refine AW.sipush 45 (nI 128) dX9_saying_42 (by decide) rfl ?_
    refine AW.icmp_ge 48 91 dX9_saying_45 (by decide) rfl (fun _ => ?_) (fun h => absurd h (by decide))
    refine AW.iconst 92 (nI 0) dX9_saying_91 (by decide) rfl ?_
    refine AW.ist5 94 dX9_saying_92 (by decide) rfl rfl ?_
    exact hQ M' _ f h1
  | succ z ih =>
    intro k hk M' f h1
    obtain ⟨e1, e2⟩ := z_m32 k (by omega)
    have hF' := f_mach_frame (M' := M') hb0 (fun c c1 c2 => f c (by omega)) hF
    have h8 := hF.2.1
    have hr := z_fst_lt (fun r => (fun _ => true) r && H r (k / 32) (k % 32)) h8
    refine AW.iload 42 dX9_saying_40 rfl rfl ?_
    refine AW.sipush 45 (nI 128) dX9_saying_42 (by decide) rfl ?_
    refine AW.icmpN_ge 48 91 dX9_saying_45 (by decide) rfl (by omega) (by omega) (fun b45 => absurd b45 (by omega)) (fun b45 => ?_)
    refine AW.aload_n 49 dX9_saying_48 rfl rfl ?_
    refine AW.getR 52 dX9_saying_49 fX9_75 rfl (zI rfl rfl) rfl rfl ?_
    refine AW.iload 54 dX9_saying_52 rfl rfl ?_
    refine AW.aload_n 55 dX9_saying_54 rfl rfl ?_
    refine AW.getR 58 dX9_saying_55 fX9_28 rfl (zI rfl rfl) rfl rfl ?_
    refine AW.iconst 59 (nI 0) dX9_saying_58 (by decide) rfl ?_
    refine AW.aald 60 dX9_saying_59 (zA rfl rfl) (by decide) rfl (by omega) (by decide) rfl rfl ?_
    refine AW.aload_n 61 dX9_saying_60 rfl rfl ?_
    refine AW.getR 64 dX9_saying_61 fX9_28 rfl (zI rfl rfl) rfl rfl ?_
    refine AW.iconst 65 (nI 0) dX9_saying_64 (by decide) rfl ?_
    refine AW.aald 66 dX9_saying_65 (zA rfl rfl) (by decide) rfl (by omega) (by decide) rfl rfl ?_
    refine AW.sipush 69 (nI 255) dX9_saying_66 (by decide) rfl ?_
    refine AW.iload 71 dX9_saying_69 rfl rfl ?_
    refine AW.iconst 72 (nI 5) dX9_saying_71 (by decide) rfl ?_
    refine AW.ishr 73 dX9_saying_72 rfl ?_
    refine AW.topi (nI (k / 32)) e1 ?_
    refine AW.iload 75 dX9_saying_73 rfl rfl ?_
    refine AW.bipush 77 (nI 31) dX9_saying_75 (by decide) rfl ?_
    refine AW.iand 78 dX9_saying_77 rfl ?_
    refine AW.topi (nI (k % 32)) e2 ?_
    refine AW.cVi3 81 dX9_saying_78 kX9_170 (zMb_is hb0) (Nat.le_of_ble_eq_true rfl) rfl (C_X2_choose (M := M') hb0 hF' hp255 (by omega) (by omega) ?_)
    refine AW.cVi1 84 dX9_saying_81 kX9_293 (zMb_is hb0) (Nat.le_of_ble_eq_true rfl) rfl (C_X2_actOf (M := M') hb0 hF' hr ?_)
    refine AW.iast 85 dX9_saying_84 (zA rfl rfl) rfl (by omega) (by decide) rfl ?_
    refine AW.iinc5 88 _ dX9_saying_85 (z_inc1 _) (by decide) rfl rfl ?_
    refine AW.goto 40 dX9_saying_88 (by decide) ?_
    refine ih (k + 1) (by omega) _ (fun c c1 => by rw [z_st_ne c1]; exact f c c1) (fun t ht => ?_)
    rw [z_st_at]
    by_cases h : t = k
    · subst h; simp only [upd, if_true]; rfl
    · simp only [upd, if_neg h]; exact h1 t (by omega)
theorem L_X9_sayingB {F : Nat → Nat} (hA : ∀ k, k < 128 → M 88 k = nI (F k)) (hF4 : ∀ k, F k < 4) {L a : Nat} (hL : L < 128) (ha : a < 128) {x1 x2 x3 : Int32} {Q : Int32 → zS → zM → Prop}
    (h1 : ∀ v, z_sb (z_sE L F) a (127 - a) (a + 1) = some v → Q (nI v) (ZS m0 m1 md) M)
    (h0 : z_sb (z_sE L F) a (127 - a) (a + 1) = none → ∀ y, AW l g RX9 cX9_saying 7 (some .int) false d 0 0 94 [some (.ref 0), some (.int x1), some (.int x2), some (.int x3), some (.int (nI L)), some (.int (nI (a + 1))), y] [] (ZS m0 m1 md) M (z_Qi Q)) :
    ∀ (z b : Nat), b + z = 128 → z_sb (z_sE L F) a z b = z_sb (z_sE L F) a (127 - a) (a + 1) → AW l g RX9 cX9_saying 7 (some .int) false d 0 0 108 [some (.ref 0), some (.int x1), some (.int x2), some (.int x3), some (.int (nI L)), some (.int (nI a)), some (.int (nI b))] [] (ZS m0 m1 md) M (z_Qi Q) := by
  intro z
  induction z with
  | zero =>
    intro b hb hz
    have hb : b = 128 := by omega
    subst hb
    refine AW.iload 110 dX9_saying_108 rfl rfl ?_
    refine AW.sipush 113 (nI 128) dX9_saying_110 (by decide) rfl ?_
    refine AW.icmp_ge 116 160 dX9_saying_113 (by decide) rfl (fun _ => ?_) (fun h => absurd h (by decide))
    refine AW.iinc5 163 _ dX9_saying_160 (z_inc1 _) (by decide) rfl rfl ?_
    refine AW.goto 94 dX9_saying_163 (by decide) ?_
    exact h0 (by rw [← hz]; rfl) _
  | succ z ih =>
    intro b hb hz
    rw [z_sb] at hz
    obtain ⟨e1, l1⟩ := z_xor128 a ha b (by omega)
    have e2 := z_and128 (a ^^^ b) l1 L hL
    have l2 : (a ^^^ b) &&& L < 128 := Nat.lt_of_le_of_lt Nat.and_le_left l1
    have xe := z_xe (a := a) (b := b) (L := L)
    have s1 := hF4 a
    have s2 := hF4 b
    refine AW.iload 110 dX9_saying_108 rfl rfl ?_
    refine AW.sipush 113 (nI 128) dX9_saying_110 (by decide) rfl ?_
    refine AW.icmpN_ge 116 160 dX9_saying_113 (by decide) rfl (by omega) (by omega) (fun b113 => absurd b113 (by omega)) (fun b113 => ?_)
    refine AW.iload 118 dX9_saying_116 rfl rfl ?_
    refine AW.iload 120 dX9_saying_118 rfl rfl ?_
    refine AW.ixor 121 dX9_saying_120 rfl ?_
    refine AW.topi (nI (a ^^^ b)) e1 ?_
    refine AW.iload 123 dX9_saying_121 rfl rfl ?_
    refine AW.iand 124 dX9_saying_123 rfl ?_
    refine AW.topi (nI ((a ^^^ b) &&& L)) e2 ?_
    refine AW.ifN_ne 127 154 dX9_saying_124 (by decide) rfl (by omega) (fun b124 => ?_) (fun b124 => ?_)
    · skip
      refine AW.iinc6 157 _ dX9_saying_154 (z_inc1 _) (by decide) rfl rfl ?_
      refine AW.goto 108 dX9_saying_157 (by decide) ?_
      refine ih (b + 1) (by omega) ?_
      rw [if_neg (by unfold z_sE; rw [Bool.and_eq_true, decide_eq_true_eq, decide_eq_true_eq, ← xe]; omega)] at hz
      exact hz
    · skip
      refine AW.aload_n 128 dX9_saying_127 rfl rfl ?_
      refine AW.getR 131 dX9_saying_128 fX9_75 rfl (zI rfl rfl) rfl rfl ?_
      refine AW.iload 133 dX9_saying_131 rfl rfl ?_
      refine AW.iald 134 dX9_saying_133 (zA rfl rfl) rfl (by omega) (by decide) rfl ?_
      refine AW.topi (nI (F a)) (hA a (by omega)) ?_
      refine AW.aload_n 135 dX9_saying_134 rfl rfl ?_
      refine AW.getR 138 dX9_saying_135 fX9_75 rfl (zI rfl rfl) rfl rfl ?_
      refine AW.iload 140 dX9_saying_138 rfl rfl ?_
      refine AW.iald 141 dX9_saying_140 (zA rfl rfl) rfl (by omega) (by decide) rfl ?_
      refine AW.topi (nI (F b)) (hA b (by omega)) ?_
      refine AW.icmpN_eq 144 154 dX9_saying_141 (by decide) rfl (by omega) (by omega) (fun b141 => ?_) (fun b141 => ?_)
      · skip
        refine AW.iinc6 157 _ dX9_saying_154 (z_inc1 _) (by decide) rfl rfl ?_
        refine AW.goto 108 dX9_saying_157 (by decide) ?_
        refine ih (b + 1) (by omega) ?_
        rw [if_neg (by unfold z_sE; rw [Bool.and_eq_true, decide_eq_true_eq, decide_eq_true_eq, ← xe]; omega)] at hz
        exact hz
      · skip
        refine AW.sipush 147 (nI 128) dX9_saying_144 (by decide) rfl ?_
        refine AW.iload 149 dX9_saying_147 rfl rfl ?_
        refine AW.imulN 150 dX9_saying_149 rfl ?_
        refine AW.iload 152 dX9_saying_150 rfl rfl ?_
        refine AW.iaddN 153 dX9_saying_152 rfl ?_
        refine AW.iret dX9_saying_153 .int rfl rfl rfl ⟨_, rfl, ?_⟩
        refine h1 _ ?_
        rw [← hz, if_pos (by unfold z_sE; rw [Bool.and_eq_true, decide_eq_true_eq, decide_eq_true_eq, ← xe]; omega)]
end SAYING3
