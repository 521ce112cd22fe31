theorem z_shb : ∀ b, b < 2 → ∀ r, r < 8 → (nI b <<< (nI r &&& 31)) = nI (b * 2 ^ r) := by decide +kernel
theorem z_or1 : ∀ q, q < 256 → ∀ r, r < 8 → (nI q ||| nI (1 * 2 ^ r)) = nI (q ||| 2 ^ r) := by decide +kernel
def z_pr1 (n so : Nat) (mk : Nat → Nat) (j : Nat) : Bool := decide (j < n) && so.testBit (mk j)
section CCOMES
variable {l : Launch} {g : zG} {d m0 m1 md : Nat} {M : zM} {T n t b : Nat} {H : Nat → Nat → Nat → Bool} {A : Nat → Nat} {N : Nat → Int32} {mk tk tt tn sg lt : Nat → Nat}
theorem L_X2_rulesOf (hb : zMb b) (hn : M b 4 = nI n) (h8 : n ≤ 8) (hmk : ∀ r, r < n → M (b + 1) r = nI (mk r) ∧ mk r < 4) {so : Nat} (hso : so < 16) {Q : Int32 → zS → zM → Prop} (hQ : ∀ q, q < 256 → (∀ j, j < 8 → q.testBit j = z_pr1 n so mk j) → Q (nI q) (ZS m0 m1 md) M) :
    ∀ (z r : Nat), r + z = n → ∀ q, q < 256 → (∀ j, j < 8 → q.testBit j = z_pr1 r so mk j) → AW l g RX2 cX2_rulesOf 4 (some .int) false d 0 0 4 [some (.ref b), some (.int (nI so)), some (.int (nI q)), some (.int (nI r))] [] (ZS m0 m1 md) M (z_Qi Q) := by
  intro z
  induction z with
  | zero =>
    intro r hr q hq hbi
    have hr : r = n := by omega
    subst hr
    refine AW.iload_n 5 dX2_rulesOf_4 rfl rfl ?_
    refine AW.aload_n 6 dX2_rulesOf_5 rfl rfl ?_
    refine AW.getI 9 dX2_rulesOf_6 fX2_26 rfl (zMb_is hb) rfl ?_
    refine AW.topi (nI r) hn ?_
    refine AW.icmpN_ge 12 33 dX2_rulesOf_9 (by decide) rfl (by omega) (by omega) (fun b9 => ?_) (fun b9 => absurd b9 (by omega))
    refine AW.iload_n 34 dX2_rulesOf_33 rfl rfl ?_
    refine AW.iret dX2_rulesOf_34 .int rfl rfl rfl ⟨_, rfl, ?_⟩
    exact hQ q hq hbi
  | succ z ih =>
    intro r hr q hq hbi
    obtain ⟨k1, k2⟩ := hmk r (by omega)
    have e1 := z_bit so (by omega) (mk r) (by omega)
    have hbl : (so.testBit (mk r)).toNat < 2 := by cases so.testBit (mk r) <;> decide
    have e2 := z_shb _ hbl r (by omega)
    have o2 := z_orbb q hq r (by omega)
    have hst : ∀ j, j < 8 → z_pr1 (r + 1) so mk j = (z_pr1 r so mk j || ((r == j) && so.testBit (mk r))) := fun j hj => by
      unfold z_pr1
      by_cases hjr : j = r
      · subst hjr; simp
      · have h1 : (r == j) = false := by rw [beq_eq_false_iff_ne]; exact fun z => hjr z.symm
        rw [h1, show decide (j < r + 1) = decide (j < r) from by congr 1; apply propext; omega]; simp
    obtain ⟨q', hq', ev, hb'⟩ : ∃ q', q' < 256 ∧ (nI q ||| nI ((so.testBit (mk r)).toNat * 2 ^ r)) = nI q' ∧ ∀ j, j < 8 → q'.testBit j = z_pr1 (r + 1) so mk j := by
      cases hc : so.testBit (mk r) with
      | false =>
        refine ⟨q, hq, ?_, fun j hj => by rw [hst j hj, hc, hbi j hj]; simp⟩
        rw [show (false.toNat * 2 ^ r) = 0 from by simp]; exact z_or0 q hq
      | true =>
        refine ⟨q ||| 2 ^ r, o2.1, z_or1 q hq r (by omega), fun j hj => by rw [hst j hj, hc, o2.2 j hj, hbi j hj]; simp⟩
    refine AW.iload_n 5 dX2_rulesOf_4 rfl rfl ?_
    refine AW.aload_n 6 dX2_rulesOf_5 rfl rfl ?_
    refine AW.getI 9 dX2_rulesOf_6 fX2_26 rfl (zMb_is hb) rfl ?_
    refine AW.topi (nI n) hn ?_
    refine AW.icmpN_ge 12 33 dX2_rulesOf_9 (by decide) rfl (by omega) (by omega) (fun b9 => absurd b9 (by omega)) (fun b9 => ?_)
    refine AW.iload_n 13 dX2_rulesOf_12 rfl rfl ?_
    refine AW.iload_n 14 dX2_rulesOf_13 rfl rfl ?_
    refine AW.aload_n 15 dX2_rulesOf_14 rfl rfl ?_
    refine AW.getR 18 dX2_rulesOf_15 fX2_9 rfl (zMb_is hb) (zMb_r0 hb) rfl ?_
    refine AW.iload_n 19 dX2_rulesOf_18 rfl rfl ?_
    refine AW.iald 20 dX2_rulesOf_19 (zMb_a1 hb) rfl (by omega) (by decide) rfl ?_
    refine AW.topi (nI (mk r)) k1 ?_
    refine AW.ishr 21 dX2_rulesOf_20 rfl ?_
    refine AW.iconst 22 (nI 1) dX2_rulesOf_21 (by decide) rfl ?_
    refine AW.iand 23 dX2_rulesOf_22 rfl ?_
    refine AW.topi (nI (so.testBit (mk r)).toNat) e1 ?_
    refine AW.iload_n 24 dX2_rulesOf_23 rfl rfl ?_
    refine AW.ishl 25 dX2_rulesOf_24 rfl ?_
    refine AW.topi (nI ((so.testBit (mk r)).toNat * 2 ^ r)) e2 ?_
    refine AW.ior 26 dX2_rulesOf_25 rfl ?_
    refine AW.topi (nI q') ev ?_
    refine AW.istn2 27 dX2_rulesOf_26 (by decide) rfl rfl ?_
    refine AW.iinc3 30 _ dX2_rulesOf_27 (z_inc1 _) (by decide) rfl rfl ?_
    refine AW.goto 4 dX2_rulesOf_30 (by decide) ?_
    exact ih (r + 1) (by omega) q' hq' hb'
theorem C_X2_rulesOf (hb : zMb b) (hn : M b 4 = nI n) (h8 : n ≤ 8) (hmk : ∀ r, r < n → M (b + 1) r = nI (mk r) ∧ mk r < 4) {so : Nat} (hso : so < 16) {Q : Int32 → zS → zM → Prop} (hQ : ∀ q, q < 256 → (∀ j, j < 8 → q.testBit j = z_pr1 n so mk j) → Q (nI q) (ZS m0 m1 md) M) : AMet l g yX2_rulesOf cX2_rulesOf 4 (some .int) d 0 0 [.ref b, .int (nI so)] (ZS m0 m1 md) M (z_Qi Q) := by
  refine AMet.of (ini := false) rfl (fun h => by first | rfl | cases h) (Nat.le_of_ble_eq_true rfl) ?_
  show AW l g RX2 cX2_rulesOf 4 (some .int) false _ _ _ 0 [some (.ref b), some (.int (nI so)), none, none] [] _ _ _
  refine AW.iconst 1 (nI 0) dX2_rulesOf_0 (by decide) rfl ?_
  refine AW.istn2 2 dX2_rulesOf_1 (by decide) rfl rfl ?_
  refine AW.iconst 3 (nI 0) dX2_rulesOf_2 (by decide) rfl ?_
  refine AW.istn3 4 dX2_rulesOf_3 (by decide) rfl rfl ?_
  exact L_X2_rulesOf hb hn h8 hmk hso hQ n 0 (by omega) 0 (by decide) (fun j _ => by rw [Nat.zero_testBit]; unfold z_pr1; simp)
theorem L_X7_undo (ht : M 83 3 = nI t) (ht2 : t ≤ 6) (hth : ∀ k, k < t → M 84 k = nI (tk k) ∧ M 85 k = nI (tt k) ∧ M 86 k = nI (tn k)) (hok : z_tok t tk tt tn) {s : Nat} (hs : s < 64) (hsg : ∀ i, i < 12 → sg i < 16) (hlt : ∀ i, i < 12 → lt i < 2) {pr : Nat → Bool} {Q : Int32 → zS → zM → Prop} (hQ : ∀ (M' : zM) (q : Nat), (∀ c, c ≠ 65 → c ≠ 66 → M' c = M c) → (∀ i, i < 12 → M' 65 i = nI (z_uS s tk tt tn sg t i) ∧ M' 66 i = nI (z_uL s tk tt lt t i)) → q < 256 → (∀ j, j < 8 → q.testBit j = z_uP s tk tn pr t j) → Q (nI q) (ZS m0 m1 md) M') :
    ∀ (z k : Nat), k + z = t → ∀ (M' : zM) (q : Nat), (∀ c, c ≠ 65 → c ≠ 66 → M' c = M c) → (∀ i, i < 12 → M' 65 i = nI (z_uS s tk tt tn sg k i) ∧ M' 66 i = nI (z_uL s tk tt lt k i)) → q < 256 → (∀ j, j < 8 → q.testBit j = z_uP s tk tn pr k j) → AW l g RX7 cX7_undo 5 (some .int) false d 0 0 7 [some (.ref 83), some (.int (nI s)), some (.ref 64), some (.int (nI q)), some (.int (nI k))] [] (ZS m0 m1 md) M' (z_Qi Q) := by
  intro z
  induction z with
  | zero =>
    intro k hk M' q h1 h2 hq hb
    have hk : k = t := by omega
    subst hk
    have q0 : M' 83 3 = nI k := by rw [h1 83 (by decide) (by decide)]; exact ht
    refine AW.iload 9 dX7_undo_7 rfl rfl ?_
    refine AW.aload_n 10 dX7_undo_9 rfl rfl ?_
    refine AW.getI 13 dX7_undo_10 fX7_21 rfl (zI rfl rfl) rfl ?_
    refine AW.topi (nI k) q0 ?_
    refine AW.icmpN_ge 16 115 dX7_undo_13 (by decide) rfl (by omega) (by omega) (fun b13 => ?_) (fun b13 => absurd b13 (by omega))
    refine AW.iload_n 116 dX7_undo_115 rfl rfl ?_
    refine AW.iret dX7_undo_116 .int rfl rfl rfl ⟨_, rfl, ?_⟩
    exact hQ M' q h1 h2 hq hb
  | succ z ih =>
    intro k hk M' q h1 h2 hq hb
    have q0 : M' 83 3 = nI t := by rw [h1 83 (by decide) (by decide)]; exact ht
    obtain ⟨k1, k2, k3⟩ := hth k (by omega)
    obtain ⟨j1, j2, j3, j4⟩ := hok k (by omega)
    have r1 : M' 84 k = nI (tk k) := by rw [h1 84 (by decide) (by decide)]; exact k1
    have r2 : M' 85 k = nI (tt k) := by rw [h1 85 (by decide) (by decide)]; exact k2
    have r3 : M' 86 k = nI (tn k) := by rw [h1 86 (by decide) (by decide)]; exact k3
    have e1 := z_bit s (by omega) k (by omega)
    have hS := z_uS_lt (s := s) hok hsg k (by omega) (tt k) (by omega)
    have hLl := z_uL_lt (s := s) (tk := tk) (tt := tt) hlt k (tt k) (by omega)
    have o1 := z_clr q hq (tn k) (by omega)
    have o2 := z_clrb q hq (tn k) (by omega)
    have hbl : (s.testBit k).toNat < 2 := by cases s.testBit k <;> decide
    have hv : (s.testBit k).toNat = 0 ↔ ¬ s.testBit k = true := by cases s.testBit k <;> decide
    have uS0 : ∀ i, ¬ (s.testBit k = true ∧ tk k = 0 ∧ i = tt k) → z_uS s tk tt tn sg (k + 1) i = z_uS s tk tt tn sg k i := fun i h => by show ite _ _ _ = _; rw [if_neg h]
    have uL0 : ∀ i, ¬ (s.testBit k = true ∧ tk k = 1 ∧ i = tt k) → z_uL s tk tt lt (k + 1) i = z_uL s tk tt lt k i := fun i h => by show ite _ _ _ = _; rw [if_neg h]
    have p0 : ¬ (s.testBit k = true ∧ tk k = 2) → ∀ j, j < 8 → q.testBit j = z_uP s tk tn pr (k + 1) j := fun a j hj => by
      show _ = (z_uP s tk tn pr k j && !(s.testBit k && tk k == 2 && tn k == j))
      rw [hb j hj]
      have : (s.testBit k && tk k == 2) = false := by
        rw [Bool.eq_false_iff]; intro z; rw [Bool.and_eq_true, beq_iff_eq] at z; exact a z
      rw [this]; simp
    have p2 : s.testBit k = true → tk k = 2 → ∀ j, j < 8 → (q &&& (255 ^^^ 2 ^ tn k)).testBit j = z_uP s tk tn pr (k + 1) j := fun a b j hj => by
      show _ = (z_uP s tk tn pr k j && !(s.testBit k && tk k == 2 && tn k == j))
      rw [o2.2 j hj, hb j hj, a, b]; simp
    have x4 : tk k = 0 → (nI (z_uS s tk tt tn sg k (tt k)) ^^^ (nI 1 <<< (nI (tn k) &&& 31))) = nI (z_uS s tk tt tn sg k (tt k) ^^^ 2 ^ tn k) := fun h => z_xor4 _ hS _ (by have := j4 h; omega)
    have y1 : (nI (z_uL s tk tt lt k (tt k)) ^^^ nI 1) = nI (z_uL s tk tt lt k (tt k) ^^^ 1) := z_xor1 _ hLl
    have fn : ∀ q', q' < 256 → ¬ (s.testBit k = true ∧ tk k = 0) → ¬ (s.testBit k = true ∧ tk k = 1) → (∀ j, j < 8 → q'.testBit j = z_uP s tk tn pr (k + 1) j) → AW l g RX7 cX7_undo 5 (some .int) false d 0 0 7 [some (.ref 83), some (.int (nI s)), some (.ref 64), some (.int (nI q')), some (.int (nI (k + 1)))] [] (ZS m0 m1 md) M' (z_Qi Q) := fun q' a1 a2 a3 a4 =>
      ih (k + 1) (by omega) M' q' h1 (fun i hi => by rw [uS0 i (fun z => a2 ⟨z.1, z.2.1⟩), uL0 i (fun z => a3 ⟨z.1, z.2.1⟩)]; exact h2 i hi) a1 a4
    have fS : s.testBit k = true → tk k = 0 → AW l g RX7 cX7_undo 5 (some .int) false d 0 0 7 [some (.ref 83), some (.int (nI s)), some (.ref 64), some (.int (nI q)), some (.int (nI (k + 1)))] [] (ZS m0 m1 md) (z_st M' 65 (tt k) (nI (z_uS s tk tt tn sg k (tt k) ^^^ 2 ^ tn k))) (z_Qi Q) := by
      intro a b
      refine ih (k + 1) (by omega) _ q (fun c c1 c2 => by rw [z_st_ne c1]; exact h1 c c1 c2) (fun i hi => ?_) hq (p0 (fun z => by omega))
      rw [z_st_at, z_st_ne (by decide : (66 : Nat) ≠ 65), uL0 i (fun z => by omega)]
      unfold upd
      by_cases hit : i = tt k
      · rw [if_pos hit, hit]; refine ⟨?_, (h2 (tt k) (by omega)).2⟩; show _ = nI (ite _ _ _); rw [if_pos ⟨a, b, rfl⟩]
      · rw [if_neg hit, uS0 i (fun z => hit z.2.2)]; exact h2 i hi
    have fL : s.testBit k = true → tk k = 1 → AW l g RX7 cX7_undo 5 (some .int) false d 0 0 7 [some (.ref 83), some (.int (nI s)), some (.ref 64), some (.int (nI q)), some (.int (nI (k + 1)))] [] (ZS m0 m1 md) (z_st M' 66 (tt k) (nI (z_uL s tk tt lt k (tt k) ^^^ 1))) (z_Qi Q) := by
      intro a b
      refine ih (k + 1) (by omega) _ q (fun c c1 c2 => by rw [z_st_ne c2]; exact h1 c c1 c2) (fun i hi => ?_) hq (p0 (fun z => by omega))
      rw [z_st_at, z_st_ne (by decide : (65 : Nat) ≠ 66), uS0 i (fun z => by omega)]
      unfold upd
      by_cases hit : i = tt k
      · rw [if_pos hit, hit]; refine ⟨(h2 (tt k) (by omega)).1, ?_⟩; show _ = nI (ite _ _ _); rw [if_pos ⟨a, b, rfl⟩]
      · rw [if_neg hit, uL0 i (fun z => hit z.2.2)]; exact h2 i hi
    refine AW.iload 9 dX7_undo_7 rfl rfl ?_
    refine AW.aload_n 10 dX7_undo_9 rfl rfl ?_
    refine AW.getI 13 dX7_undo_10 fX7_21 rfl (zI rfl rfl) rfl ?_
    refine AW.topi (nI t) q0 ?_
    refine AW.icmpN_ge 16 115 dX7_undo_13 (by decide) rfl (by omega) (by omega) (fun b13 => absurd b13 (by omega)) (fun b13 => ?_)
    refine AW.iload_n 17 dX7_undo_16 rfl rfl ?_
    refine AW.iload 19 dX7_undo_17 rfl rfl ?_
    refine AW.ishr 20 dX7_undo_19 rfl ?_
    refine AW.iconst 21 (nI 1) dX7_undo_20 (by decide) rfl ?_
    refine AW.iand 22 dX7_undo_21 rfl ?_
    refine AW.topi (nI (s.testBit k).toNat) e1 ?_
    refine AW.ifN_ne 25 28 dX7_undo_22 (by decide) rfl (by omega) (fun b22 => ?_) (fun b22 => ?_)
    · skip
      refine AW.aload_n 29 dX7_undo_28 rfl rfl ?_
      refine AW.getR 32 dX7_undo_29 fX7_9 rfl (zI rfl rfl) rfl rfl ?_
      refine AW.iload 34 dX7_undo_32 rfl rfl ?_
      refine AW.iald 35 dX7_undo_34 (zA rfl rfl) rfl (by omega) (by decide) rfl ?_
      refine AW.topi (nI (tk k)) r1 ?_
      refine AW.ifN_ne 38 65 dX7_undo_35 (by decide) rfl (by omega) (fun b35 => ?_) (fun b35 => ?_)
      · skip
        refine AW.aload_n 66 dX7_undo_65 rfl rfl ?_
        refine AW.getR 69 dX7_undo_66 fX7_9 rfl (zI rfl rfl) rfl rfl ?_
        refine AW.iload 71 dX7_undo_69 rfl rfl ?_
        refine AW.iald 72 dX7_undo_71 (zA rfl rfl) rfl (by omega) (by decide) rfl ?_
        refine AW.topi (nI (tk k)) r1 ?_
        refine AW.iconst 73 (nI 1) dX7_undo_72 (by decide) rfl ?_
        refine AW.icmpN_ne 76 95 dX7_undo_73 (by decide) rfl (by omega) (by omega) (fun b73 => ?_) (fun b73 => ?_)
        · skip
          refine AW.iload_n 96 dX7_undo_95 rfl rfl ?_
          refine AW.iconst 97 (nI 1) dX7_undo_96 (by decide) rfl ?_
          refine AW.aload_n 98 dX7_undo_97 rfl rfl ?_
          refine AW.getR 101 dX7_undo_98 fX7_18 rfl (zI rfl rfl) rfl rfl ?_
          refine AW.iload 103 dX7_undo_101 rfl rfl ?_
          refine AW.iald 104 dX7_undo_103 (zA rfl rfl) rfl (by omega) (by decide) rfl ?_
          refine AW.topi (nI (tn k)) r3 ?_
          refine AW.ishl 105 dX7_undo_104 rfl ?_
          refine AW.iconst 106 (-1) dX7_undo_105 (by decide) rfl ?_
          refine AW.ixor 107 dX7_undo_106 rfl ?_
          refine AW.iand 108 dX7_undo_107 rfl ?_
          refine AW.topi (nI (q &&& (255 ^^^ 2 ^ tn k))) o1 ?_
          refine AW.istn3 109 dX7_undo_108 (by decide) rfl rfl ?_
          refine AW.iinc4 112 _ dX7_undo_109 (z_inc1 _) (by decide) rfl rfl ?_
          refine AW.goto 7 dX7_undo_112 (by decide) ?_
          first | exact fn q hq (fun z => (hv.mp b22) z.1) (fun z => (hv.mp b22) z.1) (p0 (fun z => (hv.mp b22) z.1)) | exact fS (Classical.not_not.mp (fun z => b22 (hv.mpr z))) (by omega) | exact fL (Classical.not_not.mp (fun z => b22 (hv.mpr z))) (by omega) | exact fn _ o2.1 (fun z => by omega) (fun z => by omega) (p2 (Classical.not_not.mp (fun z => b22 (hv.mpr z))) (by omega))
        · skip
          refine AW.aload_n 77 dX7_undo_76 rfl rfl ?_
          refine AW.getR 80 dX7_undo_77 fX7_30 rfl (zI rfl rfl) rfl rfl ?_
          refine AW.aload_n 81 dX7_undo_80 rfl rfl ?_
          refine AW.getR 84 dX7_undo_81 fX7_15 rfl (zI rfl rfl) rfl rfl ?_
          refine AW.iload 86 dX7_undo_84 rfl rfl ?_
          refine AW.iald 87 dX7_undo_86 (zA rfl rfl) rfl (by omega) (by decide) rfl ?_
          refine AW.topi (nI (tt k)) r2 ?_
          refine AW.dup2 88 dX7_undo_87 rfl rfl rfl ?_
          refine AW.iald 89 dX7_undo_88 (zA rfl rfl) rfl (by omega) (by decide) rfl ?_
          refine AW.topi (nI (z_uL s tk tt lt k (tt k))) (h2 (tt k) (by omega)).2 ?_
          refine AW.iconst 90 (nI 1) dX7_undo_89 (by decide) rfl ?_
          refine AW.ixor 91 dX7_undo_90 rfl ?_
          refine AW.topi (nI (z_uL s tk tt lt k (tt k) ^^^ 1)) y1 ?_
          refine AW.iast 92 dX7_undo_91 (zA rfl rfl) rfl (by omega) (by decide) rfl ?_
          refine AW.goto 109 dX7_undo_92 (by decide) ?_
          refine AW.iinc4 112 _ dX7_undo_109 (z_inc1 _) (by decide) rfl rfl ?_
          refine AW.goto 7 dX7_undo_112 (by decide) ?_
          first | exact fn q hq (fun z => (hv.mp b22) z.1) (fun z => (hv.mp b22) z.1) (p0 (fun z => (hv.mp b22) z.1)) | exact fS (Classical.not_not.mp (fun z => b22 (hv.mpr z))) (by omega) | exact fL (Classical.not_not.mp (fun z => b22 (hv.mpr z))) (by omega) | exact fn _ o2.1 (fun z => by omega) (fun z => by omega) (p2 (Classical.not_not.mp (fun z => b22 (hv.mpr z))) (by omega))
      · skip
        refine AW.aload_n 39 dX7_undo_38 rfl rfl ?_
        refine AW.getR 42 dX7_undo_39 fX7_25 rfl (zI rfl rfl) rfl rfl ?_
        refine AW.aload_n 43 dX7_undo_42 rfl rfl ?_
        refine AW.getR 46 dX7_undo_43 fX7_15 rfl (zI rfl rfl) rfl rfl ?_
        refine AW.iload 48 dX7_undo_46 rfl rfl ?_
        refine AW.iald 49 dX7_undo_48 (zA rfl rfl) rfl (by omega) (by decide) rfl ?_
        refine AW.topi (nI (tt k)) r2 ?_
        refine AW.dup2 50 dX7_undo_49 rfl rfl rfl ?_
        refine AW.iald 51 dX7_undo_50 (zA rfl rfl) rfl (by omega) (by decide) rfl ?_
        refine AW.topi (nI (z_uS s tk tt tn sg k (tt k))) (h2 (tt k) (by omega)).1 ?_
        refine AW.iconst 52 (nI 1) dX7_undo_51 (by decide) rfl ?_
        refine AW.aload_n 53 dX7_undo_52 rfl rfl ?_
        refine AW.getR 56 dX7_undo_53 fX7_18 rfl (zI rfl rfl) rfl rfl ?_
        refine AW.iload 58 dX7_undo_56 rfl rfl ?_
        refine AW.iald 59 dX7_undo_58 (zA rfl rfl) rfl (by omega) (by decide) rfl ?_
        refine AW.topi (nI (tn k)) r3 ?_
        refine AW.ishl 60 dX7_undo_59 rfl ?_
        refine AW.ixor 61 dX7_undo_60 rfl ?_
        refine AW.topi (nI (z_uS s tk tt tn sg k (tt k) ^^^ 2 ^ tn k)) (x4 (by omega)) ?_
        refine AW.iast 62 dX7_undo_61 (zA rfl rfl) rfl (by omega) (by decide) rfl ?_
        refine AW.goto 109 dX7_undo_62 (by decide) ?_
        refine AW.iinc4 112 _ dX7_undo_109 (z_inc1 _) (by decide) rfl rfl ?_
        refine AW.goto 7 dX7_undo_112 (by decide) ?_
        first | exact fn q hq (fun z => (hv.mp b22) z.1) (fun z => (hv.mp b22) z.1) (p0 (fun z => (hv.mp b22) z.1)) | exact fS (Classical.not_not.mp (fun z => b22 (hv.mpr z))) (by omega) | exact fL (Classical.not_not.mp (fun z => b22 (hv.mpr z))) (by omega) | exact fn _ o2.1 (fun z => by omega) (fun z => by omega) (p2 (Classical.not_not.mp (fun z => b22 (hv.mpr z))) (by omega))
    · skip
      refine AW.goto 109 dX7_undo_25 (by decide) ?_
      refine AW.iinc4 112 _ dX7_undo_109 (z_inc1 _) (by decide) rfl rfl ?_
      refine AW.goto 7 dX7_undo_112 (by decide) ?_
      first | exact fn q hq (fun z => (hv.mp b22) z.1) (fun z => (hv.mp b22) z.1) (p0 (fun z => (hv.mp b22) z.1)) | exact fS (Classical.not_not.mp (fun z => b22 (hv.mpr z))) (by omega) | exact fL (Classical.not_not.mp (fun z => b22 (hv.mpr z))) (by omega) | exact fn _ o2.1 (fun z => by omega) (fun z => by omega) (p2 (Classical.not_not.mp (fun z => b22 (hv.mpr z))) (by omega))
theorem C_X7_undo (ht : M 83 3 = nI t) (ht2 : t ≤ 6) (hth : ∀ k, k < t → M 84 k = nI (tk k) ∧ M 85 k = nI (tt k) ∧ M 86 k = nI (tn k)) (hok : z_tok t tk tt tn) {s : Nat} (hs : s < 64) (hW : ∀ i, i < 12 → M 65 i = nI (sg i) ∧ M 66 i = nI (lt i) ∧ sg i < 16 ∧ lt i < 2) {Q : Int32 → zS → zM → Prop} (hQ : ∀ (M' : zM) (q : Nat), (∀ c, c ≠ 65 → c ≠ 66 → M' c = M c) → (∀ i, i < 12 → M' 65 i = nI (z_uS s tk tt tn sg t i) ∧ M' 66 i = nI (z_uL s tk tt lt t i)) → q < 256 → (∀ j, j < 8 → q.testBit j = z_uP s tk tn (fun _ => true) t j) → Q (nI q) (ZS m0 m1 md) M') : AMet l g yX7_undo cX7_undo 5 (some .int) d 0 0 [.ref 83, .int (nI s), .ref 64] (ZS m0 m1 md) M (z_Qi Q) := by
  refine AMet.of (ini := false) rfl (fun h => by first | rfl | cases h) (Nat.le_of_ble_eq_true rfl) ?_
  show AW l g RX7 cX7_undo 5 (some .int) false _ _ _ 0 [some (.ref 83), some (.int (nI s)), some (.ref 64), none, none] [] _ _ _
  refine AW.sipush 3 (nI 255) dX7_undo_0 (by decide) rfl ?_
  refine AW.istn3 4 dX7_undo_3 (by decide) rfl rfl ?_
  refine AW.iconst 5 (nI 0) dX7_undo_4 (by decide) rfl ?_
  refine AW.ist4 7 dX7_undo_5 (by decide) rfl rfl ?_
  exact L_X7_undo ht ht2 hth hok hs (fun i hi => (hW i hi).2.2.1) (fun i hi => (hW i hi).2.2.2) hQ t 0 (by omega) M 255 (fun _ _ _ => rfl) (fun i hi => ⟨(hW i hi).1, (hW i hi).2.1⟩) (by decide) (by intro j hj; unfold z_uP; revert j; decide)
end CCOMES
