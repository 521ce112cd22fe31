theorem z_bit : ∀ s, s < 256 → ∀ k, k < 8 → ((nI s >>> (nI k &&& 31)) &&& nI 1) = nI (s.testBit k).toNat := by decide +kernel
theorem z_orb : ∀ s, s < 256 → ∀ k, k < 8 → (nI s ||| (nI 1 <<< (nI k &&& 31))) = nI (s ||| 2 ^ k) := by decide +kernel
theorem z_or0 : ∀ s, s < 256 → (nI s ||| nI 0) = nI s := by decide +kernel
theorem z_xor4 : ∀ a, a < 16 → ∀ k, k < 4 → (nI a ^^^ (nI 1 <<< (nI k &&& 31))) = nI (a ^^^ 2 ^ k) := by decide +kernel
theorem z_xor1 : ∀ a, a < 2 → (nI a ^^^ nI 1) = nI (a ^^^ 1) := by decide +kernel
theorem z_xor0 : ∀ a, a < 16 → (nI a ^^^ nI 0) = nI a := by decide +kernel
theorem z_clr : ∀ s, s < 256 → ∀ k, k < 8 → (nI s &&& ((nI 1 <<< (nI k &&& 31)) ^^^ (-1))) = nI (s &&& (255 ^^^ 2 ^ k)) := by decide +kernel
theorem z_clrb : ∀ s, s < 256 → ∀ k, k < 8 → s &&& (255 ^^^ 2 ^ k) < 256 ∧ ∀ r, r < 8 → (s &&& (255 ^^^ 2 ^ k)).testBit r = (s.testBit r && !(k == r)) := by decide +kernel
theorem z_orbb : ∀ s, s < 256 → ∀ k, k < 8 → s ||| 2 ^ k < 256 ∧ ∀ r, r < 8 → (s ||| 2 ^ k).testBit r = (s.testBit r || (k == r)) := by decide +kernel
theorem z_x4b : ∀ a, a < 16 → ∀ k, k < 4 → a ^^^ 2 ^ k < 16 := by decide +kernel
theorem z_x1b : ∀ a, a < 2 → a ^^^ 1 < 2 := by decide +kernel
/-- things otherwise: sights, lots, rules that are there *)-/
def z_uS (s : Nat) (tk tt tn sg : Nat → Nat) : Nat → Nat → Nat
  | 0, t => sg t
  | k + 1, t => if s.testBit k = true ∧ tk k = 0 ∧ t = tt k then z_uS s tk tt tn sg k t ^^^ 2 ^ tn k else z_uS s tk tt tn sg k t
def z_uL (s : Nat) (tk tt lt : Nat → Nat) : Nat → Nat → Nat
  | 0, t => lt t
  | k + 1, t => if s.testBit k = true ∧ tk k = 1 ∧ t = tt k then z_uL s tk tt lt k t ^^^ 1 else z_uL s tk tt lt k t
def z_uP (s : Nat) (tk tn : Nat → Nat) (pr : Nat → Bool) : Nat → Nat → Bool
  | 0, r => pr r
  | k + 1, r => z_uP s tk tn pr k r && !(s.testBit k && tk k == 2 && tn k == r)
def z_tok (t : Nat) (tk tt tn : Nat → Nat) : Prop := ∀ k, k < t → tk k ≤ 2 ∧ tt k ≤ 11 ∧ tn k ≤ 7 ∧ (tk k = 0 → tn k ≤ 3)
theorem z_uS_lt {s t : Nat} {tk tt tn sg : Nat → Nat} (ht : z_tok t tk tt tn) (hs : ∀ i, i < 12 → sg i < 16) : ∀ k, k ≤ t → ∀ i, i < 12 → z_uS s tk tt tn sg k i < 16
  | 0, _, i, hi => hs i hi
  | k + 1, hk, i, hi => by
    have h := z_uS_lt (s := s) ht hs k (by omega) i hi
    unfold z_uS
    split
    · rename_i q
      exact z_x4b _ h _ (by have := (ht k (by omega)).2.2.2 q.2.1; omega)
    · exact h
theorem z_uL_lt {s : Nat} {tk tt lt : Nat → Nat} (hs : ∀ i, i < 12 → lt i < 2) : ∀ k, ∀ i, i < 12 → z_uL s tk tt lt k i < 2
  | 0, i, hi => hs i hi
  | k + 1, i, hi => by
    have h := z_uL_lt (s := s) (tk := tk) (tt := tt) hs k i hi
    unfold z_uL
    split
    · exact z_x1b _ h
    · exact h
section MCOMES
variable {l : Launch} {g : zG} {d m0 m1 md : Nat} {M : zM} {T n t : Nat} {H : Nat → Nat → Nat → Bool} {A : Nat → Nat} {N : Nat → Int32} {mk tk tt tn : Nat → Nat}
theorem L1_X10_comesBy (hn : M 104 0 = nI n) (h8 : n ≤ 8) (hmk : ∀ r, r < n → M 105 r = nI (mk r) ∧ mk r < 4) {s so : Nat} (hs : s < 64) (hso : so < 16) {Q : Option Value → zS → zM → Prop} (hQ : ∀ q, q < 256 → (∀ j, j < 8 → q.testBit j = (decide (j < n) && !so.testBit (mk j))) → AW l g RX10 cX10_comesBy 6 (some .boolean) false d 0 0 52 [some (.ref 99), some (.int (nI s)), some (.int (nI so)), some (.int (nI q)), some (.int (nI n)), none] [] (ZS m0 m1 md) M Q) :
    ∀ (z r : Nat), r + z = n → ∀ q, q < 256 → (∀ j, j < 8 → q.testBit j = (decide (j < r) && !so.testBit (mk j))) → AW l g RX10 cX10_comesBy 6 (some .boolean) false d 0 0 9 [some (.ref 99), some (.int (nI s)), some (.int (nI so)), some (.int (nI q)), some (.int (nI r)), none] [] (ZS m0 m1 md) M Q := by
  intro z
  induction z with
  | zero =>
    intro r hr q hq hb
    have hr : r = n := by omega
    subst hr
    refine AW.iload 11 dX10_comesBy_9 rfl rfl ?_
    refine AW.aload_n 12 dX10_comesBy_11 rfl rfl ?_
    refine AW.getR 15 dX10_comesBy_12 fX10_23 rfl (zI rfl rfl) rfl rfl ?_
    refine AW.iconst 16 (nI 0) dX10_comesBy_15 (by decide) rfl ?_
    refine AW.iald 17 dX10_comesBy_16 (zA rfl rfl) rfl (by omega) (by decide) rfl ?_
    refine AW.topi (nI r) hn ?_
    refine AW.icmpN_ge 20 52 dX10_comesBy_17 (by decide) rfl (by omega) (by omega) (fun b17 => ?_) (fun b17 => absurd b17 (by omega))
    exact hQ q hq hb
  | succ z ih =>
    intro r hr q hq hb
    obtain ⟨k1, k2⟩ := hmk r (by omega)
    have e1 := z_bit so (by omega) (mk r) (by omega)
    have o1 := z_orb q hq r (by omega)
    have o2 := z_orbb q hq r (by omega)
    have o0 := z_or0 q hq
    have hbt : so.testBit (mk r) = true → ∀ j, j < 8 → q.testBit j = (decide (j < r + 1) && !so.testBit (mk j)) := fun h j hj => by
      rw [hb j hj]
      by_cases hjr : j = r
      · subst hjr; simp [h]
      · rw [show decide (j < r + 1) = decide (j < r) from by congr 1; apply propext; omega]
    have hbf : ¬ so.testBit (mk r) = true → ∀ j, j < 8 → (q ||| 2 ^ r).testBit j = (decide (j < r + 1) && !so.testBit (mk j)) := fun h j hj => by
      rw [o2.2 j hj, hb j hj]
      by_cases hjr : j = r
      · subst hjr; simp [h]
      · rw [show decide (j < r + 1) = decide (j < r) from by congr 1; apply propext; omega]
        have : (r == j) = false := by rw [beq_eq_false_iff_ne]; exact fun z => hjr z.symm
        rw [this, Bool.or_false]
    have hv : (so.testBit (mk r)).toNat = 1 ↔ so.testBit (mk r) = true := by cases so.testBit (mk r) <;> decide
    refine AW.iload 11 dX10_comesBy_9 rfl rfl ?_
    refine AW.aload_n 12 dX10_comesBy_11 rfl rfl ?_
    refine AW.getR 15 dX10_comesBy_12 fX10_23 rfl (zI rfl rfl) rfl rfl ?_
    refine AW.iconst 16 (nI 0) dX10_comesBy_15 (by decide) rfl ?_
    refine AW.iald 17 dX10_comesBy_16 (zA rfl rfl) rfl (by omega) (by decide) rfl ?_
    refine AW.topi (nI n) hn ?_
    refine AW.icmpN_ge 20 52 dX10_comesBy_17 (by decide) rfl (by omega) (by omega) (fun b17 => absurd b17 (by omega)) (fun b17 => ?_)
    refine AW.iload_n 21 dX10_comesBy_20 rfl rfl ?_
    refine AW.iload_n 22 dX10_comesBy_21 rfl rfl ?_
    refine AW.aload_n 23 dX10_comesBy_22 rfl rfl ?_
    refine AW.getR 26 dX10_comesBy_23 fX10_26 rfl (zI rfl rfl) rfl rfl ?_
    refine AW.iload 28 dX10_comesBy_26 rfl rfl ?_
    refine AW.iald 29 dX10_comesBy_28 (zA rfl rfl) rfl (by omega) (by decide) rfl ?_
    refine AW.topi (nI (mk r)) k1 ?_
    refine AW.ishr 30 dX10_comesBy_29 rfl ?_
    refine AW.iconst 31 (nI 1) dX10_comesBy_30 (by decide) rfl ?_
    refine AW.iand 32 dX10_comesBy_31 rfl ?_
    refine AW.topi (nI (so.testBit (mk r)).toNat) e1 ?_
    have hbl : (so.testBit (mk r)).toNat < 2 := by cases so.testBit (mk r) <;> decide
    refine AW.iconst 33 (nI 1) dX10_comesBy_32 (by decide) rfl ?_
    refine AW.icmpN_ne 36 40 dX10_comesBy_33 (by decide) rfl (by omega) (by omega) (fun b33 => ?_) (fun b33 => ?_)
    · skip
      refine AW.iconst 41 (nI 1) dX10_comesBy_40 (by decide) rfl ?_
      refine AW.iload 43 dX10_comesBy_41 rfl rfl ?_
      refine AW.ishl 44 dX10_comesBy_43 rfl ?_
      refine AW.ior 45 dX10_comesBy_44 rfl ?_
      first | refine AW.topi (nI q) o0 ?_ | refine AW.topi (nI (q ||| 2 ^ r)) o1 ?_
      refine AW.istn3 46 dX10_comesBy_45 (by decide) rfl rfl ?_
      refine AW.iinc4 49 _ dX10_comesBy_46 (z_inc1 _) (by decide) rfl rfl ?_
      refine AW.goto 9 dX10_comesBy_49 (by decide) ?_
      first | exact ih (r + 1) (by omega) q hq (hbt (hv.mp b33)) | exact ih (r + 1) (by omega) _ o2.1 (hbf (fun z => b33 (hv.mpr z)))
    · skip
      refine AW.iconst 37 (nI 0) dX10_comesBy_36 (by decide) rfl ?_
      refine AW.goto 44 dX10_comesBy_37 (by decide) ?_
      refine AW.ior 45 dX10_comesBy_44 rfl ?_
      first | refine AW.topi (nI q) o0 ?_ | refine AW.topi (nI (q ||| 2 ^ r)) o1 ?_
      refine AW.istn3 46 dX10_comesBy_45 (by decide) rfl rfl ?_
      refine AW.iinc4 49 _ dX10_comesBy_46 (z_inc1 _) (by decide) rfl rfl ?_
      refine AW.goto 9 dX10_comesBy_49 (by decide) ?_
      first | exact ih (r + 1) (by omega) q hq (hbt (hv.mp b33)) | exact ih (r + 1) (by omega) _ o2.1 (hbf (fun z => b33 (hv.mpr z)))
theorem L2_X10_comesBy (ht : M 99 34 = nI t) (ht2 : t ≤ 6) (hth : ∀ k, k < t → M 127 k = nI (tk k) ∧ M 128 k = nI (tt k) ∧ M 129 k = nI (tn k)) (hok : z_tok t tk tt tn) {s so : Nat} (hs : s < 64) {sg lt : Nat → Nat} {pr : Nat → Bool} (hsg : ∀ i, i < 12 → sg i < 16) (hlt : ∀ i, i < 12 → lt i < 2) {Q : Option Value → zS → zM → Prop} (hQ : ∀ (M' : zM) (q : Nat) (v5 : Option Value), (∀ c, c ≠ 116 → c ≠ 117 → M' c = M c) → (∀ i, i < 12 → M' 116 i = nI (z_uS s tk tt tn sg t i) ∧ M' 117 i = nI (z_uL s tk tt lt t i)) → q < 256 → (∀ j, j < 8 → q.testBit j = !z_uP s tk tn pr t j) → AW l g RX10 cX10_comesBy 6 (some .boolean) false d 0 0 170 [some (.ref 99), some (.int (nI s)), some (.int (nI so)), some (.int (nI q)), some (.int (nI t)), v5] [] (ZS m0 m1 md) M' Q) :
    ∀ (z k : Nat) (v5 : Option Value), k + z = t → ∀ (M' : zM) (q : Nat), (∀ c, c ≠ 116 → c ≠ 117 → M' c = M c) → (∀ i, i < 12 → M' 116 i = nI (z_uS s tk tt tn sg k i) ∧ M' 117 i = nI (z_uL s tk tt lt k i)) → q < 256 → (∀ j, j < 8 → q.testBit j = !z_uP s tk tn pr k j) → AW l g RX10 cX10_comesBy 6 (some .boolean) false d 0 0 55 [some (.ref 99), some (.int (nI s)), some (.int (nI so)), some (.int (nI q)), some (.int (nI k)), v5] [] (ZS m0 m1 md) M' Q := by
  intro z
  induction z with
  | zero =>
    intro k v5 hk M' q h1 h2 hq hb
    have hk : k = t := by omega
    subst hk
    have q0 : M' 99 34 = nI k := by rw [h1 99 (by decide) (by decide)]; exact ht
    refine AW.iload 57 dX10_comesBy_55 rfl rfl ?_
    refine AW.aload_n 58 dX10_comesBy_57 rfl rfl ?_
    refine AW.getI 61 dX10_comesBy_58 fX10_244 rfl (zI rfl rfl) rfl ?_
    refine AW.topi (nI k) q0 ?_
    refine AW.icmpN_ge 64 170 dX10_comesBy_61 (by decide) rfl (by omega) (by omega) (fun b61 => ?_) (fun b61 => absurd b61 (by omega))
    exact hQ M' q v5 h1 h2 hq hb
  | succ z ih =>
    intro k v5 hk M' q h1 h2 hq hb
    have q0 : M' 99 34 = nI t := by rw [h1 99 (by decide) (by decide)]; exact ht
    obtain ⟨k1, k2, k3⟩ := hth k (by omega)
    obtain ⟨j1, j2, j3, j4⟩ := hok k (by omega)
    have r1 : M' 127 k = nI (tk k) := by rw [h1 127 (by decide) (by decide)]; exact k1
    have r2 : M' 128 k = nI (tt k) := by rw [h1 128 (by decide) (by decide)]; exact k2
    have r3 : M' 129 k = nI (tn k) := by rw [h1 129 (by decide) (by decide)]; exact k3
    have e1 := z_bit s (by omega) k (by omega)
    have hS := z_uS_lt (s := s) hok hsg k (by omega) (tt k) (by omega)
    have hLl := z_uL_lt (s := s) (tk := tk) (tt := tt) hlt k (tt k) (by omega)
    have o1 := z_orb q hq (tn k) (by omega)
    have o2 := z_orbb q hq (tn k) (by omega)
    have o0 := z_or0 q hq
    have hbl : (s.testBit k).toNat < 2 := by cases s.testBit k <;> decide
    have hv : (s.testBit k).toNat = 1 ↔ s.testBit k = true := by cases s.testBit k <;> decide
    have x4 : tk k = 0 → (nI (z_uS s tk tt tn sg k (tt k)) ^^^ (nI 1 <<< (nI (tn k) &&& 31))) = nI (z_uS s tk tt tn sg k (tt k) ^^^ 2 ^ tn k) := fun h => z_xor4 _ hS _ (by have := j4 h; omega)
    have x0 : (nI (z_uS s tk tt tn sg k (tt k)) ^^^ nI 0) = nI (z_uS s tk tt tn sg k (tt k)) := z_xor0 _ hS
    have y1 : (nI (z_uL s tk tt lt k (tt k)) ^^^ nI 1) = nI (z_uL s tk tt lt k (tt k) ^^^ 1) := z_xor1 _ hLl
    have y0 : (nI (z_uL s tk tt lt k (tt k)) ^^^ nI 0) = nI (z_uL s tk tt lt k (tt k)) := z_xor0 _ (by omega)
    have s1 : s.testBit k = true → tk k = 0 → z_uS s tk tt tn sg k (tt k) ^^^ 2 ^ tn k = z_uS s tk tt tn sg (k + 1) (tt k) := fun a b => by show _ = ite _ _ _; rw [if_pos ⟨a, b, rfl⟩]
    have s0 : ¬ tk k = 0 → z_uS s tk tt tn sg k (tt k) = z_uS s tk tt tn sg (k + 1) (tt k) := fun b => by show _ = ite _ _ _; rw [if_neg (fun z => b z.2.1)]
    have l1 : s.testBit k = true → tk k = 1 → z_uL s tk tt lt k (tt k) ^^^ 1 = z_uL s tk tt lt (k + 1) (tt k) := fun a b => by show _ = ite _ _ _; rw [if_pos ⟨a, b, rfl⟩]
    have l0 : ¬ tk k = 1 → z_uL s tk tt lt k (tt k) = z_uL s tk tt lt (k + 1) (tt k) := fun b => by show _ = ite _ _ _; rw [if_neg (fun z => b z.2.1)]
    have p2 : s.testBit k = true → tk k = 2 → ∀ j, j < 8 → (q ||| 2 ^ tn k).testBit j = !z_uP s tk tn pr (k + 1) j := fun a b j hj => by
      show _ = !(z_uP s tk tn pr k j && !(s.testBit k && tk k == 2 && tn k == j))
      rw [o2.2 j hj, hb j hj, a, b]; cases z_uP s tk tn pr k j <;> simp
    have p0 : ¬ (s.testBit k = true ∧ tk k = 2) → ∀ j, j < 8 → q.testBit j = !z_uP s tk tn pr (k + 1) j := fun a j hj => by
      show _ = !(z_uP s tk tn pr k j && !(s.testBit k && tk k == 2 && tn k == j))
      rw [hb j hj]
      have : (s.testBit k && tk k == 2) = false := by
        rw [Bool.eq_false_iff]; intro z; rw [Bool.and_eq_true, beq_iff_eq] at z; exact a z
      rw [this]; simp
    have fin : ∀ (vs vl : Int32) (q' : Nat), vs = nI (z_uS s tk tt tn sg (k + 1) (tt k)) → vl = nI (z_uL s tk tt lt (k + 1) (tt k)) → q' < 256 → (∀ j, j < 8 → q'.testBit j = !z_uP s tk tn pr (k + 1) j) → AW l g RX10 cX10_comesBy 6 (some .boolean) false d 0 0 55 [some (.ref 99), some (.int (nI s)), some (.int (nI so)), some (.int (nI q')), some (.int (nI (k + 1))), some (.int (nI (tk k)))] [] (ZS m0 m1 md) (z_st (z_st M' 116 (tt k) vs) 117 (tt k) vl) Q := by
      intro vs vl q' e1 e2 e3 e4
      refine ih (k + 1) _ (by omega) _ q' (fun c c1 c2 => by rw [z_st_ne c2, z_st_ne c1]; exact h1 c c1 c2) (fun i hi => ?_) e3 e4
      rw [z_st_ne (by decide : (116 : Nat) ≠ 117), z_st_at, z_st_at, z_st_ne (by decide : (117 : Nat) ≠ 116)]
      unfold upd
      by_cases hit : i = tt k
      · subst hit; rw [if_pos rfl, if_pos rfl]; exact ⟨e1, e2⟩
      · rw [if_neg hit, if_neg hit]
        have a1 : z_uS s tk tt tn sg (k + 1) i = z_uS s tk tt tn sg k i := by show ite _ _ _ = _; rw [if_neg (fun z => hit z.2.2)]
        have a2 : z_uL s tk tt lt (k + 1) i = z_uL s tk tt lt k i := by show ite _ _ _ = _; rw [if_neg (fun z => hit z.2.2)]
        rw [a1, a2]; exact h2 i hi
    have skp : ¬ s.testBit k = true → AW l g RX10 cX10_comesBy 6 (some .boolean) false d 0 0 55 [some (.ref 99), some (.int (nI s)), some (.int (nI so)), some (.int (nI q)), some (.int (nI (k + 1))), v5] [] (ZS m0 m1 md) M' Q := by
      intro hz
      refine ih (k + 1) _ (by omega) _ q h1 (fun i hi => ?_) hq (p0 (fun z => hz z.1))
      have a1 : z_uS s tk tt tn sg (k + 1) i = z_uS s tk tt tn sg k i := by show ite _ _ _ = _; rw [if_neg (fun z => hz z.1)]
      have a2 : z_uL s tk tt lt (k + 1) i = z_uL s tk tt lt k i := by show ite _ _ _ = _; rw [if_neg (fun z => hz z.1)]
      rw [a1, a2]; exact h2 i hi
    have hokk : z_ok [some (.ref 99), some (.int (nI s)), some (.int (nI so)), some (.int (nI q)), some (.int (nI k)), v5] 5 = true := rfl
    refine AW.iload 57 dX10_comesBy_55 rfl rfl ?_
    refine AW.aload_n 58 dX10_comesBy_57 rfl rfl ?_
    refine AW.getI 61 dX10_comesBy_58 fX10_244 rfl (zI rfl rfl) rfl ?_
    refine AW.topi (nI t) q0 ?_
    refine AW.icmpN_ge 64 170 dX10_comesBy_61 (by decide) rfl (by omega) (by omega) (fun b61 => absurd b61 (by omega)) (fun b61 => ?_)
    refine AW.iload_n 65 dX10_comesBy_64 rfl rfl ?_
    refine AW.iload 67 dX10_comesBy_65 rfl rfl ?_
    refine AW.ishr 68 dX10_comesBy_67 rfl ?_
    refine AW.iconst 69 (nI 1) dX10_comesBy_68 (by decide) rfl ?_
    refine AW.iand 70 dX10_comesBy_69 rfl ?_
    refine AW.topi (nI (s.testBit k).toNat) e1 ?_
    refine AW.iconst 71 (nI 1) dX10_comesBy_70 (by decide) rfl ?_
    refine AW.icmpN_ne 74 164 dX10_comesBy_71 (by decide) rfl (by omega) (by omega) (fun b71 => ?_) (fun b71 => ?_)
    · skip
      refine AW.iinc4 167 _ dX10_comesBy_164 (z_inc1 _) (by decide) rfl rfl ?_
      refine AW.goto 55 dX10_comesBy_167 (by decide) ?_
      first | exact skp (fun z => b71 (hv.mpr z)) | (exfalso; omega; done) | exact fin _ _ _ (congrArg nI (by first | exact s1 (hv.mp b71) (by omega) | exact s0 (by omega))) (congrArg nI (by first | exact l1 (hv.mp b71) (by omega) | exact l0 (by omega))) (by first | exact o2.1 | exact hq) (by first | exact p2 (hv.mp b71) (by omega) | exact p0 (fun z => by omega))
    · skip
      refine AW.aload_n 75 dX10_comesBy_74 rfl rfl ?_
      refine AW.getR 78 dX10_comesBy_75 fX10_99 rfl (zI rfl rfl) rfl rfl ?_
      refine AW.iload 80 dX10_comesBy_78 rfl rfl ?_
      refine AW.iald 81 dX10_comesBy_80 (zA rfl rfl) rfl (by omega) (by decide) rfl ?_
      refine AW.topi (nI (tk k)) r1 ?_
      refine AW.ist5 83 dX10_comesBy_81 (by decide) rfl rfl ?_
      refine AW.aload_n 84 dX10_comesBy_83 rfl rfl ?_
      refine AW.getR 87 dX10_comesBy_84 fX10_63 rfl (zI rfl rfl) rfl rfl ?_
      refine AW.aload_n 88 dX10_comesBy_87 rfl rfl ?_
      refine AW.getR 91 dX10_comesBy_88 fX10_102 rfl (zI rfl rfl) rfl rfl ?_
      refine AW.iload 93 dX10_comesBy_91 rfl rfl ?_
      refine AW.iald 94 dX10_comesBy_93 (zA rfl rfl) rfl (by omega) (by decide) rfl ?_
      refine AW.topi (nI (tt k)) r2 ?_
      refine AW.dup2 95 dX10_comesBy_94 rfl rfl rfl ?_
      refine AW.iald 96 dX10_comesBy_95 (zA rfl rfl) rfl (by omega) (by decide) rfl ?_
      refine AW.topi (nI (z_uS s tk tt tn sg k (tt k))) (h2 (tt k) (by omega)).1 ?_
      refine AW.iload 98 dX10_comesBy_96 rfl rfl ?_
      refine AW.ifN_ne 101 113 dX10_comesBy_98 (by decide) rfl (by omega) (fun b98 => ?_) (fun b98 => ?_)
      · skip
        refine AW.iconst 114 (nI 0) dX10_comesBy_113 (by decide) rfl ?_
        refine AW.ixor 115 dX10_comesBy_114 rfl ?_
        first | refine AW.topi (nI (z_uS s tk tt tn sg k (tt k) ^^^ 2 ^ tn k)) (x4 (by omega)) ?_ | refine AW.topi (nI (z_uS s tk tt tn sg k (tt k))) x0 ?_
        refine AW.iast 116 dX10_comesBy_115 (zA rfl rfl) rfl (by omega) (by decide) rfl ?_
        refine AW.aload_n 117 dX10_comesBy_116 rfl rfl ?_
        refine AW.getR 120 dX10_comesBy_117 fX10_66 rfl (zI rfl rfl) rfl rfl ?_
        refine AW.aload_n 121 dX10_comesBy_120 rfl rfl ?_
        refine AW.getR 124 dX10_comesBy_121 fX10_102 rfl (zI rfl rfl) rfl rfl ?_
        refine AW.iload 126 dX10_comesBy_124 rfl rfl ?_
        refine AW.iald 127 dX10_comesBy_126 (zA rfl rfl) rfl (by omega) (by decide) rfl ?_
        refine AW.topi (nI (tt k)) r2 ?_
        refine AW.dup2 128 dX10_comesBy_127 rfl rfl rfl ?_
        refine AW.iald 129 dX10_comesBy_128 (zA rfl rfl) rfl (by omega) (by decide) rfl ?_
        refine AW.topi (nI (z_uL s tk tt lt k (tt k))) (h2 (tt k) (by omega)).2 ?_
        refine AW.iload 131 dX10_comesBy_129 rfl rfl ?_
        refine AW.iconst 132 (nI 1) dX10_comesBy_131 (by decide) rfl ?_
        refine AW.icmpN_ne 135 139 dX10_comesBy_132 (by decide) rfl (by omega) (by omega) (fun b132 => ?_) (fun b132 => ?_)
        · skip
          refine AW.iconst 140 (nI 0) dX10_comesBy_139 (by decide) rfl ?_
          refine AW.ixor 141 dX10_comesBy_140 rfl ?_
          first | refine AW.topi (nI (z_uL s tk tt lt k (tt k) ^^^ 1)) y1 ?_ | refine AW.topi (nI (z_uL s tk tt lt k (tt k))) y0 ?_
          refine AW.iast 142 dX10_comesBy_141 (zA rfl rfl) rfl (by omega) (by decide) rfl ?_
          refine AW.iload_n 143 dX10_comesBy_142 rfl rfl ?_
          refine AW.iload 145 dX10_comesBy_143 rfl rfl ?_
          refine AW.iconst 146 (nI 2) dX10_comesBy_145 (by decide) rfl ?_
          refine AW.icmpN_ne 149 161 dX10_comesBy_146 (by decide) rfl (by omega) (by omega) (fun b146 => ?_) (fun b146 => ?_)
          · skip
            refine AW.iconst 162 (nI 0) dX10_comesBy_161 (by decide) rfl ?_
            refine AW.ior 163 dX10_comesBy_162 rfl ?_
            first | refine AW.topi (nI (q ||| 2 ^ tn k)) o1 ?_ | refine AW.topi (nI q) o0 ?_
            refine AW.istn3 164 dX10_comesBy_163 (by decide) rfl rfl ?_
            refine AW.iinc4 167 _ dX10_comesBy_164 (z_inc1 _) (by decide) rfl rfl ?_
            refine AW.goto 55 dX10_comesBy_167 (by decide) ?_
            first | exact skp (fun z => b71 (hv.mpr z)) | (exfalso; omega; done) | exact fin _ _ _ (congrArg nI (by first | exact s1 (hv.mp b71) (by omega) | exact s0 (by omega))) (congrArg nI (by first | exact l1 (hv.mp b71) (by omega) | exact l0 (by omega))) (by first | exact o2.1 | exact hq) (by first | exact p2 (hv.mp b71) (by omega) | exact p0 (fun z => by omega))
          · skip
            refine AW.iconst 150 (nI 1) dX10_comesBy_149 (by decide) rfl ?_
            refine AW.aload_n 151 dX10_comesBy_150 rfl rfl ?_
            refine AW.getR 154 dX10_comesBy_151 fX10_105 rfl (zI rfl rfl) rfl rfl ?_
            refine AW.iload 156 dX10_comesBy_154 rfl rfl ?_
            refine AW.iald 157 dX10_comesBy_156 (zA rfl rfl) rfl (by omega) (by decide) rfl ?_
            refine AW.topi (nI (tn k)) r3 ?_
            refine AW.ishl 158 dX10_comesBy_157 rfl ?_
            refine AW.goto 162 dX10_comesBy_158 (by decide) ?_
            refine AW.ior 163 dX10_comesBy_162 rfl ?_
            first | refine AW.topi (nI (q ||| 2 ^ tn k)) o1 ?_ | refine AW.topi (nI q) o0 ?_
            refine AW.istn3 164 dX10_comesBy_163 (by decide) rfl rfl ?_
            refine AW.iinc4 167 _ dX10_comesBy_164 (z_inc1 _) (by decide) rfl rfl ?_
            refine AW.goto 55 dX10_comesBy_167 (by decide) ?_
            first | exact skp (fun z => b71 (hv.mpr z)) | (exfalso; omega; done) | exact fin _ _ _ (congrArg nI (by first | exact s1 (hv.mp b71) (by omega) | exact s0 (by omega))) (congrArg nI (by first | exact l1 (hv.mp b71) (by omega) | exact l0 (by omega))) (by first | exact o2.1 | exact hq) (by first | exact p2 (hv.mp b71) (by omega) | exact p0 (fun z => by omega))
        · skip
          refine AW.iconst 136 (nI 1) dX10_comesBy_135 (by decide) rfl ?_
          refine AW.goto 140 dX10_comesBy_136 (by decide) ?_
          refine AW.ixor 141 dX10_comesBy_140 rfl ?_
          first | refine AW.topi (nI (z_uL s tk tt lt k (tt k) ^^^ 1)) y1 ?_ | refine AW.topi (nI (z_uL s tk tt lt k (tt k))) y0 ?_
          refine AW.iast 142 dX10_comesBy_141 (zA rfl rfl) rfl (by omega) (by decide) rfl ?_
          refine AW.iload_n 143 dX10_comesBy_142 rfl rfl ?_
          refine AW.iload 145 dX10_comesBy_143 rfl rfl ?_
          refine AW.iconst 146 (nI 2) dX10_comesBy_145 (by decide) rfl ?_
          refine AW.icmpN_ne 149 161 dX10_comesBy_146 (by decide) rfl (by omega) (by omega) (fun b146 => ?_) (fun b146 => ?_)
          · skip
            refine AW.iconst 162 (nI 0) dX10_comesBy_161 (by decide) rfl ?_
            refine AW.ior 163 dX10_comesBy_162 rfl ?_
            first | refine AW.topi (nI (q ||| 2 ^ tn k)) o1 ?_ | refine AW.topi (nI q) o0 ?_
            refine AW.istn3 164 dX10_comesBy_163 (by decide) rfl rfl ?_
            refine AW.iinc4 167 _ dX10_comesBy_164 (z_inc1 _) (by decide) rfl rfl ?_
            refine AW.goto 55 dX10_comesBy_167 (by decide) ?_
            first | exact skp (fun z => b71 (hv.mpr z)) | (exfalso; omega; done) | exact fin _ _ _ (congrArg nI (by first | exact s1 (hv.mp b71) (by omega) | exact s0 (by omega))) (congrArg nI (by first | exact l1 (hv.mp b71) (by omega) | exact l0 (by omega))) (by first | exact o2.1 | exact hq) (by first | exact p2 (hv.mp b71) (by omega) | exact p0 (fun z => by omega))
          · skip
            refine AW.iconst 150 (nI 1) dX10_comesBy_149 (by decide) rfl ?_
            refine AW.aload_n 151 dX10_comesBy_150 rfl rfl ?_
            refine AW.getR 154 dX10_comesBy_151 fX10_105 rfl (zI rfl rfl) rfl rfl ?_
            refine AW.iload 156 dX10_comesBy_154 rfl rfl ?_
            refine AW.iald 157 dX10_comesBy_156 (zA rfl rfl) rfl (by omega) (by decide) rfl ?_
            refine AW.topi (nI (tn k)) r3 ?_
            refine AW.ishl 158 dX10_comesBy_157 rfl ?_
            refine AW.goto 162 dX10_comesBy_158 (by decide) ?_
            refine AW.ior 163 dX10_comesBy_162 rfl ?_
            first | refine AW.topi (nI (q ||| 2 ^ tn k)) o1 ?_ | refine AW.topi (nI q) o0 ?_
            refine AW.istn3 164 dX10_comesBy_163 (by decide) rfl rfl ?_
            refine AW.iinc4 167 _ dX10_comesBy_164 (z_inc1 _) (by decide) rfl rfl ?_
            refine AW.goto 55 dX10_comesBy_167 (by decide) ?_
            first | exact skp (fun z => b71 (hv.mpr z)) | (exfalso; omega; done) | exact fin _ _ _ (congrArg nI (by first | exact s1 (hv.mp b71) (by omega) | exact s0 (by omega))) (congrArg nI (by first | exact l1 (hv.mp b71) (by omega) | exact l0 (by omega))) (by first | exact o2.1 | exact hq) (by first | exact p2 (hv.mp b71) (by omega) | exact p0 (fun z => by omega))
      · skip
        refine AW.iconst 102 (nI 1) dX10_comesBy_101 (by decide) rfl ?_
        refine AW.aload_n 103 dX10_comesBy_102 rfl rfl ?_
        refine AW.getR 106 dX10_comesBy_103 fX10_105 rfl (zI rfl rfl) rfl rfl ?_
        refine AW.iload 108 dX10_comesBy_106 rfl rfl ?_
        refine AW.iald 109 dX10_comesBy_108 (zA rfl rfl) rfl (by omega) (by decide) rfl ?_
        refine AW.topi (nI (tn k)) r3 ?_
        refine AW.ishl 110 dX10_comesBy_109 rfl ?_
        refine AW.goto 114 dX10_comesBy_110 (by decide) ?_
        refine AW.ixor 115 dX10_comesBy_114 rfl ?_
        first | refine AW.topi (nI (z_uS s tk tt tn sg k (tt k) ^^^ 2 ^ tn k)) (x4 (by omega)) ?_ | refine AW.topi (nI (z_uS s tk tt tn sg k (tt k))) x0 ?_
        refine AW.iast 116 dX10_comesBy_115 (zA rfl rfl) rfl (by omega) (by decide) rfl ?_
        refine AW.aload_n 117 dX10_comesBy_116 rfl rfl ?_
        refine AW.getR 120 dX10_comesBy_117 fX10_66 rfl (zI rfl rfl) rfl rfl ?_
        refine AW.aload_n 121 dX10_comesBy_120 rfl rfl ?_
        refine AW.getR 124 dX10_comesBy_121 fX10_102 rfl (zI rfl rfl) rfl rfl ?_
        refine AW.iload 126 dX10_comesBy_124 rfl rfl ?_
        refine AW.iald 127 dX10_comesBy_126 (zA rfl rfl) rfl (by omega) (by decide) rfl ?_
        refine AW.topi (nI (tt k)) r2 ?_
        refine AW.dup2 128 dX10_comesBy_127 rfl rfl rfl ?_
        refine AW.iald 129 dX10_comesBy_128 (zA rfl rfl) rfl (by omega) (by decide) rfl ?_
        refine AW.topi (nI (z_uL s tk tt lt k (tt k))) (h2 (tt k) (by omega)).2 ?_
        refine AW.iload 131 dX10_comesBy_129 rfl rfl ?_
        refine AW.iconst 132 (nI 1) dX10_comesBy_131 (by decide) rfl ?_
        refine AW.icmpN_ne 135 139 dX10_comesBy_132 (by decide) rfl (by omega) (by omega) (fun b132 => ?_) (fun b132 => ?_)
        · skip
          refine AW.iconst 140 (nI 0) dX10_comesBy_139 (by decide) rfl ?_
          refine AW.ixor 141 dX10_comesBy_140 rfl ?_
          first | refine AW.topi (nI (z_uL s tk tt lt k (tt k) ^^^ 1)) y1 ?_ | refine AW.topi (nI (z_uL s tk tt lt k (tt k))) y0 ?_
          refine AW.iast 142 dX10_comesBy_141 (zA rfl rfl) rfl (by omega) (by decide) rfl ?_
          refine AW.iload_n 143 dX10_comesBy_142 rfl rfl ?_
          refine AW.iload 145 dX10_comesBy_143 rfl rfl ?_
          refine AW.iconst 146 (nI 2) dX10_comesBy_145 (by decide) rfl ?_
          refine AW.icmpN_ne 149 161 dX10_comesBy_146 (by decide) rfl (by omega) (by omega) (fun b146 => ?_) (fun b146 => ?_)
          · skip
            refine AW.iconst 162 (nI 0) dX10_comesBy_161 (by decide) rfl ?_
            refine AW.ior 163 dX10_comesBy_162 rfl ?_
            first | refine AW.topi (nI (q ||| 2 ^ tn k)) o1 ?_ | refine AW.topi (nI q) o0 ?_
            refine AW.istn3 164 dX10_comesBy_163 (by decide) rfl rfl ?_
            refine AW.iinc4 167 _ dX10_comesBy_164 (z_inc1 _) (by decide) rfl rfl ?_
            refine AW.goto 55 dX10_comesBy_167 (by decide) ?_
            first | exact skp (fun z => b71 (hv.mpr z)) | (exfalso; omega; done) | exact fin _ _ _ (congrArg nI (by first | exact s1 (hv.mp b71) (by omega) | exact s0 (by omega))) (congrArg nI (by first | exact l1 (hv.mp b71) (by omega) | exact l0 (by omega))) (by first | exact o2.1 | exact hq) (by first | exact p2 (hv.mp b71) (by omega) | exact p0 (fun z => by omega))
          · skip
            refine AW.iconst 150 (nI 1) dX10_comesBy_149 (by decide) rfl ?_
            refine AW.aload_n 151 dX10_comesBy_150 rfl rfl ?_
            refine AW.getR 154 dX10_comesBy_151 fX10_105 rfl (zI rfl rfl) rfl rfl ?_
            refine AW.iload 156 dX10_comesBy_154 rfl rfl ?_
            refine AW.iald 157 dX10_comesBy_156 (zA rfl rfl) rfl (by omega) (by decide) rfl ?_
            refine AW.topi (nI (tn k)) r3 ?_
            refine AW.ishl 158 dX10_comesBy_157 rfl ?_
            refine AW.goto 162 dX10_comesBy_158 (by decide) ?_
            refine AW.ior 163 dX10_comesBy_162 rfl ?_
            first | refine AW.topi (nI (q ||| 2 ^ tn k)) o1 ?_ | refine AW.topi (nI q) o0 ?_
            refine AW.istn3 164 dX10_comesBy_163 (by decide) rfl rfl ?_
            refine AW.iinc4 167 _ dX10_comesBy_164 (z_inc1 _) (by decide) rfl rfl ?_
            refine AW.goto 55 dX10_comesBy_167 (by decide) ?_
            first | exact skp (fun z => b71 (hv.mpr z)) | (exfalso; omega; done) | exact fin _ _ _ (congrArg nI (by first | exact s1 (hv.mp b71) (by omega) | exact s0 (by omega))) (congrArg nI (by first | exact l1 (hv.mp b71) (by omega) | exact l0 (by omega))) (by first | exact o2.1 | exact hq) (by first | exact p2 (hv.mp b71) (by omega) | exact p0 (fun z => by omega))
        · skip
          refine AW.iconst 136 (nI 1) dX10_comesBy_135 (by decide) rfl ?_
          refine AW.goto 140 dX10_comesBy_136 (by decide) ?_
          refine AW.ixor 141 dX10_comesBy_140 rfl ?_
          first | refine AW.topi (nI (z_uL s tk tt lt k (tt k) ^^^ 1)) y1 ?_ | refine AW.topi (nI (z_uL s tk tt lt k (tt k))) y0 ?_
          refine AW.iast 142 dX10_comesBy_141 (zA rfl rfl) rfl (by omega) (by decide) rfl ?_
          refine AW.iload_n 143 dX10_comesBy_142 rfl rfl ?_
          refine AW.iload 145 dX10_comesBy_143 rfl rfl ?_
          refine AW.iconst 146 (nI 2) dX10_comesBy_145 (by decide) rfl ?_
          refine AW.icmpN_ne 149 161 dX10_comesBy_146 (by decide) rfl (by omega) (by omega) (fun b146 => ?_) (fun b146 => ?_)
          · skip
            refine AW.iconst 162 (nI 0) dX10_comesBy_161 (by decide) rfl ?_
            refine AW.ior 163 dX10_comesBy_162 rfl ?_
            first | refine AW.topi (nI (q ||| 2 ^ tn k)) o1 ?_ | refine AW.topi (nI q) o0 ?_
            refine AW.istn3 164 dX10_comesBy_163 (by decide) rfl rfl ?_
            refine AW.iinc4 167 _ dX10_comesBy_164 (z_inc1 _) (by decide) rfl rfl ?_
            refine AW.goto 55 dX10_comesBy_167 (by decide) ?_
            first | exact skp (fun z => b71 (hv.mpr z)) | (exfalso; omega; done) | exact fin _ _ _ (congrArg nI (by first | exact s1 (hv.mp b71) (by omega) | exact s0 (by omega))) (congrArg nI (by first | exact l1 (hv.mp b71) (by omega) | exact l0 (by omega))) (by first | exact o2.1 | exact hq) (by first | exact p2 (hv.mp b71) (by omega) | exact p0 (fun z => by omega))
          · skip
            refine AW.iconst 150 (nI 1) dX10_comesBy_149 (by decide) rfl ?_
            refine AW.aload_n 151 dX10_comesBy_150 rfl rfl ?_
            refine AW.getR 154 dX10_comesBy_151 fX10_105 rfl (zI rfl rfl) rfl rfl ?_
            refine AW.iload 156 dX10_comesBy_154 rfl rfl ?_
            refine AW.iald 157 dX10_comesBy_156 (zA rfl rfl) rfl (by omega) (by decide) rfl ?_
            refine AW.topi (nI (tn k)) r3 ?_
            refine AW.ishl 158 dX10_comesBy_157 rfl ?_
            refine AW.goto 162 dX10_comesBy_158 (by decide) ?_
            refine AW.ior 163 dX10_comesBy_162 rfl ?_
            first | refine AW.topi (nI (q ||| 2 ^ tn k)) o1 ?_ | refine AW.topi (nI q) o0 ?_
            refine AW.istn3 164 dX10_comesBy_163 (by decide) rfl rfl ?_
            refine AW.iinc4 167 _ dX10_comesBy_164 (z_inc1 _) (by decide) rfl rfl ?_
            refine AW.goto 55 dX10_comesBy_167 (by decide) ?_
            first | exact skp (fun z => b71 (hv.mpr z)) | (exfalso; omega; done) | exact fin _ _ _ (congrArg nI (by first | exact s1 (hv.mp b71) (by omega) | exact s0 (by omega))) (congrArg nI (by first | exact l1 (hv.mp b71) (by omega) | exact l0 (by omega))) (by first | exact o2.1 | exact hq) (by first | exact p2 (hv.mp b71) (by omega) | exact p0 (fun z => by omega))
end MCOMES
