def z_pt (V : Nat → Bool) (m : Nat) : Nat → Nat
  | 0 => 0
  | e + 1 => z_pt V m e + (if e.testBit m = false ∧ V e = false ∧ V (e ||| 2 ^ m) = true then (if z_sz e 8 % 3 = 0 then 6 else 2) else 0)
def z_Vg (n : Nat) (H : Nat → Nat → Nat → Bool) (A : Nat → Nat) (N : Nat → Int32) (mk tk tt tn sg lt : Nat → Nat) (t : Nat) (a : Int32) (tick so : Nat) : Bool := decide (a.toInt = (z_oa n H A N (z_uS 0 tk tt tn sg t) (z_uL 0 tk tt lt t) (z_uP 0 tk tn (z_pr0 n so mk) t) tick : Int))
def z_Vf (n : Nat) (H : Nat → Nat → Nat → Bool) (A : Nat → Nat) (N : Nat → Int32) (mk sg lt : Nat → Nat) (a : Int32) (tick so : Nat) : Bool := decide (a.toInt = (z_oa n H A N sg lt (z_pr1 n so mk) tick : Int))
theorem z_rem3 : ∀ k, k < 9 → (nI k - nI k / nI 3 * nI 3) = nI (k % 3) := by decide +kernel
theorem z_ptA : ∀ e, e < 16 → ∀ m, m < 4 → (e &&& 2 ^ m = 0 ↔ e.testBit m = false) ∧ e ||| 2 ^ m < 16 ∧ (nI e &&& nI (2 ^ m)) = nI (e &&& 2 ^ m) ∧ (nI e ||| nI (2 ^ m)) = nI (e ||| 2 ^ m) ∧ e &&& 2 ^ m < 16 ∧ (e.testBit m = false → z_sz e 8 < 4) := by decide +kernel
theorem z_shm : ∀ m, m < 4 → (nI 1 <<< (nI m &&& 31)) = nI (2 ^ m) := by decide +kernel
theorem z_tN {b : Bool} (h : ¬ b.toNat = 0) : b = true := by cases b <;> first | rfl | exact absurd rfl h
theorem z_tZ {b : Bool} (h : b.toNat = 0) : b = false := by cases b <;> first | rfl | cases h
theorem z_pt1 {V : Nat → Bool} {m e : Nat} (h : ¬ (e.testBit m = false ∧ V e = false ∧ V (e ||| 2 ^ m) = true)) : z_pt V m (e + 1) = z_pt V m e := by rw [z_pt, if_neg h, Nat.add_zero]
theorem z_pt2 {V : Nat → Bool} {m e : Nat} (h1 : e.testBit m = false) (h2 : V e = false) (h3 : V (e ||| 2 ^ m) = true) : z_pt V m (e + 1) = z_pt V m e + (if z_sz e 8 % 3 = 0 then 6 else 2) := by rw [z_pt, if_pos ⟨h1, h2, h3⟩]
section PART
variable {l : Launch} {g : zG} {d m0 m1 md : Nat} {M : zM} {T n t : Nat} {H : Nat → Nat → Nat → Bool} {A : Nat → Nat} {N : Nat → Int32} {mk tk tt tn sg lt : Nat → Nat}
theorem L_X10_part (hw : g_wy M T n t H A N mk tk tt tn sg lt) {m tick : Nat} (hm : m < 4) (hd : M 99 33 = nI tick) (htick : tick < T) {Q : Int32 → zS → zM → Prop}
    (hQ : ∀ M', (∀ c, c ≠ 116 → c ≠ 117 → c ≠ 118 → c ≠ 119 → c ≠ 120 → M' c = M c) → Q (nI (z_pt (z_Vg n H A N mk tk tt tn sg lt t (M 99 32) tick) m 16)) (ZS m0 m1 md) M') :
    ∀ (z e : Nat), e + z = 16 → ∀ M', (∀ c, c ≠ 116 → c ≠ 117 → c ≠ 118 → c ≠ 119 → c ≠ 120 → M' c = M c) → AW l g RX10 cX10_part 4 (some .int) false (d + 3) 0 0 28 [some (.ref 99), some (.int (nI m)), some (.int (nI (z_pt (z_Vg n H A N mk tk tt tn sg lt t (M 99 32) tick) m e))), some (.int (nI e))] [] (ZS m0 m1 md) M' (z_Qi Q) := by
  intro z
  induction z with
  | zero =>
    intro e he M' f
    have he : e = 16 := by omega
    subst he
    refine AW.iload_n 29 dX10_part_28 rfl rfl ?_
    refine AW.bipush 31 (nI 16) dX10_part_29 (by decide) rfl ?_
    refine AW.icmp_ge 34 88 dX10_part_31 (by decide) rfl (fun _ => ?_) (fun h => absurd h (by decide))
    refine AW.iload_n 89 dX10_part_88 rfl rfl ?_
    refine AW.iret dX10_part_89 .int rfl rfl rfl ⟨_, rfl, ?_⟩
    exact hQ M' f
  | succ z ih =>
    intro e he M' f
    have h9 := fun M' f => ih (e + 1) (by omega) M' f
    have e1 := z_bit e (by omega) m (by omega)
    have es := z_shm m hm
    obtain ⟨a1, a2, a3, a4, a5, a6⟩ := z_ptA e (by omega) m hm
    have er := z_rem3 (z_sz e 8) (Nat.lt_succ_of_le (z_sz_le e 8))
    have e99 : M' 99 = M 99 := f 99 (by decide) (by decide) (by decide) (by decide) (by decide)
    have hw1 := g_wy_frame (M' := M') (fun c hc => f c (by omega) (by omega) (by omega) (by omega) (by omega)) hw
    obtain ⟨w1, w2, w3, w4, w5, w6, w7, w8, w9, w10⟩ := hw1
    have htn : (e.testBit m).toNat ≤ 1 := by cases e.testBit m <;> decide
    refine AW.iload_n 29 dX10_part_28 rfl rfl ?_
    refine AW.bipush 31 (nI 16) dX10_part_29 (by decide) rfl ?_
    refine AW.icmpN_ge 34 88 dX10_part_31 (by decide) rfl (by omega) (by omega) (fun b31 => absurd b31 (by omega)) (fun b31 => ?_)
    refine AW.iload_n 35 dX10_part_34 rfl rfl ?_
    refine AW.iload_n 36 dX10_part_35 rfl rfl ?_
    refine AW.ishr 37 dX10_part_36 rfl ?_
    refine AW.iconst 38 (nI 1) dX10_part_37 (by decide) rfl ?_
    refine AW.iand 39 dX10_part_38 rfl ?_
    refine AW.topi (nI (e.testBit m).toNat) e1 ?_
    refine AW.ifN_ne 42 82 dX10_part_39 (by decide) rfl (by omega) (fun b39 => ?_) (fun b39 => ?_)
    · skip
      refine AW.iinc3 85 _ dX10_part_82 (z_inc1 _) (by decide) rfl rfl ?_
      refine AW.goto 28 dX10_part_85 (by decide) ?_
      first | (have q := h9 M' f; rw [z_pt1 (fun h => by have := z_tN b39; rw [h.1] at this; cases this)] at q; exact q) | (rw [e99] at b45; have q := h9 M3 (fun c c1 c2 c3 c4 c5 => by rw [f3 c c1 c2 c3 c4 c5]; exact f c c1 c2 c3 c4 c5); rw [z_pt1 (fun h => by have := h.2.1; rw [z_Vg, decide_eq_true b45] at this; cases this)] at q; exact q) | (rw [e993] at b58; have q := h9 M4 (fun c c1 c2 c3 c4 c5 => by rw [f4 c c1 c2 c3 c4 c5]; exact f3' c c1 c2 c3 c4 c5); rw [z_pt1 (fun h => by have := h.2.2; rw [z_Vg, decide_eq_false b58] at this; cases this)] at q; exact q) | (rw [e99] at b45; rw [e993] at b58; have q := h9 M4 (fun c c1 c2 c3 c4 c5 => by rw [f4 c c1 c2 c3 c4 c5]; exact f3' c c1 c2 c3 c4 c5); rw [z_pt2 (z_tZ b39) (by rw [z_Vg, decide_eq_false b45]) (by rw [z_Vg, decide_eq_true b58])] at q; first | (rw [if_pos b71] at q; exact q) | (rw [if_neg b71] at q; exact q))
    · skip
      refine AW.aload_n 43 dX10_part_42 rfl rfl ?_
      refine AW.iconst 44 (nI 0) dX10_part_43 (by decide) rfl ?_
      refine AW.iload_n 45 dX10_part_44 rfl rfl ?_
      refine AW.cVi2 48 dX10_part_45 kX10_250 (zI rfl rfl) (Nat.le_of_ble_eq_true rfl) rfl (C_X10_comesBy (M := M') (T := T) (tick := tick) w1 w3 w4 w5 w6 w7 w8 w9 w10 (s := 0) (so := e) (by decide) (by omega) (by rw [e99]; exact hd) htick (fun b45 M3 f3 => ?_) (fun b45 M3 f3 => ?_))
      · skip
        refine AW.if_ne 51 82 dX10_part_48 (by decide) rfl (fun _ => ?_) (fun h => absurd h (by decide))
        refine AW.iinc3 85 _ dX10_part_82 (z_inc1 _) (by decide) rfl rfl ?_
        refine AW.goto 28 dX10_part_85 (by decide) ?_
        first | (have q := h9 M' f; rw [z_pt1 (fun h => by have := z_tN b39; rw [h.1] at this; cases this)] at q; exact q) | (rw [e99] at b45; have q := h9 M3 (fun c c1 c2 c3 c4 c5 => by rw [f3 c c1 c2 c3 c4 c5]; exact f c c1 c2 c3 c4 c5); rw [z_pt1 (fun h => by have := h.2.1; rw [z_Vg, decide_eq_true b45] at this; cases this)] at q; exact q) | (rw [e993] at b58; have q := h9 M4 (fun c c1 c2 c3 c4 c5 => by rw [f4 c c1 c2 c3 c4 c5]; exact f3' c c1 c2 c3 c4 c5); rw [z_pt1 (fun h => by have := h.2.2; rw [z_Vg, decide_eq_false b58] at this; cases this)] at q; exact q) | (rw [e99] at b45; rw [e993] at b58; have q := h9 M4 (fun c c1 c2 c3 c4 c5 => by rw [f4 c c1 c2 c3 c4 c5]; exact f3' c c1 c2 c3 c4 c5); rw [z_pt2 (z_tZ b39) (by rw [z_Vg, decide_eq_false b45]) (by rw [z_Vg, decide_eq_true b58])] at q; first | (rw [if_pos b71] at q; exact q) | (rw [if_neg b71] at q; exact q))
      · skip
        have f3' : ∀ c, c ≠ 116 → c ≠ 117 → c ≠ 118 → c ≠ 119 → c ≠ 120 → M3 c = M c := fun c c1 c2 c3 c4 c5 => by rw [f3 c c1 c2 c3 c4 c5]; exact f c c1 c2 c3 c4 c5
        have e993 : M3 99 = M 99 := f3' 99 (by decide) (by decide) (by decide) (by decide) (by decide)
        have hw3 := g_wy_frame (M' := M3) (fun c hc => f3' c (by omega) (by omega) (by omega) (by omega) (by omega)) hw
        obtain ⟨v1, v2, v3, v4, v5, v6, v7, v8, v9, v10⟩ := hw3
        refine AW.if_ne 51 82 dX10_part_48 (by decide) rfl (fun h => absurd h (by decide)) (fun _ => ?_)
        refine AW.aload_n 52 dX10_part_51 rfl rfl ?_
        refine AW.iconst 53 (nI 0) dX10_part_52 (by decide) rfl ?_
        refine AW.iload_n 54 dX10_part_53 rfl rfl ?_
        refine AW.iconst 55 (nI 1) dX10_part_54 (by decide) rfl ?_
        refine AW.iload_n 56 dX10_part_55 rfl rfl ?_
        refine AW.ishl 57 dX10_part_56 rfl ?_
        refine AW.topi (nI (2 ^ m)) es ?_
        refine AW.ior 58 dX10_part_57 rfl ?_
        refine AW.topi (nI (e ||| 2 ^ m)) a4 ?_
        refine AW.cVi2 61 dX10_part_58 kX10_250 (zI rfl rfl) (Nat.le_of_ble_eq_true rfl) rfl (C_X10_comesBy (M := M3) (T := T) (tick := tick) v1 v3 v4 v5 v6 v7 v8 v9 v10 (s := 0) (so := e ||| 2 ^ m) (by decide) a2 (by rw [e993]; exact hd) htick (fun b58 M4 f4 => ?_) (fun b58 M4 f4 => ?_))
        · skip
          refine AW.if_eq 64 82 dX10_part_61 (by decide) rfl (fun h => absurd h (by decide)) (fun _ => ?_)
          refine AW.iload_n 65 dX10_part_64 rfl rfl ?_
          refine AW.iload_n 66 dX10_part_65 rfl rfl ?_
          refine AW.cSi1 69 dX10_part_66 kX10_266 (Nat.le_of_ble_eq_true rfl) rfl (C_X10_size (by omega) ?_)
          refine AW.iconst 70 (nI 3) dX10_part_69 (by decide) rfl ?_
          refine AW.irem 71 dX10_part_70 (by decide) rfl ?_
          refine AW.topi (nI (z_sz e 8 % 3)) er ?_
          refine AW.ifN_ne 74 79 dX10_part_71 (by decide) rfl (by omega) (fun b71 => ?_) (fun b71 => ?_)
          · skip
            refine AW.iconst 80 (nI 2) dX10_part_79 (by decide) rfl ?_
            refine AW.iaddN 81 dX10_part_80 rfl ?_
            refine AW.istn2 82 dX10_part_81 (by decide) rfl rfl ?_
            refine AW.iinc3 85 _ dX10_part_82 (z_inc1 _) (by decide) rfl rfl ?_
            refine AW.goto 28 dX10_part_85 (by decide) ?_
            first | (have q := h9 M' f; rw [z_pt1 (fun h => by have := z_tN b39; rw [h.1] at this; cases this)] at q; exact q) | (rw [e99] at b45; have q := h9 M3 (fun c c1 c2 c3 c4 c5 => by rw [f3 c c1 c2 c3 c4 c5]; exact f c c1 c2 c3 c4 c5); rw [z_pt1 (fun h => by have := h.2.1; rw [z_Vg, decide_eq_true b45] at this; cases this)] at q; exact q) | (rw [e993] at b58; have q := h9 M4 (fun c c1 c2 c3 c4 c5 => by rw [f4 c c1 c2 c3 c4 c5]; exact f3' c c1 c2 c3 c4 c5); rw [z_pt1 (fun h => by have := h.2.2; rw [z_Vg, decide_eq_false b58] at this; cases this)] at q; exact q) | (rw [e99] at b45; rw [e993] at b58; have q := h9 M4 (fun c c1 c2 c3 c4 c5 => by rw [f4 c c1 c2 c3 c4 c5]; exact f3' c c1 c2 c3 c4 c5); rw [z_pt2 (z_tZ b39) (by rw [z_Vg, decide_eq_false b45]) (by rw [z_Vg, decide_eq_true b58])] at q; first | (rw [if_pos b71] at q; exact q) | (rw [if_neg b71] at q; exact q))
          · skip
            refine AW.bipush 76 (nI 6) dX10_part_74 (by decide) rfl ?_
            refine AW.goto 80 dX10_part_76 (by decide) ?_
            refine AW.iaddN 81 dX10_part_80 rfl ?_
            refine AW.istn2 82 dX10_part_81 (by decide) rfl rfl ?_
            refine AW.iinc3 85 _ dX10_part_82 (z_inc1 _) (by decide) rfl rfl ?_
            refine AW.goto 28 dX10_part_85 (by decide) ?_
            first | (have q := h9 M' f; rw [z_pt1 (fun h => by have := z_tN b39; rw [h.1] at this; cases this)] at q; exact q) | (rw [e99] at b45; have q := h9 M3 (fun c c1 c2 c3 c4 c5 => by rw [f3 c c1 c2 c3 c4 c5]; exact f c c1 c2 c3 c4 c5); rw [z_pt1 (fun h => by have := h.2.1; rw [z_Vg, decide_eq_true b45] at this; cases this)] at q; exact q) | (rw [e993] at b58; have q := h9 M4 (fun c c1 c2 c3 c4 c5 => by rw [f4 c c1 c2 c3 c4 c5]; exact f3' c c1 c2 c3 c4 c5); rw [z_pt1 (fun h => by have := h.2.2; rw [z_Vg, decide_eq_false b58] at this; cases this)] at q; exact q) | (rw [e99] at b45; rw [e993] at b58; have q := h9 M4 (fun c c1 c2 c3 c4 c5 => by rw [f4 c c1 c2 c3 c4 c5]; exact f3' c c1 c2 c3 c4 c5); rw [z_pt2 (z_tZ b39) (by rw [z_Vg, decide_eq_false b45]) (by rw [z_Vg, decide_eq_true b58])] at q; first | (rw [if_pos b71] at q; exact q) | (rw [if_neg b71] at q; exact q))
        · skip
          refine AW.if_eq 64 82 dX10_part_61 (by decide) rfl (fun _ => ?_) (fun h => absurd h (by decide))
          refine AW.iinc3 85 _ dX10_part_82 (z_inc1 _) (by decide) rfl rfl ?_
          refine AW.goto 28 dX10_part_85 (by decide) ?_
          first | (have q := h9 M' f; rw [z_pt1 (fun h => by have := z_tN b39; rw [h.1] at this; cases this)] at q; exact q) | (rw [e99] at b45; have q := h9 M3 (fun c c1 c2 c3 c4 c5 => by rw [f3 c c1 c2 c3 c4 c5]; exact f c c1 c2 c3 c4 c5); rw [z_pt1 (fun h => by have := h.2.1; rw [z_Vg, decide_eq_true b45] at this; cases this)] at q; exact q) | (rw [e993] at b58; have q := h9 M4 (fun c c1 c2 c3 c4 c5 => by rw [f4 c c1 c2 c3 c4 c5]; exact f3' c c1 c2 c3 c4 c5); rw [z_pt1 (fun h => by have := h.2.2; rw [z_Vg, decide_eq_false b58] at this; cases this)] at q; exact q) | (rw [e99] at b45; rw [e993] at b58; have q := h9 M4 (fun c c1 c2 c3 c4 c5 => by rw [f4 c c1 c2 c3 c4 c5]; exact f3' c c1 c2 c3 c4 c5); rw [z_pt2 (z_tZ b39) (by rw [z_Vg, decide_eq_false b45]) (by rw [z_Vg, decide_eq_true b58])] at q; first | (rw [if_pos b71] at q; exact q) | (rw [if_neg b71] at q; exact q))
theorem C_X10_part (hw : g_wy M T n t H A N mk tk tt tn sg lt) {k : Int32} {Q : Int32 → zS → zM → Prop} (hbad : ¬ (0 ≤ k.toInt ∧ k.toInt ≤ 3) → Q (-1) (ZS m0 m1 md) M) (hnot : 0 ≤ k.toInt ∧ k.toInt ≤ 3 → ¬ (0 ≤ (M 99 33).toInt ∧ (M 99 33).toInt < T) → Q (-2) (ZS m0 m1 md) M)
    (hgo : ∀ m tick, k = nI m → m < 4 → M 99 33 = nI tick → tick < T → ∀ M', (∀ c, c ≠ 116 → c ≠ 117 → c ≠ 118 → c ≠ 119 → c ≠ 120 → M' c = M c) → Q (nI (z_pt (z_Vg n H A N mk tk tt tn sg lt t (M 99 32) tick) m 16)) (ZS m0 m1 md) M') : AMet l g yX10_part cX10_part 4 (some .int) (d + 3) 0 0 [.ref 99, .int k] (ZS m0 m1 md) M (z_Qi Q) := by
  have hw' := hw
  obtain ⟨w1, w2, w3, w4, w5, w6, w7, w8, w9, w10⟩ := hw'
  refine AMet.of (ini := false) rfl (fun h => by first | rfl | cases h) (Nat.le_of_ble_eq_true rfl) ?_
  show AW l g RX10 cX10_part 4 (some .int) false _ _ _ 0 [some (.ref 99), some (.int k), none, none] [] _ _ _
  refine AW.iload_n 1 dX10_part_0 rfl rfl ?_
  refine AW.i2l 2 dX10_part_1 rfl ?_
  refine AW.lconst 3 (lN 0) dX10_part_2 rfl rfl ?_
  refine AW.ldc2 6 (lN 3) dX10_part_3 qX10_207 rfl ?_
  refine AW.cSi3 9 dX10_part_6 kX10_131 (Nat.le_of_ble_eq_true rfl) rfl (C_in (Int32.toInt_toInt64 _) (z_lN (by decide)) (z_lN (by decide)) (fun b6 => ?_) (fun b6 => ?_))
  · skip
    obtain ⟨m, hm, rfl, hm2⟩ := z_nI (v := k) (n := 3) (by omega) (by omega)
    refine AW.if_ne 12 14 dX10_part_9 (by decide) rfl (fun _ => ?_) (fun h => absurd h (by decide))
    refine AW.aload_n 15 dX10_part_14 rfl rfl ?_
    refine AW.cVi0 18 dX10_part_15 kX10_256 (zI rfl rfl) (Nat.le_of_ble_eq_true rfl) rfl (C_X10_isTold w1 w2 w3 (fun b15 => ?_) (fun b15 => ?_))
    · skip
      obtain ⟨tick, htk, hd, htk2⟩ := z_nI (v := M 99 33) (n := 11) (by omega) (by omega)
      refine AW.if_ne 21 24 dX10_part_18 (by decide) rfl (fun _ => ?_) (fun h => absurd h (by decide))
      refine AW.iconst 25 (nI 0) dX10_part_24 (by decide) rfl ?_
      refine AW.istn2 26 dX10_part_25 (by decide) rfl rfl ?_
      refine AW.iconst 27 (nI 0) dX10_part_26 (by decide) rfl ?_
      refine AW.istn3 28 dX10_part_27 (by decide) rfl rfl ?_
      exact L_X10_part hw (by omega) hd (by omega) (hgo m tick rfl (by omega) hd (by omega)) 16 0 (by omega) M (fun _ _ _ _ _ _ => rfl)
    · skip
      refine AW.if_ne 21 24 dX10_part_18 (by decide) rfl (fun h => absurd h (by decide)) (fun _ => ?_)
      refine AW.bipush 23 (-2) dX10_part_21 (by decide) rfl ?_
      refine AW.iret dX10_part_23 .int rfl rfl rfl ⟨_, rfl, ?_⟩
      exact hnot (by omega) b15
  · skip
    refine AW.if_ne 12 14 dX10_part_9 (by decide) rfl (fun h => absurd h (by decide)) (fun _ => ?_)
    refine AW.iconst 13 (-1) dX10_part_12 (by decide) rfl ?_
    refine AW.iret dX10_part_13 .int rfl rfl rfl ⟨_, rfl, ?_⟩
    exact hbad (by omega)
theorem z_ord {g : zG} : ∀ k, k < 4 → z_ev g 2 k = nI (if k % 3 = 0 then 6 else 2) := by
  intro k hk
  rcases (by omega : k = 0 ∨ k = 1 ∨ k = 2 ∨ k = 3) with rfl | rfl | rfl | rfl <;> rfl
theorem L_X9_part (hw : f_wy M m0 T n t H A N mk tk tt tn sg lt) {m tick : Nat} (hm : m < 4) (hd : M 0 15 = nI tick) (htick : tick < T) {Q : Int32 → zS → zM → Prop}
    (hQ : ∀ M', (∀ c, c ≠ 65 → c ≠ 66 → c ≠ 67 → c ≠ 68 → c ≠ 69 → M' c = M c) → Q (nI (z_pt (z_Vf n H A N mk sg lt (M 0 14) tick) m 16)) (ZS m0 m1 md) M') :
    ∀ (z e : Nat), e + z = 16 → ∀ M', (∀ c, c ≠ 65 → c ≠ 66 → c ≠ 67 → c ≠ 68 → c ≠ 69 → M' c = M c) → AW l g RX9 cX9_part 5 (some .int) false (d + 4) 0 0 29 [some (.ref 0), some (.int (nI m)), some (.int (nI (2 ^ m))), some (.int (nI (z_pt (z_Vf n H A N mk sg lt (M 0 14) tick) m e))), some (.int (nI e))] [] (ZS m0 m1 md) M' (z_Qi Q) := by
  intro z
  induction z with
  | zero =>
    intro e he M' f
    have he : e = 16 := by omega
    subst he
    refine AW.iload 31 dX9_part_29 rfl rfl ?_
    refine AW.bipush 33 (nI 16) dX9_part_31 (by decide) rfl ?_
    refine AW.icmp_ge 36 81 dX9_part_33 (by decide) rfl (fun _ => ?_) (fun h => absurd h (by decide))
    refine AW.iload_n 82 dX9_part_81 rfl rfl ?_
    refine AW.iret dX9_part_82 .int rfl rfl rfl ⟨_, rfl, ?_⟩
    exact hQ M' f
  | succ z ih =>
    intro e he M' f
    have h9 := fun M' f => ih (e + 1) (by omega) M' f
    obtain ⟨a1, a2, a3, a4, a5, a6⟩ := z_ptA e (by omega) m hm
    have e0 : M' 0 = M 0 := f 0 (by decide) (by decide) (by decide) (by decide) (by decide)
    have hw1 := f_wy_frame (M' := M') (fun c hc => f c (by omega) (by omega) (by omega) (by omega) (by omega)) hw
    obtain ⟨w1, w2, w3, w4, w5, w6, w7, w8, w9, w10, w11⟩ := hw1
    refine AW.iload 31 dX9_part_29 rfl rfl ?_
    refine AW.bipush 33 (nI 16) dX9_part_31 (by decide) rfl ?_
    refine AW.icmpN_ge 36 81 dX9_part_33 (by decide) rfl (by omega) (by omega) (fun b33 => absurd b33 (by omega)) (fun b33 => ?_)
    refine AW.iload 38 dX9_part_36 rfl rfl ?_
    refine AW.iload_n 39 dX9_part_38 rfl rfl ?_
    refine AW.iand 40 dX9_part_39 rfl ?_
    refine AW.topi (nI (e &&& 2 ^ m)) a3 ?_
    refine AW.ifN_ne 43 75 dX9_part_40 (by decide) rfl (by omega) (fun b40 => ?_) (fun b40 => ?_)
    · skip
      refine AW.iinc4 78 _ dX9_part_75 (z_inc1 _) (by decide) rfl rfl ?_
      refine AW.goto 29 dX9_part_78 (by decide) ?_
      first | (have q := h9 M' f; rw [z_pt1 (fun h => b40 (a1.2 h.1))] at q; exact q) | (rw [e0] at b46; have q := h9 M3 (fun c c1 c2 c3 c4 c5 => by rw [f3 c c1 c2 c3 c4 c5]; exact f c c1 c2 c3 c4 c5); rw [z_pt1 (fun h => by have := h.2.1; rw [z_Vf, decide_eq_true b46] at this; cases this)] at q; exact q) | (rw [e03] at b57; have q := h9 M4 (fun c c1 c2 c3 c4 c5 => by rw [f4 c c1 c2 c3 c4 c5]; exact f3' c c1 c2 c3 c4 c5); rw [z_pt1 (fun h => by have := h.2.2; rw [z_Vf, decide_eq_false b57] at this; cases this)] at q; exact q) | (rw [e0] at b46; rw [e03] at b57; have q := h9 M4 (fun c c1 c2 c3 c4 c5 => by rw [f4 c c1 c2 c3 c4 c5]; exact f3' c c1 c2 c3 c4 c5); rw [z_pt2 (a1.1 b40) (by rw [z_Vf, decide_eq_false b46]) (by rw [z_Vf, decide_eq_true b57])] at q; exact q)
    · skip
      refine AW.aload_n 44 dX9_part_43 rfl rfl ?_
      refine AW.iload 46 dX9_part_44 rfl rfl ?_
      refine AW.cVi1 49 dX9_part_46 kX9_279 (zI rfl rfl) (Nat.le_of_ble_eq_true rfl) rfl (C_X9_comesWithMakers (M := M') (tick := tick) w4 w5 w6 w11 (by rw [e0]; exact hd) (by omega) (so := e) (by omega) (fun b46 M3 f3 => ?_) (fun b46 M3 f3 => ?_))
      · skip
        refine AW.if_ne 52 75 dX9_part_49 (by decide) rfl (fun _ => ?_) (fun h => absurd h (by decide))
        refine AW.iinc4 78 _ dX9_part_75 (z_inc1 _) (by decide) rfl rfl ?_
        refine AW.goto 29 dX9_part_78 (by decide) ?_
        first | (have q := h9 M' f; rw [z_pt1 (fun h => b40 (a1.2 h.1))] at q; exact q) | (rw [e0] at b46; have q := h9 M3 (fun c c1 c2 c3 c4 c5 => by rw [f3 c c1 c2 c3 c4 c5]; exact f c c1 c2 c3 c4 c5); rw [z_pt1 (fun h => by have := h.2.1; rw [z_Vf, decide_eq_true b46] at this; cases this)] at q; exact q) | (rw [e03] at b57; have q := h9 M4 (fun c c1 c2 c3 c4 c5 => by rw [f4 c c1 c2 c3 c4 c5]; exact f3' c c1 c2 c3 c4 c5); rw [z_pt1 (fun h => by have := h.2.2; rw [z_Vf, decide_eq_false b57] at this; cases this)] at q; exact q) | (rw [e0] at b46; rw [e03] at b57; have q := h9 M4 (fun c c1 c2 c3 c4 c5 => by rw [f4 c c1 c2 c3 c4 c5]; exact f3' c c1 c2 c3 c4 c5); rw [z_pt2 (a1.1 b40) (by rw [z_Vf, decide_eq_false b46]) (by rw [z_Vf, decide_eq_true b57])] at q; exact q)
      · skip
        have f3' : ∀ c, c ≠ 65 → c ≠ 66 → c ≠ 67 → c ≠ 68 → c ≠ 69 → M3 c = M c := fun c c1 c2 c3 c4 c5 => by rw [f3 c c1 c2 c3 c4 c5]; exact f c c1 c2 c3 c4 c5
        have e03 : M3 0 = M 0 := f3' 0 (by decide) (by decide) (by decide) (by decide) (by decide)
        have hw3 := f_wy_frame (M' := M3) (fun c hc => f3' c (by omega) (by omega) (by omega) (by omega) (by omega)) hw
        obtain ⟨v1, v2, v3, v4, v5, v6, v7, v8, v9, v10, v11⟩ := hw3
        refine AW.if_ne 52 75 dX9_part_49 (by decide) rfl (fun h => absurd h (by decide)) (fun _ => ?_)
        refine AW.aload_n 53 dX9_part_52 rfl rfl ?_
        refine AW.iload 55 dX9_part_53 rfl rfl ?_
        refine AW.iload_n 56 dX9_part_55 rfl rfl ?_
        refine AW.ior 57 dX9_part_56 rfl ?_
        refine AW.topi (nI (e ||| 2 ^ m)) a4 ?_
        refine AW.cVi1 60 dX9_part_57 kX9_279 (zI rfl rfl) (Nat.le_of_ble_eq_true rfl) rfl (C_X9_comesWithMakers (M := M3) (tick := tick) v4 v5 v6 v11 (by rw [e03]; exact hd) (by omega) (so := e ||| 2 ^ m) a2 (fun b57 M4 f4 => ?_) (fun b57 M4 f4 => ?_))
        · skip
          refine AW.if_eq 63 75 dX9_part_60 (by decide) rfl (fun h => absurd h (by decide)) (fun _ => ?_)
          refine AW.iload_n 64 dX9_part_63 rfl rfl ?_
          refine AW.gets 67 dX9_part_64 (by decide : 2 < 4) qX9_282 rfl ?_
          refine AW.iload 69 dX9_part_67 rfl rfl ?_
          refine AW.cSi1 72 dX9_part_69 kX9_285 (Nat.le_of_ble_eq_true rfl) rfl (C_bitCount (by omega) ?_)
          refine AW.eald 73 dX9_part_72 (by decide) rfl (a6 (a1.1 b40)) (show (4 : Nat) < 2 ^ 31 from by decide) rfl ?_
          refine AW.topi (nI (if z_sz e 8 % 3 = 0 then 6 else 2)) (z_ord _ (a6 (a1.1 b40))) ?_
          refine AW.iaddN 74 dX9_part_73 rfl ?_
          refine AW.istn3 75 dX9_part_74 (by decide) rfl rfl ?_
          refine AW.iinc4 78 _ dX9_part_75 (z_inc1 _) (by decide) rfl rfl ?_
          refine AW.goto 29 dX9_part_78 (by decide) ?_
          first | (have q := h9 M' f; rw [z_pt1 (fun h => b40 (a1.2 h.1))] at q; exact q) | (rw [e0] at b46; have q := h9 M3 (fun c c1 c2 c3 c4 c5 => by rw [f3 c c1 c2 c3 c4 c5]; exact f c c1 c2 c3 c4 c5); rw [z_pt1 (fun h => by have := h.2.1; rw [z_Vf, decide_eq_true b46] at this; cases this)] at q; exact q) | (rw [e03] at b57; have q := h9 M4 (fun c c1 c2 c3 c4 c5 => by rw [f4 c c1 c2 c3 c4 c5]; exact f3' c c1 c2 c3 c4 c5); rw [z_pt1 (fun h => by have := h.2.2; rw [z_Vf, decide_eq_false b57] at this; cases this)] at q; exact q) | (rw [e0] at b46; rw [e03] at b57; have q := h9 M4 (fun c c1 c2 c3 c4 c5 => by rw [f4 c c1 c2 c3 c4 c5]; exact f3' c c1 c2 c3 c4 c5); rw [z_pt2 (a1.1 b40) (by rw [z_Vf, decide_eq_false b46]) (by rw [z_Vf, decide_eq_true b57])] at q; exact q)
        · skip
          refine AW.if_eq 63 75 dX9_part_60 (by decide) rfl (fun _ => ?_) (fun h => absurd h (by decide))
          refine AW.iinc4 78 _ dX9_part_75 (z_inc1 _) (by decide) rfl rfl ?_
          refine AW.goto 29 dX9_part_78 (by decide) ?_
          first | (have q := h9 M' f; rw [z_pt1 (fun h => b40 (a1.2 h.1))] at q; exact q) | (rw [e0] at b46; have q := h9 M3 (fun c c1 c2 c3 c4 c5 => by rw [f3 c c1 c2 c3 c4 c5]; exact f c c1 c2 c3 c4 c5); rw [z_pt1 (fun h => by have := h.2.1; rw [z_Vf, decide_eq_true b46] at this; cases this)] at q; exact q) | (rw [e03] at b57; have q := h9 M4 (fun c c1 c2 c3 c4 c5 => by rw [f4 c c1 c2 c3 c4 c5]; exact f3' c c1 c2 c3 c4 c5); rw [z_pt1 (fun h => by have := h.2.2; rw [z_Vf, decide_eq_false b57] at this; cases this)] at q; exact q) | (rw [e0] at b46; rw [e03] at b57; have q := h9 M4 (fun c c1 c2 c3 c4 c5 => by rw [f4 c c1 c2 c3 c4 c5]; exact f3' c c1 c2 c3 c4 c5); rw [z_pt2 (a1.1 b40) (by rw [z_Vf, decide_eq_false b46]) (by rw [z_Vf, decide_eq_true b57])] at q; exact q)
theorem C_X9_part (hw : f_wy M m0 T n t H A N mk tk tt tn sg lt) {k : Int32} {Q : Int32 → zS → zM → Prop} (hbad : ¬ (0 ≤ k.toInt ∧ k.toInt ≤ 3) → Q (-1) (ZS m0 m1 md) M) (hnot : 0 ≤ k.toInt ∧ k.toInt ≤ 3 → ((M 0 14).toInt = -4 ∨ ¬ (0 ≤ (M 0 15).toInt ∧ (M 0 15).toInt < T)) → Q (-2) (ZS m0 m1 md) M)
    (hgo : ∀ m tick, k = nI m → m < 4 → ¬ (M 0 14).toInt = -4 → M 0 15 = nI tick → tick < T → ∀ M', (∀ c, c ≠ 65 → c ≠ 66 → c ≠ 67 → c ≠ 68 → c ≠ 69 → M' c = M c) → Q (nI (z_pt (z_Vf n H A N mk sg lt (M 0 14) tick) m 16)) (ZS m0 m1 md) M') : AMet l g yX9_part cX9_part 5 (some .int) (d + 4) 0 0 [.ref 0, .int k] (ZS m0 m1 md) M (z_Qi Q) := by
  have hw' := hw
  obtain ⟨w1, w2, w3, w4, w5, w6, w7, w8, w9, w10, w11⟩ := hw'
  refine AMet.of (ini := false) rfl (fun h => by first | rfl | cases h) (Nat.le_of_ble_eq_true rfl) ?_
  show AW l g RX9 cX9_part 5 (some .int) false _ _ _ 0 [some (.ref 0), some (.int k), none, none, none] [] _ _ _
  refine AW.iload_n 1 dX9_part_0 rfl rfl ?_
  refine AW.iconst 2 (nI 3) dX9_part_1 (by decide) rfl ?_
  refine AW.cSi2 5 dX9_part_2 kX9_120 (Nat.le_of_ble_eq_true rfl) rfl (C_beyond rfl (by decide : (nI 3).toInt = 3) (fun b2 => ?_) (fun b2 => ?_))
  · skip
    refine AW.if_eq 8 10 dX9_part_5 (by decide) rfl (fun h => absurd h (by decide)) (fun _ => ?_)
    refine AW.iconst 9 (-1) dX9_part_8 (by decide) rfl ?_
    refine AW.iret dX9_part_9 .int rfl rfl rfl ⟨_, rfl, ?_⟩
    exact hbad (by omega)
  · skip
    obtain ⟨m, hm, rfl, hm2⟩ := z_nI (v := k) (n := 3) (by omega) (by omega)
    have es := z_shm m (by omega)
    refine AW.if_eq 8 10 dX9_part_5 (by decide) rfl (fun _ => ?_) (fun h => absurd h (by decide))
    refine AW.aload_n 11 dX9_part_10 rfl rfl ?_
    refine AW.cVi0 14 dX9_part_11 kX9_262 (zI rfl rfl) (Nat.le_of_ble_eq_true rfl) rfl (C_X9_noDoing w1 w2 w3 (fun b11 => ?_) (fun b11 => ?_))
    · skip
      refine AW.if_eq 17 20 dX9_part_14 (by decide) rfl (fun h => absurd h (by decide)) (fun _ => ?_)
      refine AW.bipush 19 (-2) dX9_part_17 (by decide) rfl ?_
      refine AW.iret dX9_part_19 .int rfl rfl rfl ⟨_, rfl, ?_⟩
      exact hnot (by omega) b11
    · skip
      obtain ⟨tick, htk, hd, htk2⟩ := z_nI (v := M 0 15) (n := 11) (by omega) (by omega)
      refine AW.if_eq 17 20 dX9_part_14 (by decide) rfl (fun _ => ?_) (fun h => absurd h (by decide))
      refine AW.iconst 21 (nI 1) dX9_part_20 (by decide) rfl ?_
      refine AW.iload_n 22 dX9_part_21 rfl rfl ?_
      refine AW.ishl 23 dX9_part_22 rfl ?_
      refine AW.topi (nI (2 ^ m)) es ?_
      refine AW.istn2 24 dX9_part_23 (by decide) rfl rfl ?_
      refine AW.iconst 25 (nI 0) dX9_part_24 (by decide) rfl ?_
      refine AW.istn3 26 dX9_part_25 (by decide) rfl rfl ?_
      refine AW.iconst 27 (nI 0) dX9_part_26 (by decide) rfl ?_
      refine AW.ist4 29 dX9_part_27 (by decide) rfl rfl ?_
      exact L_X9_part hw (by omega) hd (by omega) (hgo m tick rfl (by omega) (by omega) hd (by omega)) 16 0 (by omega) M (fun _ _ _ _ _ _ => rfl)
end PART
