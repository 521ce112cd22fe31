theorem pw_su : ∀ n, n < 32 → (((nI n).toUInt32 &&& Int32.toUInt32 31).toBitVec % 32).toNat = n := by decide +kernel
theorem pw_ushr (n : Nat) (hn : n < 32) (x : Int32) (i : Nat) : pw_b ((x.toUInt32 >>> ((nI n).toUInt32 &&& Int32.toUInt32 31)).toInt32) i = pw_b x (n + i) := by
  show (x.toUInt32 >>> ((nI n).toUInt32 &&& Int32.toUInt32 31)).toBitVec.getLsbD i = x.toUInt32.toBitVec.getLsbD (n + i)
  rw [UInt32.toBitVec_shiftRight]
  show (x.toUInt32.toBitVec >>> (((nI n).toUInt32 &&& Int32.toUInt32 31).toBitVec % 32).toNat).getLsbD i = _
  rw [pw_su n hn, BitVec.getLsbD_ushiftRight]
theorem pw_ext {x y : Int32} (h : ∀ i, i < 32 → pw_b x i = pw_b y i) : x = y := Int32.toBitVec_inj.mp (BitVec.eq_of_getLsbD_eq (fun i hi => h i hi))
theorem pw_sh (w : Int32) {x : Nat} (hx : x < 32) : ((((w).toUInt32 >>> ((nI x).toUInt32 &&& Int32.toUInt32 31)).toInt32) &&& nI 1) = z_bI (pw_b w x) := by
  apply pw_ext
  intro i hi
  rw [pw_b_and, pw_ushr x hx]
  have e1 : ∀ i, i < 32 → pw_b (nI 1) i = decide (i = 0) := by decide +kernel
  have e2 : ∀ b : Bool, ∀ i, i < 32 → pw_b (z_bI b) i = (b && decide (i = 0)) := by decide +kernel
  rw [e1 i hi, e2 _ i hi]
  by_cases h : i = 0
  · subst h; rfl
  · rw [decide_eq_false h, Bool.and_false, Bool.and_false]
theorem pw_sh1 (w : Int32) {x : Nat} (hx : x < 32) : (((((w).toUInt32 >>> ((nI x).toUInt32 &&& Int32.toUInt32 31)).toInt32) &&& nI 1).toInt = 1 ↔ pw_b w x = true) := by
  rw [pw_sh w hx]; cases pw_b w x <;> decide
theorem pw_sh0 (w : Int32) {x : Nat} (hx : x < 32) : (¬ ((((w).toUInt32 >>> ((nI x).toUInt32 &&& Int32.toUInt32 31)).toInt32) &&& nI 1).toInt = 0 ↔ pw_b w x = true) := by
  rw [pw_sh w hx]; cases pw_b w x <;> decide
/-! a clause, the rules -/
def pp_c2 (tp : Nat → Nat) (n : Nat) (s : pS) : pS × pB := pp_T tp n false 5 (pp_dig tp n s).2
def pp_c3 (tp : Nat → Nat) (n : Nat) (s : pS) : pS := pp_need tp n 58 (pp_c2 tp n s).1
def pp_c4 (tp : Nat → Nat) (n : Nat) (s : pS) : Nat × pS := pp_dig tp n (pp_c3 tp n s)
def pp_c6 (tp : Nat → Nat) (n : Nat) (s : pS) : Int32 × pS := if (pp_pass tp n 62 (pp_c4 tp n s).2).1 = true then (nI (pp_dig tp n (pp_pass tp n 62 (pp_c4 tp n s).2).2).1, (pp_dig tp n (pp_pass tp n 62 (pp_c4 tp n s).2).2).2) else (-4, (pp_pass tp n 62 (pp_c4 tp n s).2).2)
def pp_cls (tp : Nat → Nat) (n : Nat) (s : pS) : pS := (pp_c6 tp n s).2
def pp_run (tp : Nat → Nat) (n : Nat) : Nat → Nat → pS → Nat × pS
  | 0, r, s => (r, s)
  | q + 1, r, s => if q = 0 then (r + 1, pp_cls tp n s) else if (pp_pass tp n 59 (pp_cls tp n s)).1 = true then pp_run tp n q (r + 1) (pp_pass tp n 59 (pp_cls tp n s)).2 else (r + 1, (pp_pass tp n 59 (pp_cls tp n s)).2)
def pp_st (tp : Nat → Nat) (n : Nat) : Nat → pS
  | 0 => (false, 0)
  | r + 1 => (pp_pass tp n 59 (pp_cls tp n (pp_st tp n r))).2
abbrev pp_K (tp : Nat → Nat) (n : Nat) : Nat × pS := pp_run tp n 8 0 (false, 0)
abbrev pp_E (tp : Nat → Nat) (n : Nat) : pS := pp_end tp n (pp_K tp n).2
def pp_ans (E : pS) (k : Nat) : Int32 := if E.1 = true then (-20) - nI E.2 else nI k
section PURE2
variable {tp : Nat → Nat} {n : Nat}
theorem pp_c_le {s : pS} (hn : s.2 ≤ n) : (pp_dig tp n s).2.2 ≤ n ∧ (pp_c2 tp n s).1.2 ≤ n ∧ (pp_c3 tp n s).2 ≤ n ∧ (pp_c4 tp n s).2.2 ≤ n ∧ (pp_cls tp n s).2 ≤ n ∧ (pp_dig tp n s).1 < 4 ∧ (pp_c4 tp n s).1 < 4 ∧ ((pp_c6 tp n s).1 = -4 ∨ ∃ z, z < 4 ∧ (pp_c6 tp n s).1 = nI z) := by
  have h1 := pp_dig_le (tp := tp) hn
  have h2 := (pp_T_good (tp := tp) (n := n) false 5).2 _ h1.1
  have h3 := pp_need_le (tp := tp) (c := 58) (by decide) h2.1
  have h4 := pp_dig_le (tp := tp) h3.1
  have h5 := pp_pass_le (tp := tp) (c := 62) (by decide) h4.1
  have h6 := pp_dig_le (tp := tp) h5.1
  refine ⟨h1.1, h2.1, h3.1, h4.1, ?_, h1.2.2.1, h4.2.2.1, ?_⟩
  · unfold pp_cls pp_c6
    split
    · exact h6.1
    · exact h5.1
  · unfold pp_c6
    split
    · exact Or.inr ⟨_, h6.2.2.1, rfl⟩
    · exact Or.inl rfl
theorem pp_cls_nf {s : pS} (hn : s.2 ≤ n) (h : (pp_cls tp n s).1 = false) : (pp_c2 tp n s).1.1 = false ∧ s.1 = false ∧ (pp_dig tp n s).2.1 = false := by
  have h1 := pp_dig_le (tp := tp) hn
  have h2 := (pp_T_good (tp := tp) (n := n) false 5).2 _ h1.1
  have h3 := pp_need_le (tp := tp) (c := 58) (by decide) h2.1
  have h4 := pp_dig_le (tp := tp) h3.1
  have h5 := pp_pass_le (tp := tp) (c := 62) (by decide) h4.1
  have h6 := pp_dig_le (tp := tp) h5.1
  have e5 : (pp_c4 tp n s).2.1 = false := by
    unfold pp_cls pp_c6 at h
    split at h
    · exact h5.2.2.1.symm.trans (h6.2.2.2 h)
    · exact h5.2.2.1.symm.trans h
  have e3 : (pp_c2 tp n s).1.1 = false := h3.2.2 (h4.2.2.2 e5)
  have e1 : (pp_dig tp n s).2.1 = false := (pp_T_good (tp := tp) (n := n) false 5).nf e3
  exact ⟨e3, h1.2.2.2 e1, e1⟩
theorem pp_cls_f {s : pS} (h : s.1 = true) : pp_cls tp n s = s ∧ (pp_c2 tp n s).1 = s ∧ pp_dig tp n s = (0, s) ∧ pp_c4 tp n s = (0, s) ∧ pp_c3 tp n s = s := by
  have e1 : pp_dig tp n s = (0, s) := pp_dig_f h
  have e2 : (pp_c2 tp n s).1 = s := by unfold pp_c2; rw [e1]; exact (pp_T_good (tp := tp) (n := n) false 5).1 s h
  have e3 : pp_c3 tp n s = s := by unfold pp_c3; rw [e2]; exact pp_need_f h
  have e4 : pp_c4 tp n s = (0, s) := by unfold pp_c4; rw [e3]; exact pp_dig_f h
  refine ⟨?_, e2, e1, e4, e3⟩
  unfold pp_cls pp_c6
  rw [e4, pp_pass_f h, if_neg Bool.false_ne_true]
theorem pp_end_nf {s : pS} (h : (pp_end tp n s).1 = false) : s.1 = false := by
  unfold pp_end at h
  by_cases e : s.1 = true
  · rw [if_pos e] at h; exact h
  · cases h2 : s.1 <;> simp_all
end PURE2
/-- the machine at b holds the first r clauses -/
def f_ru (tp : Nat → Nat) (n : Nat) (M : zM) (b r : Nat) : Prop := ∀ i, i < r → M (b + 1) i = nI (pp_dig tp n (pp_st tp n i)).1 ∧ M (b + 2) i = nI (pp_c4 tp n (pp_st tp n i)).1 ∧ M (b + 3) i = (pp_c6 tp n (pp_st tp n i)).1 ∧ ∀ w, w < 4 → ∀ x, x < 32 → pw_b (M (b + 5 + i) w) x = (pp_c2 tp n (pp_st tp n i)).2 w x
section CLAUSE
variable {l : Launch} {g : zG} {d m0 m1 md : Nat} {M : zM} {n : Nat} {tp : Nat → Nat} {s : pS} {b : Nat}
theorem C_X4_readClause (hb : zMb b) {r : Nat} (hr : r < 8) (hT : f_tp M n tp) (hs : f_rd M s) (hn : s.2 ≤ n) (hdu : M 3 4 = z_bI false) {Q : zS → zM → Prop}
    (hQ : ∀ M', (∀ c, ¬ (3 ≤ c ∧ c ≤ 18) → ¬ (b ≤ c ∧ c < b + 13) → M' c = M c) → M' 3 4 = z_bI false → f_rd M' (pp_cls tp n s) → M' b 4 = nI (r + 1) → M' (b + 1) = upd (M (b + 1)) r (nI (pp_dig tp n s).1) → M' (b + 2) = upd (M (b + 2)) r (nI (pp_c4 tp n s).1) → M' (b + 3) = upd (M (b + 3)) r (pp_c6 tp n s).1 → (∀ i, i < 8 → i ≠ r → M' (b + 5 + i) = M (b + 5 + i)) → ((pp_c2 tp n s).1.1 = false → ∀ w, w < 4 → ∀ x, x < 32 → pw_b (M' (b + 5 + r) w) x = (pp_c2 tp n s).2 w x) → Q (ZS m0 m1 md) M') :
    AMet l g yX4_readClause cX4_readClause 3 none (d + 21) 0 0 [.ref 3, .ref b, .int (nI r)] (ZS m0 m1 md) M (z_Qv Q) := by
  have hbl := zMb_lt hb
  have hle := pp_c_le (tp := tp) hn
  have kT : f_KT l g m0 m1 md n tp false (d + 20) 0 (pp_T tp n false 5) := C_X4_tests (d := d) 5 0 rfl
  refine AMet.of (ini := false) rfl (fun h => by first | rfl | cases h) (Nat.le_of_ble_eq_true rfl) ?_
  show AW l g RX4 cX4_readClause 3 none false _ _ _ 0 [some (.ref 3), some (.ref b), some (.int (nI r))] [] _ _ _
  refine AW.aload_n 1 dX4_readClause_0 rfl rfl ?_
  refine AW.getR 4 dX4_readClause_1 fX4_68 rfl (zMb_is hb) (zMb_r0 hb) rfl ?_
  refine AW.iload_n 5 dX4_readClause_4 rfl rfl ?_
  refine AW.aload_n 6 dX4_readClause_5 rfl rfl ?_
  refine AW.cVi0 9 dX4_readClause_6 kX4_71 (zI rfl rfl) (Nat.le_of_ble_eq_true rfl) rfl (C_X4_takeDigit hT hs hn (fun M1 a1 r1 => ?_))
  refine AW.iast 10 dX4_readClause_9 (zMb_a1 hb) rfl (by omega) (by decide) rfl ?_
  have t1 : f_tp (z_st M1 (b + 1) r (nI (pp_dig tp n s).1)) n tp := hT.fr (by rw [z_st_ne (by omega)]; exact a1.1 1 (by decide)) (by rw [z_st_ne (by omega)]; exact a1.1 2 (by decide))
  have q1 : f_rd (z_st M1 (b + 1) r (nI (pp_dig tp n s).1)) (pp_dig tp n s).2 := ⟨by rw [z_st_ne (by omega)]; exact r1.1, by rw [z_st_ne (by omega)]; exact r1.2⟩
  refine AW.aload_n 11 dX4_readClause_10 rfl rfl ?_
  refine AW.iconst 12 (nI 0) dX4_readClause_11 (by decide) rfl ?_
  refine AW.cVv1 15 dX4_readClause_12 kX4_58 (zI rfl rfl) (Nat.le_of_ble_eq_true rfl) rfl (kT (z_st M1 (b + 1) r (nI (pp_dig tp n s).1)) (pp_dig tp n s).2 _ t1 q1 hle.1 (by rw [z_st_ne (by omega), a1.2 4 (by decide) (by decide)]; exact hdu) (fun M2 a2 r2 h2 => ?_))
  refine AW.aload_n 16 dX4_readClause_15 rfl rfl ?_
  refine AW.getR 19 dX4_readClause_16 fX4_11 rfl (zI rfl rfl) rfl rfl ?_
  refine AW.iconst 20 (nI 0) dX4_readClause_19 (by decide) rfl ?_
  refine AW.aald 21 dX4_readClause_20 (zA rfl rfl) (by decide) rfl (by omega) (by decide) rfl rfl ?_
  refine AW.iconst 22 (nI 0) dX4_readClause_21 (by decide) rfl ?_
  refine AW.aload_n 23 dX4_readClause_22 rfl rfl ?_
  refine AW.getR 26 dX4_readClause_23 fX4_75 rfl (zMb_is hb) (zMb_r3 hb) rfl ?_
  refine AW.iload_n 27 dX4_readClause_26 rfl rfl ?_
  refine AW.aald 28 dX4_readClause_27 (zMb_a4 hb) (by decide) rfl (by omega) (by decide) (zMb_rr hb (by omega)) rfl ?_
  refine AW.iconst 29 (nI 0) dX4_readClause_28 (by decide) rfl ?_
  refine AW.iconst 30 (nI 4) dX4_readClause_29 (by decide) rfl ?_
  refine AW.copy 33 dX4_readClause_30 qX4_62 (zA rfl rfl) (zMb_ar hb (by omega)) rfl rfl rfl (by omega) (by omega) (by decide) (by decide) (Nat.le_of_ble_eq_true rfl) rfl ?_
  have t2 : f_tp (z_row M2 (b + 5 + r) (va_cpy (M2 5) (M2 (b + 5 + r)) 0 0 4)) n tp := t1.fr (by rw [z_row_ne _ (by omega)]; exact a2.1 1 (by decide) (by decide) (by omega) (by omega)) (by rw [z_row_ne _ (by omega)]; exact a2.1 2 (by decide) (by decide) (by omega) (by omega))
  have q2 : f_rd (z_row M2 (b + 5 + r) (va_cpy (M2 5) (M2 (b + 5 + r)) 0 0 4)) (pp_c2 tp n s).1 := ⟨by rw [z_row_ne _ (by omega)]; exact r2.1, by rw [z_row_ne _ (by omega)]; exact r2.2⟩
  refine AW.aload_n 34 dX4_readClause_33 rfl rfl ?_
  refine AW.bipush 36 (nI 58) dX4_readClause_34 (by decide) rfl ?_
  refine AW.cVv1 39 dX4_readClause_36 kX4_78 (zI rfl rfl) (Nat.le_of_ble_eq_true rfl) rfl (C_X4_need (M := z_row M2 (b + 5 + r) (va_cpy (M2 5) (M2 (b + 5 + r)) 0 0 4)) (s := (pp_c2 tp n s).1) t2 q2 hle.2.1 (by decide) (by decide) (fun M3 a3 r3 => ?_))
  refine AW.aload_n 40 dX4_readClause_39 rfl rfl ?_
  refine AW.getR 43 dX4_readClause_40 fX4_82 rfl (zMb_is hb) (zMb_r1 hb) rfl ?_
  refine AW.iload_n 44 dX4_readClause_43 rfl rfl ?_
  refine AW.aload_n 45 dX4_readClause_44 rfl rfl ?_
  refine AW.cVi0 48 dX4_readClause_45 kX4_71 (zI rfl rfl) (Nat.le_of_ble_eq_true rfl) rfl (C_X4_takeDigit (M := M3) (s := pp_c3 tp n s) (t2.fr (a3.1 1 (by decide)) (a3.1 2 (by decide))) r3 hle.2.2.1 (fun M4 a4 r4 => ?_))
  refine AW.iast 49 dX4_readClause_48 (zMb_a2 hb) rfl (by omega) (by decide) rfl ?_
  have t4 : f_tp (z_st M4 (b + 2) r (nI (pp_c4 tp n s).1)) n tp := t2.fr (by rw [z_st_ne (by omega), a4.1 1 (by decide)]; exact a3.1 1 (by decide)) (by rw [z_st_ne (by omega), a4.1 2 (by decide)]; exact a3.1 2 (by decide))
  have q4 : f_rd (z_st M4 (b + 2) r (nI (pp_c4 tp n s).1)) (pp_c4 tp n s).2 := ⟨by rw [z_st_ne (by omega)]; exact r4.1, by rw [z_st_ne (by omega)]; exact r4.2⟩
  have fin : ∀ M9, f_fr (z_st M4 (b + 2) r (nI (pp_c4 tp n s).1)) M9 → f_rd M9 (pp_cls tp n s) → Q (ZS m0 m1 md) (z_st (z_st M9 (b + 3) r (pp_c6 tp n s).1) b 4 (nI (r + 1))) := by
    intro M9 a9 r9
    refine hQ _ (fun c c1 c2 => ?_) ?_ ⟨by rw [z_st_ne (by omega), z_st_ne (by omega)]; exact r9.1, by rw [z_st_ne (by omega), z_st_ne (by omega)]; exact r9.2⟩ (z_st_v _ _ _ _) ?_ ?_ ?_ (fun i hi hir => ?_) (fun z w hw x hx => ?_)
    · rw [z_st_ne (by omega), z_st_ne (by omega), a9.1 c (by omega), z_st_ne (by omega), a4.1 c (by omega), a3.1 c (by omega), z_row_ne _ (by omega), a2.1 c (by omega) (by omega) (by omega) (by omega), z_st_ne (by omega)]; exact a1.1 c (by omega)
    · rw [z_st_ne (by omega), z_st_ne (by omega), a9.2 4 (by decide) (by decide), z_st_ne (by omega), a4.2 4 (by decide) (by decide), a3.2 4 (by decide) (by decide), z_row_ne _ (by omega), a2.2 4 (by decide) (by decide), z_st_ne (by omega), a1.2 4 (by decide) (by decide)]; exact hdu
    · rw [z_st_ne (by omega), z_st_ne (by omega), a9.1 _ (by omega), z_st_ne (by omega), a4.1 _ (by omega), a3.1 _ (by omega), z_row_ne _ (by omega), a2.1 _ (by omega) (by omega) (by omega) (by omega), z_st_at, a1.1 _ (by omega)]
    · rw [z_st_ne (by omega), z_st_ne (by omega), a9.1 _ (by omega), z_st_at, a4.1 _ (by omega), a3.1 _ (by omega), z_row_ne _ (by omega), a2.1 _ (by omega) (by omega) (by omega) (by omega), z_st_ne (by omega), a1.1 _ (by omega)]
    · rw [z_st_ne (by omega), z_st_at, a9.1 _ (by omega), z_st_ne (by omega), a4.1 _ (by omega), a3.1 _ (by omega), z_row_ne _ (by omega), a2.1 _ (by omega) (by omega) (by omega) (by omega), z_st_ne (by omega), a1.1 _ (by omega)]
    · rw [z_st_ne (by omega), z_st_ne (by omega), a9.1 _ (by omega), z_st_ne (by omega), a4.1 _ (by omega), a3.1 _ (by omega), z_row_ne _ (by omega), a2.1 _ (by omega) (by omega) (by omega) (by omega), z_st_ne (by omega), a1.1 _ (by omega)]
    · rw [z_st_ne (by omega), z_st_ne (by omega), a9.1 _ (by omega), z_st_ne (by omega), a4.1 _ (by omega), a3.1 _ (by omega), z_row_at, pk_cpy_in (by omega) (by omega)]
      have h9 := h2 z w (by omega) x hx
      rw [show 0 + (w - 0) = w by omega]
      exact h9
  refine AW.aload_n 50 dX4_readClause_49 rfl rfl ?_
  refine AW.getR 53 dX4_readClause_50 fX4_85 rfl (zMb_is hb) (zMb_r2 hb) rfl ?_
  refine AW.iload_n 54 dX4_readClause_53 rfl rfl ?_
  refine AW.aload_n 55 dX4_readClause_54 rfl rfl ?_
  refine AW.bipush 57 (nI 62) dX4_readClause_55 (by decide) rfl ?_
  refine AW.cVi1 60 dX4_readClause_57 kX4_51 (zI rfl rfl) (Nat.le_of_ble_eq_true rfl) rfl (C_X4_takes (M := z_st M4 (b + 2) r (nI (pp_c4 tp n s).1)) (s := (pp_c4 tp n s).2) t4 q4 hle.2.2.2.1 (by decide) (by decide) (fun M5 => ?_) (fun M5 => ?_))
  · skip
    intro a5 r5 p5
    have e6 : pp_c6 tp n s = (nI (pp_dig tp n (pp_pass tp n 62 (pp_c4 tp n s).2).2).1, (pp_dig tp n (pp_pass tp n 62 (pp_c4 tp n s).2).2).2) := by unfold pp_c6; rw [if_pos p5]
    refine AW.if_eq 63 70 dX4_readClause_60 (by decide) rfl (fun h => absurd h (by decide)) (fun _ => ?_)
    refine AW.aload_n 64 dX4_readClause_63 rfl rfl ?_
    refine AW.cVi0 67 dX4_readClause_64 kX4_71 (zI rfl rfl) (Nat.le_of_ble_eq_true rfl) rfl (C_X4_takeDigit (M := M5) (s := (pp_pass tp n 62 (pp_c4 tp n s).2).2) (t4.fr (a5.1 1 (by decide)) (a5.1 2 (by decide))) r5 (pp_pass_le (tp := tp) (c := 62) (by decide) hle.2.2.2.1).1 (fun M6 a6 r6 => ?_))
    have fin2 := fin M6 (a5.tr a6) (by unfold pp_cls; rw [e6]; exact r6)
    rw [e6] at fin2
    refine AW.goto 72 dX4_readClause_67 (by decide) ?_
    refine AW.iast 73 dX4_readClause_72 (zMb_a3 hb) rfl (by omega) (by decide) rfl ?_
    refine AW.aload_n 74 dX4_readClause_73 rfl rfl ?_
    refine AW.iload_n 75 dX4_readClause_74 rfl rfl ?_
    refine AW.iconst 76 (nI 1) dX4_readClause_75 (by decide) rfl ?_
    refine AW.iaddN 77 dX4_readClause_76 rfl ?_
    refine AW.putI 80 .int dX4_readClause_77 pX4_42 rfl (zMb_is hb) rfl rfl rfl ?_
    refine AW.vret dX4_readClause_80 rfl rfl ⟨rfl, ?_⟩
    exact fin2
  · skip
    intro a5 r5 p5
    have e6 : pp_c6 tp n s = (-4, (pp_pass tp n 62 (pp_c4 tp n s).2).2) := by unfold pp_c6; rw [if_neg (by rw [p5]; exact Bool.false_ne_true)]
    rw [← pp_pass_no p5] at r5
    have fin2 := fin M5 a5 (by unfold pp_cls; rw [e6]; exact r5)
    rw [e6] at fin2
    refine AW.if_eq 63 70 dX4_readClause_60 (by decide) rfl (fun _ => ?_) (fun h => absurd h (by decide))
    refine AW.bipush 72 (-4) dX4_readClause_70 (by decide) rfl ?_
    refine AW.iast 73 dX4_readClause_72 (zMb_a3 hb) rfl (by omega) (by decide) rfl ?_
    refine AW.aload_n 74 dX4_readClause_73 rfl rfl ?_
    refine AW.iload_n 75 dX4_readClause_74 rfl rfl ?_
    refine AW.iconst 76 (nI 1) dX4_readClause_75 (by decide) rfl ?_
    refine AW.iaddN 77 dX4_readClause_76 rfl ?_
    refine AW.putI 80 .int dX4_readClause_77 pX4_42 rfl (zMb_is hb) rfl rfl rfl ?_
    refine AW.vret dX4_readClause_80 rfl rfl ⟨rfl, ?_⟩
    exact fin2
end CLAUSE
