def g_frL (M M' : zM) : Prop := (∀ c, c ≠ 99 → c ≠ 101 → c ≠ 102 → c ≠ 103 → c ≠ 109 → c ≠ 110 → c ≠ 111 → c ≠ 112 → M' c = M c) ∧ ∀ j, j ≠ 2 → j ≠ 3 → M' 99 j = M 99 j
theorem g_frL.tr {M M1 M2 : zM} (h : g_frL M M1) (h2 : g_frL M1 M2) : g_frL M M2 := ⟨fun c a b e f i j k m => (h2.1 c a b e f i j k m).trans (h.1 c a b e f i j k m), fun j a b => (h2.2 j a b).trans (h.2 j a b)⟩
theorem g_frO.L {M M' : zM} {o : Nat} (h : g_frO o M M') : g_frL M M' := ⟨fun c a b e f _ _ _ _ => h.1 c a b e f, h.2.1⟩
theorem g_fr.L {M M' : zM} (h : g_fr M M') : g_frL M M' := ⟨fun c a _ _ _ _ _ _ _ => h.1 c a, h.2⟩
theorem g_tp.ofL {M M' : zM} {n : Nat} {tp : Nat → Nat} (hT : g_tp M n tp) (h : g_frL M M') : g_tp M' n tp := hT.fr (h.2 1 (by decide) (by decide)) (h.1 100 (by decide) (by decide) (by decide) (by decide) (by decide) (by decide) (by decide) (by decide))
theorem pp_cu_0 {tp : Nat → Nat} {n p : Nat} (ht : pp_tok tp n) : pp_cu tp n p = 0 ↔ ¬ pp_sk tp n p < n := by
  unfold pp_cu
  split
  · rename_i h
    have := (ht.2 _ h).1
    exact ⟨fun z => by omega, fun z => absurd h z⟩
  · rename_i h; exact ⟨fun _ => h, fun _ => rfl⟩
section MCLAUSE
variable {l : Launch} {g : zG} {d m0 m1 md : Nat} {M : zM} {n : Nat} {tp : Nat → Nat} {s : pS}
/-- behind the test: the colon, the act, the state -/
theorem L_X10_clause94 {r : Nat} (hr : r < 8) (hT : g_tp M n tp) {sT : pS} (hs : g_rd M sT) (hn : sT.2 ≤ n) {v2 v3 v4 : Int32} {Q : zS → zM → Prop}
    (hQ : ∀ M', g_frL M M' → g_rd M' (if (pp_pass tp n 62 (pp_dig tp n (pp_need tp n 58 sT)).2).1 = true then (pp_dig tp n (pp_pass tp n 62 (pp_dig tp n (pp_need tp n 58 sT)).2).2).2 else (pp_pass tp n 62 (pp_dig tp n (pp_need tp n 58 sT)).2).2) → M' 109 = M 109 → M' 110 = upd (M 110) r (nI (pp_dig tp n (pp_need tp n 58 sT)).1) → M' 111 = upd (M 111) r (if (pp_pass tp n 62 (pp_dig tp n (pp_need tp n 58 sT)).2).1 = true then nI (pp_dig tp n (pp_pass tp n 62 (pp_dig tp n (pp_need tp n 58 sT)).2).2).1 else -4) → M' 112 = M 112 → Q (ZS m0 m1 md) M') :
    AW l g RX10 cX10_clause 5 none false (d + 2) 0 0 94 [some (.ref 99), some (.int (nI r)), some (.int v2), some (.int v3), some (.int v4)] [] (ZS m0 m1 md) M (z_Qv Q) := by
  have n1 := pp_need_le (tp := tp) (c := 58) (by decide) hn
  have n2 := pp_dig_le (tp := tp) n1.1
  have n3 := pp_pass_le (tp := tp) (c := 62) (by decide) n2.1
  have n4 := pp_dig_le (tp := tp) n3.1
  have K : ∀ M1, g_fr M M1 → g_rd M1 (pp_need tp n 58 sT) → AW l g RX10 cX10_clause 5 none false (d + 2) 0 0 119 [some (.ref 99), some (.int (nI r)), some (.int v2), some (.int v3), some (.int v4)] [] (ZS m0 m1 md) M1 (z_Qv Q) := by
    intro M1 f1 r1
    refine AW.aload_n 120 dX10_clause_119 rfl rfl ?_
    refine AW.getR 123 dX10_clause_120 fX10_41 rfl (zI rfl rfl) rfl rfl ?_
    refine AW.iload_n 124 dX10_clause_123 rfl rfl ?_
    refine AW.aload_n 125 dX10_clause_124 rfl rfl ?_
    refine AW.cVi0 128 dX10_clause_125 kX10_159 (zI rfl rfl) (Nat.le_of_ble_eq_true rfl) rfl (C_X10_digit (hT.of f1) r1 n1.1 (fun M2 f2 r2 => ?_))
    refine AW.iast 129 dX10_clause_128 (zA rfl rfl) rfl (by omega) (by decide) rfl ?_
    have t2 : g_tp (z_st M2 110 r (nI (pp_dig tp n (pp_need tp n 58 sT)).1)) n tp := (hT.of (f1.tr f2)).fr (by rw [z_st_ne (by decide)]) (by rw [z_st_ne (by decide)])
    have q2 : g_rd (z_st M2 110 r (nI (pp_dig tp n (pp_need tp n 58 sT)).1)) (pp_dig tp n (pp_need tp n 58 sT)).2 := ⟨by rw [z_st_ne (by decide)]; exact r2.1, by rw [z_st_ne (by decide)]; exact r2.2⟩
    have FF : ∀ M9 (v : Int32), g_fr (z_st M2 110 r (nI (pp_dig tp n (pp_need tp n 58 sT)).1)) M9 → g_frL M (z_st M9 111 r v) ∧ z_st M9 111 r v 109 = M 109 ∧ z_st M9 111 r v 110 = upd (M 110) r (nI (pp_dig tp n (pp_need tp n 58 sT)).1) ∧ z_st M9 111 r v 111 = upd (M 111) r v ∧ z_st M9 111 r v 112 = M 112 := fun M9 v f9 => ⟨⟨fun c c1 c2 c3 c4 c5 c6 c7 c8 => by rw [z_st_ne c7, f9.1 c c1, z_st_ne c6, f2.1 c c1]; exact f1.1 c c1, fun j j1 j2 => by rw [z_st_ne (by decide), f9.2 j j1 j2, z_st_ne (by decide), f2.2 j j1 j2]; exact f1.2 j j1 j2⟩, by rw [z_st_ne (by decide), f9.1 109 (by decide), z_st_ne (by decide), f2.1 109 (by decide)]; exact f1.1 109 (by decide), by rw [z_st_ne (by decide), f9.1 110 (by decide), z_st_at, f2.1 110 (by decide), f1.1 110 (by decide)], by rw [z_st_at, f9.1 111 (by decide), z_st_ne (by decide), f2.1 111 (by decide), f1.1 111 (by decide)], by rw [z_st_ne (by decide), f9.1 112 (by decide), z_st_ne (by decide), f2.1 112 (by decide)]; exact f1.1 112 (by decide)⟩
    refine AW.aload_n 130 dX10_clause_129 rfl rfl ?_
    refine AW.getR 133 dX10_clause_130 fX10_44 rfl (zI rfl rfl) rfl rfl ?_
    refine AW.iload_n 134 dX10_clause_133 rfl rfl ?_
    refine AW.aload_n 135 dX10_clause_134 rfl rfl ?_
    refine AW.bipush 137 (nI 62) dX10_clause_135 (by decide) rfl ?_
    refine AW.cVi1 140 dX10_clause_137 kX10_162 (zI rfl rfl) (Nat.le_of_ble_eq_true rfl) rfl (C_X10_passes (M := z_st M2 110 r (nI (pp_dig tp n (pp_need tp n 58 sT)).1)) t2 q2 n2.1 (by decide) (fun M3 => ?_) (fun M3 => ?_))
    · skip
      intro f3 r3 p3
      rw [if_pos p3, if_pos p3] at hQ
      refine AW.if_eq 143 150 dX10_clause_140 (by decide) rfl (fun h => absurd h (by decide)) (fun _ => ?_)
      refine AW.aload_n 144 dX10_clause_143 rfl rfl ?_
      refine AW.cVi0 147 dX10_clause_144 kX10_159 (zI rfl rfl) (Nat.le_of_ble_eq_true rfl) rfl (C_X10_digit (M := M3) (t2.of f3) r3 n3.1 (fun M4 f4 r4 => ?_))
      obtain ⟨y1, y2, y3, y4, y5⟩ := FF M4 (nI (pp_dig tp n (pp_pass tp n 62 (pp_dig tp n (pp_need tp n 58 sT)).2).2).1) (f3.tr f4)
      have fin := hQ _ y1 ⟨by rw [z_st_ne (by decide)]; exact r4.1, by rw [z_st_ne (by decide)]; exact r4.2⟩ y2 y3 y4 y5
      refine AW.goto 152 dX10_clause_147 (by decide) ?_
      refine AW.iast 153 dX10_clause_152 (zA rfl rfl) rfl (by omega) (by decide) rfl ?_
      refine AW.vret dX10_clause_153 rfl rfl ⟨rfl, ?_⟩
      exact fin
    · skip
      intro f3 r3 p3
      rw [if_neg (by rw [p3]; exact Bool.false_ne_true), if_neg (by rw [p3]; exact Bool.false_ne_true)] at hQ
      rw [← pp_pass_no p3] at r3
      obtain ⟨y1, y2, y3, y4, y5⟩ := FF M3 (-4) f3
      have fin := hQ _ y1 ⟨by rw [z_st_ne (by decide)]; exact r3.1, by rw [z_st_ne (by decide)]; exact r3.2⟩ y2 y3 y4 y5
      refine AW.if_eq 143 150 dX10_clause_140 (by decide) rfl (fun _ => ?_) (fun h => absurd h (by decide))
      refine AW.bipush 152 (-4) dX10_clause_150 (by decide) rfl ?_
      refine AW.iast 153 dX10_clause_152 (zA rfl rfl) rfl (by omega) (by decide) rfl ?_
      refine AW.vret dX10_clause_153 rfl rfl ⟨rfl, ?_⟩
      exact fin
  cases hw : sT.1 with
  | true =>
    have e3 : M 99 3 = nI 1 := by rw [hs.1, hw]; rfl
    have fin := K (z_st M 99 3 (nI 1)) ((g_fr.rf M).st3 _) (by rw [pp_need_f hw]; exact ⟨by rw [z_st_v, hw]; rfl, by rw [z_st_o (by decide)]; exact hs.2⟩)
    refine AW.aload_n 95 dX10_clause_94 rfl rfl ?_
    refine AW.aload_n 96 dX10_clause_95 rfl rfl ?_
    refine AW.getI 99 dX10_clause_96 fX10_147 rfl (zI rfl rfl) rfl ?_
    refine AW.topi (nI 1) e3 ?_
    refine AW.ifN_ne 102 111 dX10_clause_99 (by decide) rfl (by omega) (fun b99 => ?_) (fun b99 => absurd b99 (by omega))
    refine AW.iconst 112 (nI 1) dX10_clause_111 (by decide) rfl ?_
    refine AW.goto 116 dX10_clause_112 (by decide) ?_
    refine AW.putI 119 .boolean dX10_clause_116 pX10_147 rfl (zI rfl rfl) rfl rfl rfl ?_
    exact fin
  | false =>
    have e3 : M 99 3 = nI 0 := by rw [hs.1, hw]; rfl
    refine AW.aload_n 95 dX10_clause_94 rfl rfl ?_
    refine AW.aload_n 96 dX10_clause_95 rfl rfl ?_
    refine AW.getI 99 dX10_clause_96 fX10_147 rfl (zI rfl rfl) rfl ?_
    refine AW.topi (nI 0) e3 ?_
    refine AW.ifN_ne 102 111 dX10_clause_99 (by decide) rfl (by omega) (fun b99 => absurd b99 (by omega)) (fun b99 => ?_)
    refine AW.aload_n 103 dX10_clause_102 rfl rfl ?_
    refine AW.bipush 105 (nI 58) dX10_clause_103 (by decide) rfl ?_
    refine AW.cVi1 108 dX10_clause_105 kX10_162 (zI rfl rfl) (Nat.le_of_ble_eq_true rfl) rfl (C_X10_passes hT hs hn (by decide) (fun M1 => ?_) (fun M1 => ?_))
    · skip
      intro f1 r1 p1
      have en : pp_need tp n 58 sT = (pp_pass tp n 58 sT).2 := by unfold pp_need; rw [if_pos p1]
      have nf := (pp_pass_le (tp := tp) (c := 58) (by decide) hn).2.2.1.trans hw
      have fin := K (z_st M1 99 3 (nI 0)) (f1.st3 _) (by rw [en]; exact ⟨by rw [z_st_v, nf]; rfl, by rw [z_st_o (by decide)]; exact r1.2⟩)
      refine AW.if_ne 111 115 dX10_clause_108 (by decide) rfl (fun _ => ?_) (fun h => absurd h (by decide))
      refine AW.iconst 116 (nI 0) dX10_clause_115 (by decide) rfl ?_
      refine AW.putI 119 .boolean dX10_clause_116 pX10_147 rfl (zI rfl rfl) rfl rfl rfl ?_
      exact fin
    · skip
      intro f1 r1 p1
      have en : pp_need tp n 58 sT = (true, (pp_nrm tp n sT).2) := by unfold pp_need; rw [if_neg (by rw [p1]; exact Bool.false_ne_true)]
      have fin := K (z_st M1 99 3 (nI 1)) (f1.st3 _) (by rw [en]; exact ⟨by rw [z_st_v]; rfl, by rw [z_st_o (by decide)]; exact r1.2⟩)
      refine AW.if_ne 111 115 dX10_clause_108 (by decide) rfl (fun h => absurd h (by decide)) (fun _ => ?_)
      refine AW.iconst 112 (nI 1) dX10_clause_111 (by decide) rfl ?_
      refine AW.goto 116 dX10_clause_112 (by decide) ?_
      refine AW.putI 119 .boolean dX10_clause_116 pX10_147 rfl (zI rfl rfl) rfl rfl rfl ?_
      exact fin
/-- the moments of a test that has no fault -/
theorem L_X10_clauseG {r p : Nat} (hr : r < 8) (hp : p ≤ n) (hT : g_tp M n tp) {R : pS × pB} (hR : pp_T tp n false 5 (false, p) = R) (hRf : R.1.1 = false) {Q : zS → zM → Prop}
    (hQ : ∀ (M' : zM) (v4 : Int32), g_frL M M' → M' 109 = M 109 → M' 110 = M 110 → M' 111 = M 111 → M' 99 3 = nI 0 → (∀ j, ¬ (128 * r ≤ j ∧ j < 128 * r + 128) → M' 112 j = M 112 j) → (∀ j, j < 128 → M' 112 (128 * r + j) = z_bI (R.2 (j / 32) (j % 32))) → AW l g RX10 cX10_clause 5 none false (d + 4) 0 0 75 [some (.ref 99), some (.int (nI r)), some (.int (nI p)), some (.int (nI R.1.2)), some (.int v4)] [] (ZS m0 m1 md) M' (z_Qv Q)) :
    ∀ (q t : Nat), t + q = 128 → ∀ (M' : zM) (e : Int32), (t = 0 ∨ e = nI R.1.2) → g_frL M M' → M' 109 = M 109 → M' 110 = M 110 → M' 111 = M 111 → M' 99 3 = nI 0 → (∀ j, ¬ (128 * r ≤ j ∧ j < 128 * r + 128) → M' 112 j = M 112 j) → (∀ j, j < t → M' 112 (128 * r + j) = z_bI (R.2 (j / 32) (j % 32))) → AW l g RX10 cX10_clause 5 none false (d + 4) 0 0 23 [some (.ref 99), some (.int (nI r)), some (.int (nI p)), some (.int e), some (.int (nI t))] [] (ZS m0 m1 md) M' (z_Qv Q) := by
  intro q
  induction q with
  | zero =>
    intro t ht M' e he F k1 k2 k3 k4 k5 k6
    have ht : t = 128 := by omega
    subst ht
    have he : e = nI R.1.2 := he.resolve_left (by decide)
    subst he
    refine AW.iload 25 dX10_clause_23 rfl rfl ?_
    refine AW.sipush 28 (nI 128) dX10_clause_25 (by decide) rfl ?_
    refine AW.icmp_ge 31 75 dX10_clause_28 (by decide) rfl (fun _ => ?_) (fun h => absurd h (by decide))
    exact hQ M' _ F k1 k2 k3 k4 k5 k6
  | succ q ih =>
    intro t ht M' e he F k1 k2 k3 k4 k5 k6
    have F2 : g_frL M (z_st M' 99 2 (nI p)) := F.tr (g_fr.L ((g_fr.rf M').st2 _))
    have r2 : g_rd (z_st M' 99 2 (nI p)) (false, p) := ⟨by rw [z_st_o (by decide)]; exact k4, z_st_v _ _ _ _⟩
    have et : 32 * (t / 32) + t % 32 = t := by omega
    refine AW.iload 25 dX10_clause_23 rfl rfl ?_
    refine AW.sipush 28 (nI 128) dX10_clause_25 (by decide) rfl ?_
    refine AW.icmpN_ge 31 75 dX10_clause_28 (by decide) rfl (by omega) (by omega) (fun b28 => absurd b28 (by omega)) (fun b28 => ?_)
    refine AW.aload_n 32 dX10_clause_31 rfl rfl ?_
    refine AW.getI 35 dX10_clause_32 fX10_147 rfl (zI rfl rfl) rfl ?_
    refine AW.topi (nI 0) k4 ?_
    refine AW.ifN_ne 38 75 dX10_clause_35 (by decide) rfl (by omega) (fun b35 => absurd b35 (by omega)) (fun b35 => ?_)
    refine AW.aload_n 39 dX10_clause_38 rfl rfl ?_
    refine AW.iload_n 40 dX10_clause_39 rfl rfl ?_
    refine AW.putI 43 .int dX10_clause_40 pX10_144 rfl (zI rfl rfl) rfl rfl rfl ?_
    refine AW.aload_n 44 dX10_clause_43 rfl rfl ?_
    refine AW.getR 47 dX10_clause_44 fX10_47 rfl (zI rfl rfl) rfl rfl ?_
    refine AW.sipush 50 (nI 128) dX10_clause_47 (by decide) rfl ?_
    refine AW.iload_n 51 dX10_clause_50 rfl rfl ?_
    refine AW.imulN 52 dX10_clause_51 rfl ?_
    refine AW.iload 54 dX10_clause_52 rfl rfl ?_
    refine AW.iaddN 55 dX10_clause_54 rfl ?_
    refine AW.aload_n 56 dX10_clause_55 rfl rfl ?_
    refine AW.iload 58 dX10_clause_56 rfl rfl ?_
    refine AW.topi (nI (32 * (t / 32) + t % 32)) (by rw [et]) ?_
    refine AW.iconst 59 (nI 0) dX10_clause_58 (by decide) rfl ?_
    refine AW.iconst 60 (nI 0) dX10_clause_59 (by decide) rfl ?_
    refine AW.cVi3 63 dX10_clause_60 kX10_170 (zI rfl rfl) (Nat.le_of_ble_eq_true rfl) rfl (C_X10_test (M := z_st M' 99 2 (nI p)) (s := (false, p)) (du := false) (st := t / 32) (x := t % 32) (a := 0) (by omega) (by omega) (by omega) (hT.ofL F2) r2 rfl hp (fun M3 f3 r3 b3 => absurd (show R.1.1 = true by rw [← hR]; exact b3) (by rw [hRf]; exact Bool.false_ne_true)) (fun M3 f3 r3 b3 => ?_))
    refine AW.bast 64 dX10_clause_63 (zA rfl rfl) (show _ = nI (128 * r + t) from rfl) (by omega) (by decide) (by cases (pp_T tp n false 5 (false, p)).2 (4 * 0 + t / 32) (t % 32) <;> rfl) rfl ?_
    rw [hR] at r3 ⊢
    refine AW.aload_n 65 dX10_clause_64 rfl rfl ?_
    refine AW.getI 68 dX10_clause_65 fX10_144 rfl (zI rfl rfl) rfl ?_
    refine AW.topi (nI R.1.2) (by rw [z_st_ne (by decide)]; exact r3.2) ?_
    refine AW.istn3 69 dX10_clause_68 (by decide) rfl rfl ?_
    refine AW.iinc4 72 _ dX10_clause_69 (z_inc1 _) (by decide) rfl rfl ?_
    refine AW.goto 23 dX10_clause_72 (by decide) ?_
    refine ih (t + 1) (by omega) _ _ (Or.inr rfl) (F2.tr ⟨fun c c1 c2 c3 c4 c5 c6 c7 c8 => by rw [z_st_ne c8]; exact f3.1 c c1 c2 c3 c4, fun j j1 j2 => by rw [z_st_ne (by decide)]; exact f3.2.1 j j1 j2⟩) (by rw [z_st_ne (by decide), f3.1 109 (by decide) (by decide) (by decide) (by decide), z_st_ne (by decide)]; exact k1) (by rw [z_st_ne (by decide), f3.1 110 (by decide) (by decide) (by decide) (by decide), z_st_ne (by decide)]; exact k2) (by rw [z_st_ne (by decide), f3.1 111 (by decide) (by decide) (by decide) (by decide), z_st_ne (by decide)]; exact k3) (by rw [z_st_ne (by decide), r3.1, hRf]; rfl) (fun j hj => by rw [z_st_o (by omega), f3.1 112 (by decide) (by decide) (by decide) (by decide), z_st_ne (by decide)]; exact k5 j hj) (fun j hj => ?_)
    by_cases e : j = t
    · subst e; rw [z_st_v, show 4 * 0 + j / 32 = j / 32 by omega]
    · rw [z_st_o (by omega), f3.1 112 (by decide) (by decide) (by decide) (by decide), z_st_ne (by decide)]; exact k6 j (by omega)
theorem C_X10_clause {r : Nat} (hr : r < 8) (hT : g_tp M n tp) (hs : g_rd M s) (hn : s.2 ≤ n) {Q : zS → zM → Prop}
    (hQ : ∀ M', g_frL M M' → g_rd M' (pp_cls tp n s) → M' 109 = upd (M 109) r (nI (pp_dig tp n s).1) → M' 110 = upd (M 110) r (nI (pp_c4 tp n s).1) → M' 111 = upd (M 111) r (pp_c6 tp n s).1 → (∀ j, ¬ (128 * r ≤ j ∧ j < 128 * r + 128) → M' 112 j = M 112 j) → ((pp_c2 tp n s).1.1 = false → ∀ j, j < 128 → M' 112 (128 * r + j) = z_bI ((pp_c2 tp n s).2 (j / 32) (j % 32))) → Q (ZS m0 m1 md) M') :
    AMet l g yX10_clause cX10_clause 5 none (d + 4) 0 0 [.ref 99, .int (nI r)] (ZS m0 m1 md) M (z_Qv Q) := by
  have hle := pp_c_le (tp := tp) hn
  have E : ∀ (M5 : zM) (v2 v3 v4 : Int32), g_frL M M5 → M5 109 = upd (M 109) r (nI (pp_dig tp n s).1) → M5 110 = M 110 → M5 111 = M 111 → (∀ j, ¬ (128 * r ≤ j ∧ j < 128 * r + 128) → M5 112 j = M 112 j) → ((pp_c2 tp n s).1.1 = false → ∀ j, j < 128 → M5 112 (128 * r + j) = z_bI ((pp_c2 tp n s).2 (j / 32) (j % 32))) → g_rd M5 (pp_c2 tp n s).1 → AW l g RX10 cX10_clause 5 none false (d + 4) 0 0 94 [some (.ref 99), some (.int (nI r)), some (.int v2), some (.int v3), some (.int v4)] [] (ZS m0 m1 md) M5 (z_Qv Q) := by
    intro M5 v2 v3 v4 F k1 k2 k3 k5 k6 r5
    refine L_X10_clause94 (d := d + 2) hr (hT.ofL F) r5 hle.2.1 (fun M6 F6 r6 y1 y2 y3 y4 => hQ M6 (F.tr F6) ?_ (by rw [y1]; exact k1) (by rw [y2, k2]; rfl) ?_ (fun j hj => by rw [y4]; exact k5 j hj) (fun z j hj => by rw [y4]; exact k6 z j hj))
    · unfold pp_cls pp_c6
      by_cases e : (pp_pass tp n 62 (pp_c4 tp n s).2).1 = true
      · rw [if_pos e]
        have e' : (pp_pass tp n 62 (pp_dig tp n (pp_need tp n 58 (pp_c2 tp n s).1)).2).1 = true := e
        rw [if_pos e'] at r6
        exact r6
      · rw [if_neg e]
        have e' : ¬ (pp_pass tp n 62 (pp_dig tp n (pp_need tp n 58 (pp_c2 tp n s).1)).2).1 = true := e
        rw [if_neg e'] at r6
        exact r6
    · rw [y3, k3]
      unfold pp_c6
      by_cases e : (pp_pass tp n 62 (pp_c4 tp n s).2).1 = true
      · rw [if_pos e]
        have e' : (pp_pass tp n 62 (pp_dig tp n (pp_need tp n 58 (pp_c2 tp n s).1)).2).1 = true := e
        rw [if_pos e']
        rfl
      · rw [if_neg e]
        have e' : ¬ (pp_pass tp n 62 (pp_dig tp n (pp_need tp n 58 (pp_c2 tp n s).1)).2).1 = true := e
        rw [if_neg e']
  have W : ∀ (M6 : zM) (q : Nat) (v2 v3 : Int32) (t : Nat), t < 128 → M6 99 3 = nI 1 → M6 99 2 = nI q → AW l g RX10 cX10_clause 5 none false (d + 4) 0 0 94 [some (.ref 99), some (.int (nI r)), some (.int v2), some (.int v3), some (.int (nI t))] [] (ZS m0 m1 md) (z_st M6 99 2 (nI q)) (z_Qv Q) → AW l g RX10 cX10_clause 5 none false (d + 4) 0 0 23 [some (.ref 99), some (.int (nI r)), some (.int v2), some (.int v3), some (.int (nI t))] [] (ZS m0 m1 md) M6 (z_Qv Q) := by
    intro M6 q v2 v3 t ht e3 e2 fin
    refine AW.iload 25 dX10_clause_23 rfl rfl ?_
    refine AW.sipush 28 (nI 128) dX10_clause_25 (by decide) rfl ?_
    refine AW.icmpN_ge 31 75 dX10_clause_28 (by decide) rfl (by omega) (by omega) (fun b28 => absurd b28 (by omega)) (fun b28 => ?_)
    refine AW.aload_n 32 dX10_clause_31 rfl rfl ?_
    refine AW.getI 35 dX10_clause_32 fX10_147 rfl (zI rfl rfl) rfl ?_
    refine AW.topi (nI 1) e3 ?_
    refine AW.ifN_ne 38 75 dX10_clause_35 (by decide) rfl (by omega) (fun b35 => ?_) (fun b35 => absurd b35 (by omega))
    refine AW.aload_n 76 dX10_clause_75 rfl rfl ?_
    refine AW.aload_n 77 dX10_clause_76 rfl rfl ?_
    refine AW.getI 80 dX10_clause_77 fX10_147 rfl (zI rfl rfl) rfl ?_
    refine AW.topi (nI 1) e3 ?_
    refine AW.ifN_eq 83 90 dX10_clause_80 (by decide) rfl (by omega) (fun b80 => absurd b80 (by omega)) (fun b80 => ?_)
    refine AW.aload_n 84 dX10_clause_83 rfl rfl ?_
    refine AW.getI 87 dX10_clause_84 fX10_144 rfl (zI rfl rfl) rfl ?_
    refine AW.topi (nI q) e2 ?_
    refine AW.goto 91 dX10_clause_87 (by decide) ?_
    refine AW.putI 94 .int dX10_clause_91 pX10_144 rfl (zI rfl rfl) rfl rfl rfl ?_
    exact fin
  have L23 : ∀ (M2 : zM), g_frL M M2 → M2 109 = upd (M 109) r (nI (pp_dig tp n s).1) → M2 110 = M 110 → M2 111 = M 111 → M2 112 = M 112 → g_rd M2 (pp_dig tp n s).2 → AW l g RX10 cX10_clause 5 none false (d + 4) 0 0 23 [some (.ref 99), some (.int (nI r)), some (.int (nI (pp_dig tp n s).2.2)), some (.int (nI (pp_dig tp n s).2.2)), some (.int (nI 0))] [] (ZS m0 m1 md) M2 (z_Qv Q) := by
    intro M2 F k1 k2 k3 k4 r2
    cases hw : (pp_dig tp n s).2.1 with
    | true =>
      have e3 : M2 99 3 = nI 1 := by rw [r2.1, hw]; rfl
      have e2 : (pp_c2 tp n s).1 = (pp_dig tp n s).2 := (pp_T_good (tp := tp) (n := n) false 5).1 _ hw
      have F3 : g_frL M (z_st M2 99 2 (nI (pp_dig tp n s).2.2)) := F.tr (g_fr.L ((g_fr.rf M2).st2 _))
      have fin := E (z_st M2 99 2 (nI (pp_dig tp n s).2.2)) (nI (pp_dig tp n s).2.2) (nI (pp_dig tp n s).2.2) (nI 0) F3 (by rw [z_st_ne (by decide)]; exact k1) (by rw [z_st_ne (by decide)]; exact k2) (by rw [z_st_ne (by decide)]; exact k3) (fun j _ => by rw [z_st_ne (by decide), k4]) (fun z => by rw [e2, hw] at z; exact Bool.noConfusion z) (by rw [e2]; exact ⟨by rw [z_st_o (by decide)]; exact r2.1, z_st_v _ _ _ _⟩)
      exact W M2 _ _ _ 0 (by decide) e3 r2.2 fin
    | false =>
      have es : (pp_dig tp n s).2 = (false, (pp_dig tp n s).2.2) := by rw [← hw]
      have e3 : M2 99 3 = nI 0 := by rw [r2.1, hw]; rfl
      have hp := hle.1
      have hc2 : pp_c2 tp n s = pp_T tp n false 5 (false, (pp_dig tp n s).2.2) := by unfold pp_c2; rw [← es]
      have le2 := hle.2.1
      generalize (pp_dig tp n s).2.2 = p at hp hc2 ⊢
      cases hR : (pp_c2 tp n s).1.1 with
      | false =>
        refine L_X10_clauseG (M := M2) hr hp (hT.ofL F) (R := pp_c2 tp n s) hc2.symm hR (fun M5 v4 F5 y1 y2 y3 y4 y5 y6 => ?_) 128 0 (by omega) M2 _ (Or.inl rfl) ⟨fun _ _ _ _ _ _ _ _ _ => rfl, fun _ _ _ => rfl⟩ rfl rfl rfl e3 (fun _ _ => rfl) (fun j hj => absurd hj (by omega))
        have fin := E (z_st M5 99 2 (nI (pp_c2 tp n s).1.2)) (nI p) (nI (pp_c2 tp n s).1.2) v4 ((F.tr F5).tr (g_fr.L ((g_fr.rf M5).st2 _))) (by rw [z_st_ne (by decide), y1]; exact k1) (by rw [z_st_ne (by decide), y2]; exact k2) (by rw [z_st_ne (by decide), y3]; exact k3) (fun j hj => by rw [z_st_ne (by decide), y5 j hj, k4]) (fun _ j hj => by rw [z_st_ne (by decide)]; exact y6 j hj) ⟨by rw [z_st_o (by decide), hR]; exact y4, z_st_v _ _ _ _⟩
        refine AW.aload_n 76 dX10_clause_75 rfl rfl ?_
        refine AW.aload_n 77 dX10_clause_76 rfl rfl ?_
        refine AW.getI 80 dX10_clause_77 fX10_147 rfl (zI rfl rfl) rfl ?_
        refine AW.topi (nI 0) y4 ?_
        refine AW.ifN_eq 83 90 dX10_clause_80 (by decide) rfl (by omega) (fun b80 => ?_) (fun b80 => absurd b80 (by omega))
        refine AW.iload_n 91 dX10_clause_90 rfl rfl ?_
        refine AW.putI 94 .int dX10_clause_91 pX10_144 rfl (zI rfl rfl) rfl rfl rfl ?_
        exact fin
      | true =>
        have r3 : g_rd (z_st M2 99 2 (nI p)) (false, p) := ⟨by rw [z_st_o (by decide)]; exact e3, z_st_v _ _ _ _⟩
        have F3 : g_frL M (z_st M2 99 2 (nI p)) := F.tr (g_fr.L ((g_fr.rf M2).st2 _))
        refine AW.iload 25 dX10_clause_23 rfl rfl ?_
        refine AW.sipush 28 (nI 128) dX10_clause_25 (by decide) rfl ?_
        refine AW.icmp_ge 31 75 dX10_clause_28 (by decide) rfl (fun h => absurd h (by decide)) (fun _ => ?_)
        refine AW.aload_n 32 dX10_clause_31 rfl rfl ?_
        refine AW.getI 35 dX10_clause_32 fX10_147 rfl (zI rfl rfl) rfl ?_
        refine AW.topi (nI 0) e3 ?_
        refine AW.ifN_ne 38 75 dX10_clause_35 (by decide) rfl (by omega) (fun b35 => absurd b35 (by omega)) (fun b35 => ?_)
        refine AW.aload_n 39 dX10_clause_38 rfl rfl ?_
        refine AW.iload_n 40 dX10_clause_39 rfl rfl ?_
        refine AW.putI 43 .int dX10_clause_40 pX10_144 rfl (zI rfl rfl) rfl rfl rfl ?_
        refine AW.aload_n 44 dX10_clause_43 rfl rfl ?_
        refine AW.getR 47 dX10_clause_44 fX10_47 rfl (zI rfl rfl) rfl rfl ?_
        refine AW.sipush 50 (nI 128) dX10_clause_47 (by decide) rfl ?_
        refine AW.iload_n 51 dX10_clause_50 rfl rfl ?_
        refine AW.imulN 52 dX10_clause_51 rfl ?_
        refine AW.iload 54 dX10_clause_52 rfl rfl ?_
        refine AW.iaddN 55 dX10_clause_54 rfl ?_
        refine AW.aload_n 56 dX10_clause_55 rfl rfl ?_
        refine AW.iload 58 dX10_clause_56 rfl rfl ?_
        refine AW.topi (nI (32 * 0 + 0)) rfl ?_
        refine AW.iconst 59 (nI 0) dX10_clause_58 (by decide) rfl ?_
        refine AW.iconst 60 (nI 0) dX10_clause_59 (by decide) rfl ?_
        refine AW.cVi3 63 dX10_clause_60 kX10_170 (zI rfl rfl) (Nat.le_of_ble_eq_true rfl) rfl (C_X10_test (M := z_st M2 99 2 (nI p)) (s := (false, p)) (du := false) (st := 0) (x := 0) (a := 0) (by omega) (by omega) (by omega) (hT.ofL F3) r3 rfl hp (fun M3 f3 q3 b3 => ?_) (fun M3 f3 q3 b3 => by rw [← hc2, hR] at b3; exact Bool.noConfusion b3))
        refine AW.bast 64 dX10_clause_63 (zA rfl rfl) (show _ = nI (128 * r + 0) from rfl) (by omega) (by decide) (by decide) rfl ?_
        rw [← hc2] at q3
        have q4 : z_st M3 112 (128 * r + 0) (nI 0) 99 3 = nI 1 := by rw [z_st_ne (by decide), q3.1, hR]; rfl
        have q5 : z_st M3 112 (128 * r + 0) (nI 0) 99 2 = nI (pp_c2 tp n s).1.2 := by rw [z_st_ne (by decide)]; exact q3.2
        refine AW.aload_n 65 dX10_clause_64 rfl rfl ?_
        refine AW.getI 68 dX10_clause_65 fX10_144 rfl (zI rfl rfl) rfl ?_
        refine AW.topi (nI (pp_c2 tp n s).1.2) q5 ?_
        refine AW.istn3 69 dX10_clause_68 (by decide) rfl rfl ?_
        refine AW.iinc4 72 _ dX10_clause_69 (z_inc1 _) (by decide) rfl rfl ?_
        refine AW.goto 23 dX10_clause_72 (by decide) ?_
        have fin := E (z_st (z_st M3 112 (128 * r + 0) (nI 0)) 99 2 (nI (pp_c2 tp n s).1.2)) (nI p) (nI (pp_c2 tp n s).1.2) (nI (0 + 1)) ((F3.tr f3.L).tr ⟨fun c c1 _ _ _ _ _ _ c8 => by rw [z_st_ne c1, z_st_ne c8], fun j j1 _ => by rw [z_st_o j1, z_st_ne (by decide)]⟩) (by rw [z_st_ne (by decide), z_st_ne (by decide), f3.1 109 (by decide) (by decide) (by decide) (by decide), z_st_ne (by decide)]; exact k1) (by rw [z_st_ne (by decide), z_st_ne (by decide), f3.1 110 (by decide) (by decide) (by decide) (by decide), z_st_ne (by decide)]; exact k2) (by rw [z_st_ne (by decide), z_st_ne (by decide), f3.1 111 (by decide) (by decide) (by decide) (by decide), z_st_ne (by decide)]; exact k3) (fun j hj => by rw [z_st_ne (by decide), z_st_o (by omega), f3.1 112 (by decide) (by decide) (by decide) (by decide), z_st_ne (by decide), k4]) (fun z => by rw [hR] at z; exact Bool.noConfusion z) ⟨by rw [z_st_o (by decide), hR]; exact q4, z_st_v _ _ _ _⟩
        exact W _ _ _ _ (0 + 1) (by decide) q4 q5 fin
  refine AMet.of (ini := false) rfl (fun h => by first | rfl | cases h) (Nat.le_of_ble_eq_true rfl) ?_
  show AW l g RX10 cX10_clause 5 none false _ _ _ 0 [some (.ref 99), some (.int (nI r)), none, none, none] [] _ _ _
  refine AW.aload_n 1 dX10_clause_0 rfl rfl ?_
  refine AW.getR 4 dX10_clause_1 fX10_38 rfl (zI rfl rfl) rfl rfl ?_
  refine AW.iload_n 5 dX10_clause_4 rfl rfl ?_
  refine AW.aload_n 6 dX10_clause_5 rfl rfl ?_
  refine AW.cVi0 9 dX10_clause_6 kX10_159 (zI rfl rfl) (Nat.le_of_ble_eq_true rfl) rfl (C_X10_digit hT hs hn (fun M1 f1 r1 => ?_))
  refine AW.iast 10 dX10_clause_9 (zA rfl rfl) rfl (by omega) (by decide) rfl ?_
  refine AW.aload_n 11 dX10_clause_10 rfl rfl ?_
  refine AW.getI 14 dX10_clause_11 fX10_144 rfl (zI rfl rfl) rfl ?_
  refine AW.topi (nI (pp_dig tp n s).2.2) (by rw [z_st_ne (by decide)]; exact r1.2) ?_
  refine AW.istn2 15 dX10_clause_14 (by decide) rfl rfl ?_
  refine AW.aload_n 16 dX10_clause_15 rfl rfl ?_
  refine AW.getI 19 dX10_clause_16 fX10_144 rfl (zI rfl rfl) rfl ?_
  refine AW.topi (nI (pp_dig tp n s).2.2) (by rw [z_st_ne (by decide)]; exact r1.2) ?_
  refine AW.istn3 20 dX10_clause_19 (by decide) rfl rfl ?_
  refine AW.iconst 21 (nI 0) dX10_clause_20 (by decide) rfl ?_
  refine AW.ist4 23 dX10_clause_21 (by decide) rfl rfl ?_
  exact L23 _ ⟨fun c c1 c2 c3 c4 c5 c6 c7 c8 => by rw [z_st_ne c5]; exact f1.1 c c1, fun j j1 j2 => by rw [z_st_ne (by decide)]; exact f1.2 j j1 j2⟩ (by rw [z_st_at, f1.1 109 (by decide)]) (by rw [z_st_ne (by decide)]; exact f1.1 110 (by decide)) (by rw [z_st_ne (by decide)]; exact f1.1 111 (by decide)) (by rw [z_st_ne (by decide)]; exact f1.1 112 (by decide)) ⟨by rw [z_st_ne (by decide)]; exact r1.1, by rw [z_st_ne (by decide)]; exact r1.2⟩
end MCLAUSE
