section TESTS
variable {l : Launch} {g : zG} {d m0 m1 md : Nat} {M : zM} {n : Nat} {tp : Nat → Nat} {du : Bool}
theorem L_X4_caseI {o : Nat} (ho : o ≤ 5) {w : Int32} {Q : zS → zM → Prop} (hQ : ∀ M', (∀ c, c ≠ 12 + o → M' c = M c) → (∀ j, j < 16 → M' (12 + o) j = M (12 + o) j &&& M (18) j) → AW l g RX4 cX4_readCase 5 none false d 0 0 55 [some (.ref 3), some (.int (nI o)), some (.ref (12 + o)), some (.int w), some (.int (nI 16))] [] (ZS m0 m1 md) M' (z_Qv Q)) :
    ∀ (q i : Nat), i + q = 16 → ∀ M', (∀ c, c ≠ 12 + o → M' c = M c) → (∀ j, j < i → M' (12 + o) j = M (12 + o) j &&& M (18) j) → (∀ j, i ≤ j → M' (12 + o) j = M (12 + o) j) → AW l g RX4 cX4_readCase 5 none false d 0 0 28 [some (.ref 3), some (.int (nI o)), some (.ref (12 + o)), some (.int w), some (.int (nI i))] [] (ZS m0 m1 md) M' (z_Qv Q) := by
  intro q
  induction q with
  | zero =>
    intro i hi M' f h h2
    have hi : i = 16 := by omega
    subst hi
    refine AW.iload 30 dX4_readCase_28 rfl rfl ?_
    refine AW.aload_n 31 dX4_readCase_30 rfl rfl ?_
    refine AW.alen 32 dX4_readCase_31 (zAl_a (by omega)) (by decide) (by decide) rfl ?_
    refine AW.icmpN_ge 35 55 dX4_readCase_32 (by decide) rfl (by omega) (by omega) (fun b32 => ?_) (fun b32 => absurd b32 (by omega))
    exact hQ M' f h
  | succ q ih =>
    intro i hi M' f h h2
    refine AW.iload 30 dX4_readCase_28 rfl rfl ?_
    refine AW.aload_n 31 dX4_readCase_30 rfl rfl ?_
    refine AW.alen 32 dX4_readCase_31 (zAl_a (by omega)) (by decide) (by decide) rfl ?_
    refine AW.icmpN_ge 35 55 dX4_readCase_32 (by decide) rfl (by omega) (by omega) (fun b32 => absurd b32 (by omega)) (fun b32 => ?_)
    refine AW.aload_n 36 dX4_readCase_35 rfl rfl ?_
    refine AW.iload 38 dX4_readCase_36 rfl rfl ?_
    refine AW.dup2 39 dX4_readCase_38 rfl rfl rfl ?_
    refine AW.iald 40 dX4_readCase_39 (zAl_a (by omega)) rfl (by omega) (by decide) rfl ?_
    refine AW.aload_n 41 dX4_readCase_40 rfl rfl ?_
    refine AW.getR 44 dX4_readCase_41 fX4_19 rfl (zI rfl rfl) rfl rfl ?_
    refine AW.iload 46 dX4_readCase_44 rfl rfl ?_
    refine AW.iald 47 dX4_readCase_46 (zA rfl rfl) rfl (by omega) (by decide) rfl ?_
    refine AW.iand 48 dX4_readCase_47 rfl ?_
    refine AW.iast 49 dX4_readCase_48 (zAl_a (by omega)) rfl (by omega) (by decide) rfl ?_
    refine AW.iinc4 52 _ dX4_readCase_49 (z_inc1 _) (by decide) rfl rfl ?_
    refine AW.goto 28 dX4_readCase_52 (by decide) ?_
    refine ih (i + 1) (by omega) _ (fun c hc => by rw [z_st_ne hc]; exact f c hc) (fun j hj => ?_) (fun j hj => ?_)
    · rw [z_st_at]
      by_cases e : j = i
      · subst e; rw [z_upd_at, h2 j (Nat.le_refl _), f (18) (by omega)]
      · rw [z_upd_ne e]; exact h j (by omega)
    · rw [z_st_o (by omega)]; exact h2 j (by omega)
theorem L_X4_caseO {D o : Nat} (ho : o ≤ 5) {cl : pS → pS × pB} (hg : pp_good n cl) (hC : f_KC l g m0 m1 md n tp du (D + 3) o cl) (hT : f_tp M n tp) (hdu : M 3 4 = z_bI du) {R : pS × pB} {Q : zS → zM → Prop}
    (hQ : ∀ M', f_frK o M M' → f_rd M' R.1 → (R.1.1 = false → pR (M' (12 + o)) R.2) → Q (ZS m0 m1 md) M') :
    ∀ (f c : Nat) (v4 : Option Value), c + f = 120 → ∀ (s : pS) (A : pB) (M' : zM), s.2 ≤ n → f_frK o M M' → f_rd M' s → (s.1 = false → pR (M' (12 + o)) A) → pp_case tp n cl f s A = R → AW l g RX4 cX4_readCase 5 none false (D + 4) 0 0 14 [some (.ref 3), some (.int (nI o)), some (.ref (12 + o)), some (.int (nI c)), v4] [] (ZS m0 m1 md) M' (z_Qv Q) := by
  intro f
  induction f with
  | zero =>
    intro c v4 hc s A M' hs F R1 h e
    have hc : c = 120 := by omega
    subst hc
    have e : (s, A) = R := e
    subst e
    refine AW.iload_n 15 dX4_readCase_14 rfl rfl ?_
    refine AW.bipush 17 (nI 120) dX4_readCase_15 (by decide) rfl ?_
    refine AW.icmp_ge 20 71 dX4_readCase_17 (by decide) rfl (fun _ => ?_) (fun h => absurd h (by decide))
    refine AW.vret dX4_readCase_71 rfl rfl ⟨rfl, ?_⟩
    exact hQ M' F R1 h
  | succ f ih =>
    intro c v4 hc s A M' hs F R1 h e
    have t1 : f_tp M' n tp := hT.fr (F.1 1 (by decide) (by decide) (by omega) (by omega)) (F.1 2 (by decide) (by decide) (by omega) (by omega))
    have e : (if (pp_pass tp n 38 (cl s).1).1 = true then pp_case tp n cl f (pp_pass tp n 38 (cl s).1).2 (fun i x => A i x && (cl s).2 i x) else ((pp_pass tp n 38 (cl s).1).2, fun i x => A i x && (cl s).2 i x)) = R := e
    have g1 := hg.2 s hs
    have g2 := pp_pass_le (tp := tp) (c := 38) (by decide) g1.1
    have fin := fun M1 (F1 : f_frC o M' M1) (r1 : f_rd M1 (cl s).1) (h1 : (cl s).1.1 = false → pR (M1 (18)) (cl s).2) (w : Int32) (K : ∀ M2, f_frK o M M2 → f_rd M2 (cl s).1 → ((cl s).1.1 = false → pR (M2 (12 + o)) (fun i x => A i x && (cl s).2 i x)) → AW l g RX4 cX4_readCase 5 none false (D + 4) 0 0 55 [some (.ref 3), some (.int (nI o)), some (.ref (12 + o)), some (.int w), some (.int (nI 16))] [] (ZS m0 m1 md) M2 (z_Qv Q)) => L_X4_caseI (l := l) (g := g) (d := D + 4) (m0 := m0) (m1 := m1) (md := md) (M := M1) ho (w := w) (Q := Q) (fun M2 f2 q2 => K M2 ⟨fun c c1 c2 c3 c4 => by rw [f2 c (by omega), F1.1 c c1 c2 (by omega) (by omega)]; exact F.1 c c1 c2 c3 c4, fun j j1 j2 => by rw [f2 3 (by omega), F1.2 j j1 j2]; exact F.2 j j1 j2⟩ ⟨by rw [f2 3 (by omega)]; exact r1.1, by rw [f2 3 (by omega)]; exact r1.2⟩ (fun z i hi x hx => by
        rw [q2 i hi, pw_b_and, h1 z i hi x hx, F1.1 (12 + o) (by omega) (by omega) (by omega) (by omega), h (hg.nf z) i hi x hx])) 16 0 (by omega) M1 (fun _ _ => rfl) (fun j hj => absurd hj (by omega)) (fun _ _ => rfl)
    refine AW.iload_n 15 dX4_readCase_14 rfl rfl ?_
    refine AW.bipush 17 (nI 120) dX4_readCase_15 (by decide) rfl ?_
    refine AW.icmpN_ge 20 71 dX4_readCase_17 (by decide) rfl (by omega) (by omega) (fun b17 => absurd b17 (by omega)) (fun b17 => ?_)
    refine AW.aload_n 21 dX4_readCase_20 rfl rfl ?_
    refine AW.iload_n 22 dX4_readCase_21 rfl rfl ?_
    refine AW.cVv1 25 dX4_readCase_22 kX4_97 (zI rfl rfl) (Nat.le_of_ble_eq_true rfl) rfl (hC M' s _ t1 R1 hs (by rw [F.2 4 (by decide) (by decide)]; exact hdu) (fun M1 F1 r1 h1 => ?_))
    refine AW.iconst 26 (nI 0) dX4_readCase_25 (by decide) rfl ?_
    refine AW.ist4 28 dX4_readCase_26 (by decide) rfl rfl ?_
    refine fin M1 F1 r1 h1 _ (fun M2 F2 r2 h2 => ?_)
    have t2 : f_tp M2 n tp := hT.fr (F2.1 1 (by decide) (by decide) (by omega) (by omega)) (F2.1 2 (by decide) (by decide) (by omega) (by omega))
    refine AW.aload_n 56 dX4_readCase_55 rfl rfl ?_
    refine AW.bipush 58 (nI 38) dX4_readCase_56 (by decide) rfl ?_
    refine AW.cVi1 61 dX4_readCase_58 kX4_51 (zI rfl rfl) (Nat.le_of_ble_eq_true rfl) rfl (C_X4_takes t2 r2 g1.1 (by decide) (by decide) (fun M3 => ?_) (fun M3 => ?_))
    · skip
      intro a r p
      rw [if_pos p] at e
      refine AW.if_ne 64 65 dX4_readCase_61 (by decide) rfl (fun _ => ?_) (fun h => absurd h (by decide))
      refine AW.iinc3 68 _ dX4_readCase_65 (z_inc1 _) (by decide) rfl rfl ?_
      refine AW.goto 14 dX4_readCase_68 (by decide) ?_
      exact ih (c + 1) _ (by omega) _ _ M3 g2.1 ⟨fun c c1 c2 c3 c4 => by rw [a.1 c c1]; exact F2.1 c c1 c2 c3 c4, fun j j1 j2 => by rw [a.2 j j1 j2]; exact F2.2 j j1 j2⟩ r (fun z => by rw [a.1 _ (by omega)]; exact h2 (g2.2.2.1.symm.trans z)) e
    · skip
      intro a r p
      rw [if_neg (by rw [p]; exact Bool.false_ne_true)] at e
      rw [← pp_pass_no p] at r
      have FF : f_frK o M M3 := ⟨fun c c1 c2 c3 c4 => by rw [a.1 c c1]; exact F2.1 c c1 c2 c3 c4, fun j j1 j2 => by rw [a.2 j j1 j2]; exact F2.2 j j1 j2⟩
      refine AW.if_ne 64 65 dX4_readCase_61 (by decide) rfl (fun h => absurd h (by decide)) (fun _ => ?_)
      refine AW.vret dX4_readCase_64 rfl rfl ⟨rfl, ?_⟩
      subst e
      exact hQ M3 FF r (fun z => by rw [a.1 _ (by omega)]; exact h2 (g2.2.2.1.symm.trans z))
theorem C_X4_readCase {D o : Nat} (ho : o ≤ 5) {cl : pS → pS × pB} (hg : pp_good n cl) (hC : f_KC l g m0 m1 md n tp du (D + 3) o cl) : f_KK l g m0 m1 md n tp du (D + 4) o (fun s => pp_case tp n cl 120 s (fun _ _ => true)) := by
  intro M s Q hT hs hn hdu hQ
  have L := L_X4_caseO (l := l) (g := g) (m0 := m0) (m1 := m1) (md := md) (M := M) (D := D) (du := du) ho hg hC hT hdu (Q := Q) hQ 120 0 none (by omega) s (fun _ _ => true) (z_row M (12 + o) (z_fill (M (12 + o)) 16 (-1))) hn ⟨fun c c1 c2 c3 c4 => z_row_ne _ (by omega), fun j _ _ => by rw [z_row_ne _ (by omega)]⟩ ⟨by rw [z_row_ne _ (by omega)]; exact hs.1, by rw [z_row_ne _ (by omega)]; exact hs.2⟩ (fun _ i hi x hx => by rw [z_row_at]; unfold z_fill; rw [if_pos hi]; exact pw_b_m1 hx) rfl
  refine AMet.of (ini := false) rfl (fun h => by first | rfl | cases h) (Nat.le_of_ble_eq_true rfl) ?_
  show AW l g RX4 cX4_readCase 5 none false _ _ _ 0 [some (.ref 3), some (.int (nI o)), none, none, none] [] _ _ _
  refine AW.aload_n 1 dX4_readCase_0 rfl rfl ?_
  refine AW.getR 4 dX4_readCase_1 fX4_16 rfl (zI rfl rfl) rfl rfl ?_
  refine AW.iload_n 5 dX4_readCase_4 rfl rfl ?_
  refine AW.aald 6 dX4_readCase_5 (zA rfl rfl) (by decide) rfl (by omega) (by decide) (zAl_r (by omega)) rfl ?_
  refine AW.astn2 7 dX4_readCase_6 (by decide) rfl rfl ?_
  refine AW.aload_n 8 dX4_readCase_7 rfl rfl ?_
  refine AW.iconst 9 (-1) dX4_readCase_8 (by decide) rfl ?_
  refine AW.cSv2 12 dX4_readCase_9 kX4_88 (Nat.le_of_ble_eq_true rfl) rfl (C_fill (zAl_a (by omega)) (by decide) ?_)
  refine AW.iconst 13 (nI 0) dX4_readCase_12 (by decide) rfl ?_
  refine AW.istn3 14 dX4_readCase_13 (by decide) rfl rfl ?_
  exact L
theorem L_X4_testI {o : Nat} (ho : o ≤ 5) {w : Int32} {Q : zS → zM → Prop} (hQ : ∀ M', (∀ c, c ≠ 5 + o → M' c = M c) → (∀ j, j < 16 → M' (5 + o) j = M (5 + o) j ||| M (12 + o) j) → AW l g RX4 cX4_readTest 5 none false d 0 0 57 [some (.ref 3), some (.int (nI o)), some (.ref (5 + o)), some (.int w), some (.int (nI 16))] [] (ZS m0 m1 md) M' (z_Qv Q)) :
    ∀ (q i : Nat), i + q = 16 → ∀ M', (∀ c, c ≠ 5 + o → M' c = M c) → (∀ j, j < i → M' (5 + o) j = M (5 + o) j ||| M (12 + o) j) → (∀ j, i ≤ j → M' (5 + o) j = M (5 + o) j) → AW l g RX4 cX4_readTest 5 none false d 0 0 28 [some (.ref 3), some (.int (nI o)), some (.ref (5 + o)), some (.int w), some (.int (nI i))] [] (ZS m0 m1 md) M' (z_Qv Q) := by
  intro q
  induction q with
  | zero =>
    intro i hi M' f h h2
    have hi : i = 16 := by omega
    subst hi
    refine AW.iload 30 dX4_readTest_28 rfl rfl ?_
    refine AW.aload_n 31 dX4_readTest_30 rfl rfl ?_
    refine AW.alen 32 dX4_readTest_31 (zAc_a (by omega)) (by decide) (by decide) rfl ?_
    refine AW.icmpN_ge 35 57 dX4_readTest_32 (by decide) rfl (by omega) (by omega) (fun b32 => ?_) (fun b32 => absurd b32 (by omega))
    exact hQ M' f h
  | succ q ih =>
    intro i hi M' f h h2
    refine AW.iload 30 dX4_readTest_28 rfl rfl ?_
    refine AW.aload_n 31 dX4_readTest_30 rfl rfl ?_
    refine AW.alen 32 dX4_readTest_31 (zAc_a (by omega)) (by decide) (by decide) rfl ?_
    refine AW.icmpN_ge 35 57 dX4_readTest_32 (by decide) rfl (by omega) (by omega) (fun b32 => absurd b32 (by omega)) (fun b32 => ?_)
    refine AW.aload_n 36 dX4_readTest_35 rfl rfl ?_
    refine AW.iload 38 dX4_readTest_36 rfl rfl ?_
    refine AW.dup2 39 dX4_readTest_38 rfl rfl rfl ?_
    refine AW.iald 40 dX4_readTest_39 (zAc_a (by omega)) rfl (by omega) (by decide) rfl ?_
    refine AW.aload_n 41 dX4_readTest_40 rfl rfl ?_
    refine AW.getR 44 dX4_readTest_41 fX4_16 rfl (zI rfl rfl) rfl rfl ?_
    refine AW.iload_n 45 dX4_readTest_44 rfl rfl ?_
    refine AW.aald 46 dX4_readTest_45 (zA rfl rfl) (by decide) rfl (by omega) (by decide) (zAl_r (by omega)) rfl ?_
    refine AW.iload 48 dX4_readTest_46 rfl rfl ?_
    refine AW.iald 49 dX4_readTest_48 (zAl_a (by omega)) rfl (by omega) (by decide) rfl ?_
    refine AW.ior 50 dX4_readTest_49 rfl ?_
    refine AW.iast 51 dX4_readTest_50 (zAc_a (by omega)) rfl (by omega) (by decide) rfl ?_
    refine AW.iinc4 54 _ dX4_readTest_51 (z_inc1 _) (by decide) rfl rfl ?_
    refine AW.goto 28 dX4_readTest_54 (by decide) ?_
    refine ih (i + 1) (by omega) _ (fun c hc => by rw [z_st_ne hc]; exact f c hc) (fun j hj => ?_) (fun j hj => ?_)
    · rw [z_st_at]
      by_cases e : j = i
      · subst e; rw [z_upd_at, h2 j (Nat.le_refl _), f (12 + o) (by omega)]
      · rw [z_upd_ne e]; exact h j (by omega)
    · rw [z_st_o (by omega)]; exact h2 j (by omega)
theorem L_X4_testO {D o : Nat} (ho : o ≤ 5) {cl : pS → pS × pB} (hg : pp_good n (fun s => pp_case tp n cl 120 s (fun _ _ => true))) (hC : f_KK l g m0 m1 md n tp du (D + 4) o (fun s => pp_case tp n cl 120 s (fun _ _ => true))) (hT : f_tp M n tp) (hdu : M 3 4 = z_bI du) {R : pS × pB} {Q : zS → zM → Prop}
    (hQ : ∀ M', f_frT o M M' → f_rd M' R.1 → (R.1.1 = false → pR (M' (5 + o)) R.2) → Q (ZS m0 m1 md) M') :
    ∀ (f c : Nat) (v4 : Option Value), c + f = 120 → ∀ (s : pS) (A : pB) (M' : zM), s.2 ≤ n → f_frT o M M' → f_rd M' s → (s.1 = false → pR (M' (5 + o)) A) → pp_test tp n cl f s A = R → AW l g RX4 cX4_readTest 5 none false (D + 5) 0 0 14 [some (.ref 3), some (.int (nI o)), some (.ref (5 + o)), some (.int (nI c)), v4] [] (ZS m0 m1 md) M' (z_Qv Q) := by
  intro f
  induction f with
  | zero =>
    intro c v4 hc s A M' hs F R1 h e
    have hc : c = 120 := by omega
    subst hc
    have e : (s, A) = R := e
    subst e
    refine AW.iload_n 15 dX4_readTest_14 rfl rfl ?_
    refine AW.bipush 17 (nI 120) dX4_readTest_15 (by decide) rfl ?_
    refine AW.icmp_ge 20 73 dX4_readTest_17 (by decide) rfl (fun _ => ?_) (fun h => absurd h (by decide))
    refine AW.vret dX4_readTest_73 rfl rfl ⟨rfl, ?_⟩
    exact hQ M' F R1 h
  | succ f ih =>
    intro c v4 hc s A M' hs F R1 h e
    have t1 : f_tp M' n tp := hT.fr (F.1 1 (by decide) (by decide) (by omega) (by omega)) (F.1 2 (by decide) (by decide) (by omega) (by omega))
    have e : (if (pp_pass tp n 124 ((fun s => pp_case tp n cl 120 s (fun _ _ => true)) s).1).1 = true then pp_test tp n cl f (pp_pass tp n 124 ((fun s => pp_case tp n cl 120 s (fun _ _ => true)) s).1).2 (fun i x => A i x || ((fun s => pp_case tp n cl 120 s (fun _ _ => true)) s).2 i x) else ((pp_pass tp n 124 ((fun s => pp_case tp n cl 120 s (fun _ _ => true)) s).1).2, fun i x => A i x || ((fun s => pp_case tp n cl 120 s (fun _ _ => true)) s).2 i x)) = R := e
    have g1 := hg.2 s hs
    have g2 := pp_pass_le (tp := tp) (c := 124) (by decide) g1.1
    have fin := fun M1 (F1 : f_frK o M' M1) (r1 : f_rd M1 ((fun s => pp_case tp n cl 120 s (fun _ _ => true)) s).1) (h1 : ((fun s => pp_case tp n cl 120 s (fun _ _ => true)) s).1.1 = false → pR (M1 (12 + o)) ((fun s => pp_case tp n cl 120 s (fun _ _ => true)) s).2) (w : Int32) (K : ∀ M2, f_frT o M M2 → f_rd M2 ((fun s => pp_case tp n cl 120 s (fun _ _ => true)) s).1 → (((fun s => pp_case tp n cl 120 s (fun _ _ => true)) s).1.1 = false → pR (M2 (5 + o)) (fun i x => A i x || ((fun s => pp_case tp n cl 120 s (fun _ _ => true)) s).2 i x)) → AW l g RX4 cX4_readTest 5 none false (D + 5) 0 0 57 [some (.ref 3), some (.int (nI o)), some (.ref (5 + o)), some (.int w), some (.int (nI 16))] [] (ZS m0 m1 md) M2 (z_Qv Q)) => L_X4_testI (l := l) (g := g) (d := D + 5) (m0 := m0) (m1 := m1) (md := md) (M := M1) ho (w := w) (Q := Q) (fun M2 f2 q2 => K M2 ⟨fun c c1 c2 c3 c4 => by rw [f2 c (by omega), F1.1 c c1 c2 (by omega) (by omega)]; exact F.1 c c1 c2 c3 c4, fun j j1 j2 => by rw [f2 3 (by omega), F1.2 j j1 j2]; exact F.2 j j1 j2⟩ ⟨by rw [f2 3 (by omega)]; exact r1.1, by rw [f2 3 (by omega)]; exact r1.2⟩ (fun z i hi x hx => by
        rw [q2 i hi, pw_b_or, h1 z i hi x hx, F1.1 (5 + o) (by omega) (by omega) (by omega) (by omega), h (hg.nf z) i hi x hx])) 16 0 (by omega) M1 (fun _ _ => rfl) (fun j hj => absurd hj (by omega)) (fun _ _ => rfl)
    refine AW.iload_n 15 dX4_readTest_14 rfl rfl ?_
    refine AW.bipush 17 (nI 120) dX4_readTest_15 (by decide) rfl ?_
    refine AW.icmpN_ge 20 73 dX4_readTest_17 (by decide) rfl (by omega) (by omega) (fun b17 => absurd b17 (by omega)) (fun b17 => ?_)
    refine AW.aload_n 21 dX4_readTest_20 rfl rfl ?_
    refine AW.iload_n 22 dX4_readTest_21 rfl rfl ?_
    refine AW.cVv1 25 dX4_readTest_22 kX4_94 (zI rfl rfl) (Nat.le_of_ble_eq_true rfl) rfl (hC M' s _ t1 R1 hs (by rw [F.2 4 (by decide) (by decide)]; exact hdu) (fun M1 F1 r1 h1 => ?_))
    refine AW.iconst 26 (nI 0) dX4_readTest_25 (by decide) rfl ?_
    refine AW.ist4 28 dX4_readTest_26 (by decide) rfl rfl ?_
    refine fin M1 F1 r1 h1 _ (fun M2 F2 r2 h2 => ?_)
    have t2 : f_tp M2 n tp := hT.fr (F2.1 1 (by decide) (by decide) (by omega) (by omega)) (F2.1 2 (by decide) (by decide) (by omega) (by omega))
    refine AW.aload_n 58 dX4_readTest_57 rfl rfl ?_
    refine AW.bipush 60 (nI 124) dX4_readTest_58 (by decide) rfl ?_
    refine AW.cVi1 63 dX4_readTest_60 kX4_51 (zI rfl rfl) (Nat.le_of_ble_eq_true rfl) rfl (C_X4_takes t2 r2 g1.1 (by decide) (by decide) (fun M3 => ?_) (fun M3 => ?_))
    · skip
      intro a r p
      rw [if_pos p] at e
      refine AW.if_ne 66 67 dX4_readTest_63 (by decide) rfl (fun _ => ?_) (fun h => absurd h (by decide))
      refine AW.iinc3 70 _ dX4_readTest_67 (z_inc1 _) (by decide) rfl rfl ?_
      refine AW.goto 14 dX4_readTest_70 (by decide) ?_
      exact ih (c + 1) _ (by omega) _ _ M3 g2.1 ⟨fun c c1 c2 c3 c4 => by rw [a.1 c c1]; exact F2.1 c c1 c2 c3 c4, fun j j1 j2 => by rw [a.2 j j1 j2]; exact F2.2 j j1 j2⟩ r (fun z => by rw [a.1 _ (by omega)]; exact h2 (g2.2.2.1.symm.trans z)) e
    · skip
      intro a r p
      rw [if_neg (by rw [p]; exact Bool.false_ne_true)] at e
      rw [← pp_pass_no p] at r
      have FF : f_frT o M M3 := ⟨fun c c1 c2 c3 c4 => by rw [a.1 c c1]; exact F2.1 c c1 c2 c3 c4, fun j j1 j2 => by rw [a.2 j j1 j2]; exact F2.2 j j1 j2⟩
      refine AW.if_ne 66 67 dX4_readTest_63 (by decide) rfl (fun h => absurd h (by decide)) (fun _ => ?_)
      refine AW.vret dX4_readTest_66 rfl rfl ⟨rfl, ?_⟩
      subst e
      exact hQ M3 FF r (fun z => by rw [a.1 _ (by omega)]; exact h2 (g2.2.2.1.symm.trans z))
theorem C_X4_readTest {D o : Nat} (ho : o ≤ 5) {cl : pS → pS × pB} (hg : pp_good n (fun s => pp_case tp n cl 120 s (fun _ _ => true))) (hC : f_KK l g m0 m1 md n tp du (D + 4) o (fun s => pp_case tp n cl 120 s (fun _ _ => true))) : f_KT l g m0 m1 md n tp du (D + 5) o (fun s => pp_test tp n cl 120 s (fun _ _ => false)) := by
  intro M s Q hT hs hn hdu hQ
  have L := L_X4_testO (l := l) (g := g) (m0 := m0) (m1 := m1) (md := md) (M := M) (D := D) (du := du) ho hg hC hT hdu (Q := Q) hQ 120 0 none (by omega) s (fun _ _ => false) (z_row M (5 + o) (z_fill (M (5 + o)) 16 (nI 0))) hn ⟨fun c c1 c2 c3 c4 => z_row_ne _ (by omega), fun j _ _ => by rw [z_row_ne _ (by omega)]⟩ ⟨by rw [z_row_ne _ (by omega)]; exact hs.1, by rw [z_row_ne _ (by omega)]; exact hs.2⟩ (fun _ i hi x hx => by rw [z_row_at]; unfold z_fill; rw [if_pos hi]; exact pw_b_0 hx) rfl
  refine AMet.of (ini := false) rfl (fun h => by first | rfl | cases h) (Nat.le_of_ble_eq_true rfl) ?_
  show AW l g RX4 cX4_readTest 5 none false _ _ _ 0 [some (.ref 3), some (.int (nI o)), none, none, none] [] _ _ _
  refine AW.aload_n 1 dX4_readTest_0 rfl rfl ?_
  refine AW.getR 4 dX4_readTest_1 fX4_11 rfl (zI rfl rfl) rfl rfl ?_
  refine AW.iload_n 5 dX4_readTest_4 rfl rfl ?_
  refine AW.aald 6 dX4_readTest_5 (zA rfl rfl) (by decide) rfl (by omega) (by decide) (zAc_r (by omega)) rfl ?_
  refine AW.astn2 7 dX4_readTest_6 (by decide) rfl rfl ?_
  refine AW.aload_n 8 dX4_readTest_7 rfl rfl ?_
  refine AW.iconst 9 (nI 0) dX4_readTest_8 (by decide) rfl ?_
  refine AW.cSv2 12 dX4_readTest_9 kX4_88 (Nat.le_of_ble_eq_true rfl) rfl (C_fill (zAc_a (by omega)) (by decide) ?_)
  refine AW.iconst 13 (nI 0) dX4_readTest_12 (by decide) rfl ?_
  refine AW.istn3 14 dX4_readTest_13 (by decide) rfl rfl ?_
  exact L
def p_dep (d : Nat) : Nat → Nat
  | 0 => d
  | k + 1 => p_dep d k + 3
theorem pp_case120 {cl : pS → pS × pB} (hc : pp_good n cl) : pp_good n (fun s => pp_case tp n cl 120 s (fun _ _ => true)) := by
  have := pp_case_good (tp := tp) hc 120 (fun _ _ => true)
  exact ⟨this.1, fun s hn => ⟨(this.2 s hn).1, (this.2 s hn).2.1, (this.2 s hn).2.2 (by decide)⟩⟩
theorem C_X4_tests : ∀ k o, o + k = 5 → f_KT l g m0 m1 md n tp du (p_dep d k + 5) o (pp_T tp n du k)
  | 0, o, h => by
    have hc : f_KC l g m0 m1 md n tp du (d + 3) o (pp_claim tp n du 0) := C_X4_readClaim (D := d) (sub := none) (by omega) (fun _ => rfl) (fun h => absurd h (by omega))
    exact C_X4_readTest (D := d) (by omega) (pp_case120 (pp_claim_good du 0)) (C_X4_readCase (D := d) (by omega) (pp_claim_good du 0) hc)
  | k + 1, o, h => by
    have hc : f_KC l g m0 m1 md n tp du (p_dep d k + 3 + 3) o (pp_claim tp n du (k + 1)) := C_X4_readClaim (D := p_dep d k + 3) (sub := some (pp_T tp n du k)) (by omega) (fun h => absurd (show o < 5 by omega) h) (fun _ => ⟨_, rfl, pp_T_good du k, C_X4_tests k (o + 1) (by omega)⟩)
    exact C_X4_readTest (D := p_dep d k + 3) (by omega) (pp_case120 (pp_claim_good du (k + 1))) (C_X4_readCase (D := p_dep d k + 3) (by omega) (pp_claim_good du (k + 1)) hc)
end TESTS
