def f_tp (M : zM) (n : Nat) (tp : Nat → Nat) : Prop := M 1 1 = nI n ∧ pp_tok tp n ∧ ∀ i, i < n → M 2 i = nI (tp i)
def f_rd (M : zM) (s : pS) : Prop := M 3 5 = z_bI s.1 ∧ M 3 6 = nI s.2
def f_fr (M M' : zM) : Prop := (∀ c, c ≠ 3 → M' c = M c) ∧ ∀ j, j ≠ 5 → j ≠ 6 → M' 3 j = M 3 j
theorem f_fr.rf (M : zM) : f_fr M M := ⟨fun _ _ => rfl, fun _ _ _ => rfl⟩
theorem f_fr.tr {M M1 M2 : zM} (h : f_fr M M1) (h2 : f_fr M1 M2) : f_fr M M2 := ⟨fun c hc => (h2.1 c hc).trans (h.1 c hc), fun j a b => (h2.2 j a b).trans (h.2 j a b)⟩
theorem f_tp.fr {M M' : zM} {n : Nat} {tp : Nat → Nat} (hT : f_tp M n tp) (h1 : M' 1 = M 1) (h2 : M' 2 = M 2) : f_tp M' n tp := ⟨by rw [h1]; exact hT.1, hT.2.1, fun i hi => by rw [h2]; exact hT.2.2 i hi⟩
theorem z_upd_ne {f : Nat → Int32} {i j : Nat} {v : Int32} (h : j ≠ i) : upd f i v j = f j := by unfold upd; rw [if_neg h]
theorem z_upd_at (f : Nat → Int32) (i : Nat) (v : Int32) : upd f i v i = v := by unfold upd; rw [if_pos rfl]
theorem z_st_v (M : zM) (k i : Nat) (v : Int32) : z_st M k i v k i = v := by rw [z_st_at, z_upd_at]
theorem z_st_o {M : zM} {k i j : Nat} {v : Int32} (h : j ≠ i) : z_st M k i v k j = M k j := by rw [z_st_at, z_upd_ne h]
theorem f_fr.st6 {M M1 : zM} (h : f_fr M M1) (v : Int32) : f_fr M (z_st M1 3 6 v) := ⟨fun c hc => by rw [z_st_ne hc]; exact h.1 c hc, fun j a b => by rw [z_st_o b]; exact h.2 j a b⟩
theorem f_fr.st5 {M M1 : zM} (h : f_fr M M1) (v : Int32) : f_fr M (z_st M1 3 5 v) := ⟨fun c hc => by rw [z_st_ne hc]; exact h.1 c hc, fun j a b => by rw [z_st_o a]; exact h.2 j a b⟩
section READER
variable {l : Launch} {g : zG} {d m0 m1 md : Nat} {M : zM} {n : Nat} {tp : Nat → Nat} {s : pS}
theorem L_X4_nextSign (hT : f_tp M n tp) {P : Nat} {Q : Int32 → zS → zM → Prop} (hQ : ∀ M', (∀ c, c ≠ 3 → M' c = M c) → (∀ j, j ≠ 6 → M' 3 j = M 3 j) → M' 3 6 = nI P → Q (if P < n then nI (tp P) else -4) (ZS m0 m1 md) M') :
    ∀ (q p : Nat), p + q = n → pp_sk tp n p = P → ∀ M', (∀ c, c ≠ 3 → M' c = M c) → (∀ j, j ≠ 6 → M' 3 j = M 3 j) → M' 3 6 = nI p → AW l g RX4 cX4_nextSign 1 (some .int) false d 0 0 0 [some (.ref 3)] [] (ZS m0 m1 md) M' (z_Qi Q) := by
  have hn := hT.2.1.1
  intro q
  induction q with
  | zero =>
    intro p hp hP M' f1 f2 h
    have q0 : M' 1 1 = nI n := by rw [f1 1 (by decide)]; exact hT.1
    rw [pp_sk_n (by omega)] at hP
    subst hP
    have e := hQ M' f1 f2 h
    rw [if_neg (by omega)] at e
    refine AW.aload_n 1 dX4_nextSign_0 rfl rfl ?_
    refine AW.getI 4 dX4_nextSign_1 fX4_30 rfl (zI rfl rfl) rfl ?_
    refine AW.topi (nI p) h ?_
    refine AW.aload_n 5 dX4_nextSign_4 rfl rfl ?_
    refine AW.getR 8 dX4_nextSign_5 fX4_34 rfl (zI rfl rfl) rfl rfl ?_
    refine AW.getI 11 dX4_nextSign_8 fX4_115 rfl (zI rfl rfl) rfl ?_
    refine AW.topi (nI n) q0 ?_
    refine AW.icmpN_ge 14 44 dX4_nextSign_11 (by decide) rfl (by omega) (by omega) (fun b11 => ?_) (fun b11 => absurd b11 (by omega))
    refine AW.aload_n 45 dX4_nextSign_44 rfl rfl ?_
    refine AW.getI 48 dX4_nextSign_45 fX4_30 rfl (zI rfl rfl) rfl ?_
    refine AW.topi (nI p) h ?_
    refine AW.aload_n 49 dX4_nextSign_48 rfl rfl ?_
    refine AW.getR 52 dX4_nextSign_49 fX4_34 rfl (zI rfl rfl) rfl rfl ?_
    refine AW.getI 55 dX4_nextSign_52 fX4_115 rfl (zI rfl rfl) rfl ?_
    refine AW.topi (nI n) q0 ?_
    refine AW.icmpN_ge 58 73 dX4_nextSign_55 (by decide) rfl (by omega) (by omega) (fun b55 => ?_) (fun b55 => absurd b55 (by omega))
    refine AW.bipush 75 (-4) dX4_nextSign_73 (by decide) rfl ?_
    refine AW.iret dX4_nextSign_75 .int rfl rfl rfl ⟨_, rfl, ?_⟩
    exact e
  | succ q ih =>
    intro p hp hP M' f1 f2 h
    have q0 : M' 1 1 = nI n := by rw [f1 1 (by decide)]; exact hT.1
    have q1 : M' 2 p = nI (tp p) := by rw [f1 2 (by decide)]; exact hT.2.2 p (by omega)
    have q2 := (hT.2.1.2 p (by omega)).2
    have fin : ¬ tp p = 32 → Q (nI (tp p)) (ZS m0 m1 md) M' := fun z => by
      rw [pp_sk_no (by omega) z] at hP
      subst hP
      have e := hQ M' f1 f2 h
      rw [if_pos (by omega)] at e
      exact e
    refine AW.aload_n 1 dX4_nextSign_0 rfl rfl ?_
    refine AW.getI 4 dX4_nextSign_1 fX4_30 rfl (zI rfl rfl) rfl ?_
    refine AW.topi (nI p) h ?_
    refine AW.aload_n 5 dX4_nextSign_4 rfl rfl ?_
    refine AW.getR 8 dX4_nextSign_5 fX4_34 rfl (zI rfl rfl) rfl rfl ?_
    refine AW.getI 11 dX4_nextSign_8 fX4_115 rfl (zI rfl rfl) rfl ?_
    refine AW.topi (nI n) q0 ?_
    refine AW.icmpN_ge 14 44 dX4_nextSign_11 (by decide) rfl (by omega) (by omega) (fun b11 => absurd b11 (by omega)) (fun b11 => ?_)
    refine AW.aload_n 15 dX4_nextSign_14 rfl rfl ?_
    refine AW.getR 18 dX4_nextSign_15 fX4_34 rfl (zI rfl rfl) rfl rfl ?_
    refine AW.getR 21 dX4_nextSign_18 fX4_118 rfl (zI rfl rfl) rfl rfl ?_
    refine AW.aload_n 22 dX4_nextSign_21 rfl rfl ?_
    refine AW.getI 25 dX4_nextSign_22 fX4_30 rfl (zI rfl rfl) rfl ?_
    refine AW.topi (nI p) h ?_
    refine AW.iald 26 dX4_nextSign_25 (zA rfl rfl) rfl (by omega) (by decide) rfl ?_
    refine AW.topi (nI (tp p)) q1 ?_
    refine AW.bipush 28 (nI 32) dX4_nextSign_26 (by decide) rfl ?_
    refine AW.icmpN_ne 31 44 dX4_nextSign_28 (by decide) rfl (by omega) (by omega) (fun b28 => ?_) (fun b28 => ?_)
    · skip
      refine AW.aload_n 45 dX4_nextSign_44 rfl rfl ?_
      refine AW.getI 48 dX4_nextSign_45 fX4_30 rfl (zI rfl rfl) rfl ?_
      refine AW.topi (nI p) h ?_
      refine AW.aload_n 49 dX4_nextSign_48 rfl rfl ?_
      refine AW.getR 52 dX4_nextSign_49 fX4_34 rfl (zI rfl rfl) rfl rfl ?_
      refine AW.getI 55 dX4_nextSign_52 fX4_115 rfl (zI rfl rfl) rfl ?_
      refine AW.topi (nI n) q0 ?_
      refine AW.icmpN_ge 58 73 dX4_nextSign_55 (by decide) rfl (by omega) (by omega) (fun b55 => absurd b55 (by omega)) (fun b55 => ?_)
      refine AW.aload_n 59 dX4_nextSign_58 rfl rfl ?_
      refine AW.getR 62 dX4_nextSign_59 fX4_34 rfl (zI rfl rfl) rfl rfl ?_
      refine AW.getR 65 dX4_nextSign_62 fX4_118 rfl (zI rfl rfl) rfl rfl ?_
      refine AW.aload_n 66 dX4_nextSign_65 rfl rfl ?_
      refine AW.getI 69 dX4_nextSign_66 fX4_30 rfl (zI rfl rfl) rfl ?_
      refine AW.topi (nI p) h ?_
      refine AW.iald 70 dX4_nextSign_69 (zA rfl rfl) rfl (by omega) (by decide) rfl ?_
      refine AW.topi (nI (tp p)) q1 ?_
      refine AW.goto 75 dX4_nextSign_70 (by decide) ?_
      refine AW.iret dX4_nextSign_75 .int rfl rfl rfl ⟨_, rfl, ?_⟩
      exact fin b28
    · skip
      refine AW.aload_n 32 dX4_nextSign_31 rfl rfl ?_
      refine AW.dup 33 dX4_nextSign_32 rfl rfl ?_
      refine AW.getI 36 dX4_nextSign_33 fX4_30 rfl (zI rfl rfl) rfl ?_
      refine AW.topi (nI p) h ?_
      refine AW.iconst 37 (nI 1) dX4_nextSign_36 (by decide) rfl ?_
      refine AW.iaddN 38 dX4_nextSign_37 rfl ?_
      refine AW.putI 41 .int dX4_nextSign_38 pX4_30 rfl (zI rfl rfl) rfl rfl rfl ?_
      refine AW.goto 0 dX4_nextSign_41 (by decide) ?_
      exact ih (p + 1) (by omega) (by rw [← pp_sk_32 (by omega) b28]; exact hP) _ (fun c hc => by rw [z_st_ne hc]; exact f1 c hc) (fun j hj => by rw [z_st_o hj]; exact f2 j hj) (z_st_v _ _ _ _)
theorem C_X4_nextSign (hT : f_tp M n tp) {p : Nat} (hp : p ≤ n) (h : M 3 6 = nI p) {Q : Int32 → zS → zM → Prop} (hQ : ∀ M', (∀ c, c ≠ 3 → M' c = M c) → (∀ j, j ≠ 6 → M' 3 j = M 3 j) → M' 3 6 = nI (pp_sk tp n p) → Q (pp_cv tp n p) (ZS m0 m1 md) M') : AMet l g yX4_nextSign cX4_nextSign 1 (some .int) d 0 0 [.ref 3] (ZS m0 m1 md) M (z_Qi Q) := by
  refine AMet.of (ini := false) rfl (fun h => by first | rfl | cases h) (Nat.le_of_ble_eq_true rfl) ?_
  show AW l g RX4 cX4_nextSign 1 (some .int) false _ _ _ 0 [some (.ref 3)] [] _ _ _
  exact L_X4_nextSign hT hQ (n - p) p (by omega) rfl M (fun _ _ => rfl) (fun _ _ => rfl) h
theorem C_X4_takes (hT : f_tp M n tp) (hs : f_rd M s) (hn : s.2 ≤ n) {c : Nat} (hc : 0 < c) (hc2 : c < 128) {Q : Int32 → zS → zM → Prop} (h1 : ∀ M', f_fr M M' → f_rd M' (pp_pass tp n c s).2 → (pp_pass tp n c s).1 = true → Q (nI 1) (ZS m0 m1 md) M') (h0 : ∀ M', f_fr M M' → f_rd M' (pp_nrm tp n s) → (pp_pass tp n c s).1 = false → Q (nI 0) (ZS m0 m1 md) M') : AMet l g yX4_takes cX4_takes 2 (some .boolean) (d + 1) 0 0 [.ref 3, .int (nI c)] (ZS m0 m1 md) M (z_Qi Q) := by
  obtain ⟨w, p⟩ := s
  have hn120 := hT.2.1.1
  cases w with
  | true =>
    have e5 : M 3 5 = nI 1 := hs.1
    have fin : Q (nI 0) (ZS m0 m1 md) M := h0 M (f_fr.rf M) (by rw [pp_nrm_f rfl]; exact hs) (by rw [pp_pass_f rfl])
    refine AMet.of (ini := false) rfl (fun h => by first | rfl | cases h) (Nat.le_of_ble_eq_true rfl) ?_
    show AW l g RX4 cX4_takes 2 (some .boolean) false _ _ _ 0 [some (.ref 3), some (.int (nI c))] [] _ _ _
    refine AW.aload_n 1 dX4_takes_0 rfl rfl ?_
    refine AW.getI 4 dX4_takes_1 fX4_27 rfl (zI rfl rfl) rfl ?_
    refine AW.topi (nI 1) e5 ?_
    refine AW.ifN_ne 7 15 dX4_takes_4 (by decide) rfl (by omega) (fun b4 => ?_) (fun b4 => absurd b4 (by omega))
    refine AW.iconst 16 (nI 0) dX4_takes_15 (by decide) rfl ?_
    refine AW.iret dX4_takes_16 .boolean rfl rfl rfl ⟨_, rfl, ?_⟩
    exact fin
  | false =>
    have e5 : M 3 5 = nI 0 := hs.1
    have hsk := pp_sk_le (tp := tp) (n := n) (p := p) hn
    have hcv := pp_cv_eq (tp := tp) (n := n) (p := p) hT.2.1 hc
    have hcv2 : ∀ x : Int, x = (c : Int) → ((pp_cv tp n p).toInt = x ↔ pp_cu tp n p = c) := fun x hx => by rw [hx]; exact hcv
    refine AMet.of (ini := false) rfl (fun h => by first | rfl | cases h) (Nat.le_of_ble_eq_true rfl) ?_
    show AW l g RX4 cX4_takes 2 (some .boolean) false _ _ _ 0 [some (.ref 3), some (.int (nI c))] [] _ _ _
    refine AW.aload_n 1 dX4_takes_0 rfl rfl ?_
    refine AW.getI 4 dX4_takes_1 fX4_27 rfl (zI rfl rfl) rfl ?_
    refine AW.topi (nI 0) e5 ?_
    refine AW.ifN_ne 7 15 dX4_takes_4 (by decide) rfl (by omega) (fun b4 => absurd b4 (by omega)) (fun b4 => ?_)
    refine AW.aload_n 8 dX4_takes_7 rfl rfl ?_
    refine AW.cVi0 11 dX4_takes_8 kX4_108 (zI rfl rfl) (Nat.le_of_ble_eq_true rfl) rfl (C_X4_nextSign (p := p) hT hn hs.2 (fun M1 a1 a2 a3 => ?_))
    refine AW.iload_n 12 dX4_takes_11 rfl rfl ?_
    refine AW.zicmp_eq 15 17 dX4_takes_12 (by decide) rfl rfl (z_ti (by omega)) (fun b12 => ?_) (fun b12 => ?_)
    · skip
      refine AW.aload_n 18 dX4_takes_17 rfl rfl ?_
      refine AW.dup 19 dX4_takes_18 rfl rfl ?_
      refine AW.getI 22 dX4_takes_19 fX4_30 rfl (zI rfl rfl) rfl ?_
      refine AW.topi (nI (pp_sk tp n p)) a3 ?_
      refine AW.iconst 23 (nI 1) dX4_takes_22 (by decide) rfl ?_
      refine AW.iaddN 24 dX4_takes_23 rfl ?_
      refine AW.putI 27 .int dX4_takes_24 pX4_30 rfl (zI rfl rfl) rfl rfl rfl ?_
      refine AW.iconst 28 (nI 1) dX4_takes_27 (by decide) rfl ?_
      refine AW.iret dX4_takes_28 .boolean rfl rfl rfl ⟨_, rfl, ?_⟩
      have e : pp_pass tp n c (false, p) = (true, (false, pp_sk tp n p + 1)) := by unfold pp_pass; rw [if_neg Bool.false_ne_true, if_pos (hcv.mp b12)]
      refine h1 _ (f_fr.st6 ⟨a1, fun j _ h => a2 j h⟩ _) ?_ (by rw [e])
      rw [e]
      exact ⟨by rw [z_st_o (by decide), a2 5 (by decide)]; exact e5, z_st_v _ _ _ _⟩
    · skip
      refine AW.iconst 16 (nI 0) dX4_takes_15 (by decide) rfl ?_
      refine AW.iret dX4_takes_16 .boolean rfl rfl rfl ⟨_, rfl, ?_⟩
      have e : pp_pass tp n c (false, p) = (false, (false, pp_sk tp n p)) := by unfold pp_pass; rw [if_neg Bool.false_ne_true, if_neg (fun z => b12 (hcv.mpr z))]
      refine h0 M1 ⟨a1, fun j _ h => a2 j h⟩ ?_ (by rw [e])
      exact ⟨by rw [a2 5 (by decide)]; exact e5, a3⟩
theorem C_X4_takesN (hT : f_tp M n tp) (hs : f_rd M (pp_nrm tp n s)) (hn : s.2 ≤ n) {c : Nat} (hc : 0 < c) (hc2 : c < 128) {Q : Int32 → zS → zM → Prop} (h1 : ∀ M', f_fr M M' → f_rd M' (pp_pass tp n c s).2 → (pp_pass tp n c s).1 = true → Q (nI 1) (ZS m0 m1 md) M') (h0 : ∀ M', f_fr M M' → f_rd M' (pp_nrm tp n s) → (pp_pass tp n c s).1 = false → Q (nI 0) (ZS m0 m1 md) M') : AMet l g yX4_takes cX4_takes 2 (some .boolean) (d + 1) 0 0 [.ref 3, .int (nI c)] (ZS m0 m1 md) M (z_Qi Q) := by
  refine C_X4_takes hT hs (pp_nrm_le hn).1 hc hc2 (fun M' a b e => ?_) (fun M' a b e => ?_)
  · rw [pp_pass_nrm hn] at b e; exact h1 M' a b e
  · rw [pp_pass_nrm hn] at e; rw [pp_nrm_nrm hn] at b; exact h0 M' a b e
theorem C_X4_need (hT : f_tp M n tp) (hs : f_rd M s) (hn : s.2 ≤ n) {c : Nat} (hc : 0 < c) (hc2 : c < 128) {Q : zS → zM → Prop} (hQ : ∀ M', f_fr M M' → f_rd M' (pp_need tp n c s) → Q (ZS m0 m1 md) M') : AMet l g yX4_need cX4_need 2 none (d + 2) 0 0 [.ref 3, .int (nI c)] (ZS m0 m1 md) M (z_Qv Q) := by
  refine AMet.of (ini := false) rfl (fun h => by first | rfl | cases h) (Nat.le_of_ble_eq_true rfl) ?_
  show AW l g RX4 cX4_need 2 none false _ _ _ 0 [some (.ref 3), some (.int (nI c))] [] _ _ _
  refine AW.aload_n 1 dX4_need_0 rfl rfl ?_
  refine AW.iload_n 2 dX4_need_1 rfl rfl ?_
  refine AW.cVi1 5 dX4_need_2 kX4_51 (zI rfl rfl) (Nat.le_of_ble_eq_true rfl) rfl (C_X4_takes hT hs hn hc hc2 (fun M1 => ?_) (fun M1 => ?_))
  · skip
    intro a1 a2 a3
    have fin : Q (ZS m0 m1 md) M1 := hQ M1 a1 (by unfold pp_need; rw [if_pos a3]; exact a2)
    refine AW.if_ne 8 13 dX4_need_5 (by decide) rfl (fun _ => ?_) (fun h => absurd h (by decide))
    refine AW.vret dX4_need_13 rfl rfl ⟨rfl, ?_⟩
    exact fin
  · skip
    intro a1 a2 a3
    have fin : Q (ZS m0 m1 md) (z_st M1 3 5 (nI 1)) := hQ _ (f_fr.st5 a1 _) (by unfold pp_need; rw [if_neg (by rw [a3]; decide)]; exact ⟨z_st_v _ _ _ _, by rw [z_st_o (by decide)]; exact a2.2⟩)
    refine AW.if_ne 8 13 dX4_need_5 (by decide) rfl (fun h => absurd h (by decide)) (fun _ => ?_)
    refine AW.aload_n 9 dX4_need_8 rfl rfl ?_
    refine AW.iconst 10 (nI 1) dX4_need_9 (by decide) rfl ?_
    refine AW.putI 13 .boolean dX4_need_10 pX4_27 rfl (zI rfl rfl) rfl rfl rfl ?_
    refine AW.vret dX4_need_13 rfl rfl ⟨rfl, ?_⟩
    exact fin
theorem C_X4_needEnd (hT : f_tp M n tp) (hs : f_rd M s) (hn : s.2 ≤ n) {Q : zS → zM → Prop} (hQ : ∀ M', f_fr M M' → f_rd M' (pp_end tp n s) → Q (ZS m0 m1 md) M') : AMet l g yX4_needEnd cX4_needEnd 1 none (d + 1) 0 0 [.ref 3] (ZS m0 m1 md) M (z_Qv Q) := by
  obtain ⟨w, p⟩ := s
  cases w with
  | true =>
    have e5 : M 3 5 = nI 1 := hs.1
    have fin : Q (ZS m0 m1 md) M := hQ M (f_fr.rf M) (by unfold pp_end; rw [if_pos rfl]; exact hs)
    refine AMet.of (ini := false) rfl (fun h => by first | rfl | cases h) (Nat.le_of_ble_eq_true rfl) ?_
    show AW l g RX4 cX4_needEnd 1 none false _ _ _ 0 [some (.ref 3)] [] _ _ _
    refine AW.aload_n 1 dX4_needEnd_0 rfl rfl ?_
    refine AW.getI 4 dX4_needEnd_1 fX4_27 rfl (zI rfl rfl) rfl ?_
    refine AW.topi (nI 1) e5 ?_
    refine AW.ifN_ne 7 19 dX4_needEnd_4 (by decide) rfl (by omega) (fun b4 => ?_) (fun b4 => absurd b4 (by omega))
    refine AW.vret dX4_needEnd_19 rfl rfl ⟨rfl, ?_⟩
    exact fin
  | false =>
    have e5 : M 3 5 = nI 0 := hs.1
    have hge := pp_cv_ge (tp := tp) (n := n) (p := p) hT.2.1
    refine AMet.of (ini := false) rfl (fun h => by first | rfl | cases h) (Nat.le_of_ble_eq_true rfl) ?_
    show AW l g RX4 cX4_needEnd 1 none false _ _ _ 0 [some (.ref 3)] [] _ _ _
    refine AW.aload_n 1 dX4_needEnd_0 rfl rfl ?_
    refine AW.getI 4 dX4_needEnd_1 fX4_27 rfl (zI rfl rfl) rfl ?_
    refine AW.topi (nI 0) e5 ?_
    refine AW.ifN_ne 7 19 dX4_needEnd_4 (by decide) rfl (by omega) (fun b4 => absurd b4 (by omega)) (fun b4 => ?_)
    refine AW.aload_n 8 dX4_needEnd_7 rfl rfl ?_
    refine AW.cVi0 11 dX4_needEnd_8 kX4_108 (zI rfl rfl) (Nat.le_of_ble_eq_true rfl) rfl (C_X4_nextSign (p := p) hT hn hs.2 (fun M1 a1 a2 a3 => ?_))
    refine AW.zif_lt 14 19 dX4_needEnd_11 (by decide) rfl rfl (fun b11 => ?_) (fun b11 => ?_)
    · skip
      refine AW.vret dX4_needEnd_19 rfl rfl ⟨rfl, ?_⟩
      have e : pp_end tp n (false, p) = (decide (pp_sk tp n p < n), pp_sk tp n p) := by unfold pp_end; rw [if_neg Bool.false_ne_true]
      first
      | (exact hQ M1 ⟨a1, fun j _ h => a2 j h⟩ (by rw [e, decide_eq_false (fun z => by have := hge.mpr z; omega)]; exact ⟨by rw [a2 5 (by decide)]; exact e5, a3⟩))
      | (exact hQ _ (f_fr.st5 ⟨a1, fun j _ h => a2 j h⟩ _) (by rw [e, decide_eq_true (hge.mp (by omega))]; exact ⟨z_st_v _ _ _ _, by rw [z_st_o (by decide)]; exact a3⟩))
    · skip
      refine AW.aload_n 15 dX4_needEnd_14 rfl rfl ?_
      refine AW.iconst 16 (nI 1) dX4_needEnd_15 (by decide) rfl ?_
      refine AW.putI 19 .boolean dX4_needEnd_16 pX4_27 rfl (zI rfl rfl) rfl rfl rfl ?_
      refine AW.vret dX4_needEnd_19 rfl rfl ⟨rfl, ?_⟩
      have e : pp_end tp n (false, p) = (decide (pp_sk tp n p < n), pp_sk tp n p) := by unfold pp_end; rw [if_neg Bool.false_ne_true]
      first
      | (exact hQ M1 ⟨a1, fun j _ h => a2 j h⟩ (by rw [e, decide_eq_false (fun z => by have := hge.mpr z; omega)]; exact ⟨by rw [a2 5 (by decide)]; exact e5, a3⟩))
      | (exact hQ _ (f_fr.st5 ⟨a1, fun j _ h => a2 j h⟩ _) (by rw [e, decide_eq_true (hge.mp (by omega))]; exact ⟨z_st_v _ _ _ _, by rw [z_st_o (by decide)]; exact a3⟩))
theorem C_X4_takeDigit (hT : f_tp M n tp) (hs : f_rd M s) (hn : s.2 ≤ n) {Q : Int32 → zS → zM → Prop} (hQ : ∀ M', f_fr M M' → f_rd M' (pp_dig tp n s).2 → Q (nI (pp_dig tp n s).1) (ZS m0 m1 md) M') : AMet l g yX4_takeDigit cX4_takeDigit 2 (some .int) (d + 1) 0 0 [.ref 3] (ZS m0 m1 md) M (z_Qi Q) := by
  obtain ⟨w, p⟩ := s
  have hn120 := hT.2.1.1
  cases w with
  | true =>
    have e5 : M 3 5 = nI 1 := hs.1
    rw [pp_dig_f rfl] at hQ
    have fin : Q (nI 0) (ZS m0 m1 md) (z_st M 3 5 (nI 1)) := hQ _ (f_fr.st5 (f_fr.rf M) _) ⟨z_st_v _ _ _ _, by rw [z_st_o (by decide)]; exact hs.2⟩
    refine AMet.of (ini := false) rfl (fun h => by first | rfl | cases h) (Nat.le_of_ble_eq_true rfl) ?_
    show AW l g RX4 cX4_takeDigit 2 (some .int) false _ _ _ 0 [some (.ref 3), none] [] _ _ _
    refine AW.aload_n 1 dX4_takeDigit_0 rfl rfl ?_
    refine AW.getI 4 dX4_takeDigit_1 fX4_27 rfl (zI rfl rfl) rfl ?_
    refine AW.topi (nI 1) e5 ?_
    refine AW.ifN_eq 7 12 dX4_takeDigit_4 (by decide) rfl (by omega) (fun b4 => absurd b4 (by omega)) (fun b4 => ?_)
    refine AW.bipush 9 (-4) dX4_takeDigit_7 (by decide) rfl ?_
    refine AW.goto 19 dX4_takeDigit_9 (by decide) ?_
    refine AW.istn1 20 dX4_takeDigit_19 (by decide) rfl rfl ?_
    refine AW.iload_n 21 dX4_takeDigit_20 rfl rfl ?_
    refine AW.iconst 22 (nI 3) dX4_takeDigit_21 (by decide) rfl ?_
    refine AW.cNi2 25 dX4_takeDigit_22 kX4_111 (Nat.le_of_ble_eq_true rfl) rfl (C_beyond (V := -4) (by decide) (by decide : (nI 3).toInt = 3) (fun b22 => ?_) (fun b22 => ?_))
    · skip
      refine AW.if_eq 28 35 dX4_takeDigit_25 (by decide) rfl (fun h => absurd h (by decide)) (fun _ => ?_)
      refine AW.aload_n 29 dX4_takeDigit_28 rfl rfl ?_
      refine AW.iconst 30 (nI 1) dX4_takeDigit_29 (by decide) rfl ?_
      refine AW.putI 33 .boolean dX4_takeDigit_30 pX4_27 rfl (zI rfl rfl) rfl rfl rfl ?_
      refine AW.iconst 34 (nI 0) dX4_takeDigit_33 (by decide) rfl ?_
      refine AW.iret dX4_takeDigit_34 .int rfl rfl rfl ⟨_, rfl, ?_⟩
      first | exact fin | exact absurd b22 (by decide)
    · skip
      refine AW.if_eq 28 35 dX4_takeDigit_25 (by decide) rfl (fun _ => ?_) (fun h => absurd h (by decide))
      refine AW.aload_n 36 dX4_takeDigit_35 rfl rfl ?_
      refine AW.dup 37 dX4_takeDigit_36 rfl rfl ?_
      refine AW.getI 40 dX4_takeDigit_37 fX4_30 rfl (zI rfl rfl) rfl ?_
      refine AW.iconst 41 (nI 1) dX4_takeDigit_40 (by decide) rfl ?_
      refine AW.iadd 42 dX4_takeDigit_41 rfl ?_
      refine AW.putI 45 .int dX4_takeDigit_42 pX4_30 rfl (zI rfl rfl) rfl rfl rfl ?_
      refine AW.iload_n 46 dX4_takeDigit_45 rfl rfl ?_
      refine AW.iret dX4_takeDigit_46 .int rfl rfl rfl ⟨_, rfl, ?_⟩
      first | exact fin | exact absurd b22 (by decide)
  | false =>
    have e5 : M 3 5 = nI 0 := hs.1
    have hsk := pp_sk_le (tp := tp) (n := n) (p := p) hn
    have hdv := pp_dv_iff (tp := tp) (n := n) (p := p) hT.2.1
    refine AMet.of (ini := false) rfl (fun h => by first | rfl | cases h) (Nat.le_of_ble_eq_true rfl) ?_
    show AW l g RX4 cX4_takeDigit 2 (some .int) false _ _ _ 0 [some (.ref 3), none] [] _ _ _
    refine AW.aload_n 1 dX4_takeDigit_0 rfl rfl ?_
    refine AW.getI 4 dX4_takeDigit_1 fX4_27 rfl (zI rfl rfl) rfl ?_
    refine AW.topi (nI 0) e5 ?_
    refine AW.ifN_eq 7 12 dX4_takeDigit_4 (by decide) rfl (by omega) (fun b4 => ?_) (fun b4 => absurd b4 (by omega))
    refine AW.aload_n 13 dX4_takeDigit_12 rfl rfl ?_
    refine AW.cVi0 16 dX4_takeDigit_13 kX4_108 (zI rfl rfl) (Nat.le_of_ble_eq_true rfl) rfl (C_X4_nextSign (p := p) hT hn hs.2 (fun M1 a1 a2 a3 => ?_))
    refine AW.bipush 18 (nI 48) dX4_takeDigit_16 (by decide) rfl ?_
    refine AW.isub 19 dX4_takeDigit_18 rfl ?_
    refine AW.istn1 20 dX4_takeDigit_19 (by decide) rfl rfl ?_
    refine AW.iload_n 21 dX4_takeDigit_20 rfl rfl ?_
    refine AW.iconst 22 (nI 3) dX4_takeDigit_21 (by decide) rfl ?_
    refine AW.cNi2 25 dX4_takeDigit_22 kX4_111 (Nat.le_of_ble_eq_true rfl) rfl (C_beyond rfl (by decide : (nI 3).toInt = 3) (fun b22 => ?_) (fun b22 => ?_))
    · skip
      refine AW.if_eq 28 35 dX4_takeDigit_25 (by decide) rfl (fun h => absurd h (by decide)) (fun _ => ?_)
      refine AW.aload_n 29 dX4_takeDigit_28 rfl rfl ?_
      refine AW.iconst 30 (nI 1) dX4_takeDigit_29 (by decide) rfl ?_
      refine AW.putI 33 .boolean dX4_takeDigit_30 pX4_27 rfl (zI rfl rfl) rfl rfl rfl ?_
      refine AW.iconst 34 (nI 0) dX4_takeDigit_33 (by decide) rfl ?_
      refine AW.iret dX4_takeDigit_34 .int rfl rfl rfl ⟨_, rfl, ?_⟩
      have e : pp_dig tp n (false, p) = (0, (true, pp_sk tp n p)) := by unfold pp_dig; rw [if_neg Bool.false_ne_true, if_neg (fun z => (hdv.mpr z) b22)]
      rw [e] at hQ
      exact hQ _ (f_fr.st5 ⟨a1, fun j _ h => a2 j h⟩ _) ⟨z_st_v _ _ _ _, by rw [z_st_o (by decide)]; exact a3⟩
    · skip
      refine AW.if_eq 28 35 dX4_takeDigit_25 (by decide) rfl (fun _ => ?_) (fun h => absurd h (by decide))
      refine AW.aload_n 36 dX4_takeDigit_35 rfl rfl ?_
      refine AW.dup 37 dX4_takeDigit_36 rfl rfl ?_
      refine AW.getI 40 dX4_takeDigit_37 fX4_30 rfl (zI rfl rfl) rfl ?_
      refine AW.topi (nI (pp_sk tp n p)) a3 ?_
      refine AW.iconst 41 (nI 1) dX4_takeDigit_40 (by decide) rfl ?_
      refine AW.iaddN 42 dX4_takeDigit_41 rfl ?_
      refine AW.putI 45 .int dX4_takeDigit_42 pX4_30 rfl (zI rfl rfl) rfl rfl rfl ?_
      refine AW.iload_n 46 dX4_takeDigit_45 rfl rfl ?_
      refine AW.iret dX4_takeDigit_46 .int rfl rfl rfl ⟨_, rfl, ?_⟩
      have e : pp_dig tp n (false, p) = (pp_cu tp n p - 48, (false, pp_sk tp n p + 1)) := by unfold pp_dig; rw [if_neg Bool.false_ne_true, if_pos (hdv.mp b22)]
      rw [e] at hQ
      rw [pp_dv_eq hT.2.1 (hdv.mp b22)]
      exact hQ _ (f_fr.st6 ⟨a1, fun j _ h => a2 j h⟩ _) ⟨by rw [z_st_o (by decide), a2 5 (by decide)]; exact e5, z_st_v _ _ _ _⟩
theorem C_X4_start {v : Int32} (hv : v = nI 0 ∨ v = nI 1) {Q : zS → zM → Prop} (hQ : ∀ M', (∀ c, c ≠ 3 → M' c = M c) → M' 3 4 = v → f_rd M' (false, 0) → Q (ZS m0 m1 md) M') : AMet l g yX4_start cX4_start 2 none d 0 0 [.ref 3, .int v] (ZS m0 m1 md) M (z_Qv Q) := by
  have fin : Q (ZS m0 m1 md) (z_st (z_st (z_st M 3 4 v) 3 5 (nI 0)) 3 6 (nI 0)) := hQ _ (fun c hc => by rw [z_st_ne hc, z_st_ne hc, z_st_ne hc]) (by rw [z_st_o (by decide), z_st_o (by decide), z_st_v]) ⟨by rw [z_st_o (by decide), z_st_v]; rfl, by rw [z_st_v]⟩
  refine AMet.of (ini := false) rfl (fun h => by first | rfl | cases h) (Nat.le_of_ble_eq_true rfl) ?_
  show AW l g RX4 cX4_start 2 none false _ _ _ 0 [some (.ref 3), some (.int v)] [] _ _ _
  refine AW.aload_n 1 dX4_start_0 rfl rfl ?_
  refine AW.iload_n 2 dX4_start_1 rfl rfl ?_
  refine AW.putI 5 .boolean dX4_start_2 pX4_23 rfl (zI rfl rfl) (by rcases hv with rfl | rfl <;> rfl) (by rcases hv with rfl | rfl <;> rfl) rfl ?_
  refine AW.aload_n 6 dX4_start_5 rfl rfl ?_
  refine AW.iconst 7 (nI 0) dX4_start_6 (by decide) rfl ?_
  refine AW.putI 10 .boolean dX4_start_7 pX4_27 rfl (zI rfl rfl) rfl rfl rfl ?_
  refine AW.aload_n 11 dX4_start_10 rfl rfl ?_
  refine AW.iconst 12 (nI 0) dX4_start_11 (by decide) rfl ?_
  refine AW.putI 15 .int dX4_start_12 pX4_30 rfl (zI rfl rfl) rfl rfl rfl ?_
  refine AW.vret dX4_start_15 rfl rfl ⟨rfl, ?_⟩
  exact fin
end READER
