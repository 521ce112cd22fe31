def g_tp (M : zM) (n : Nat) (tp : Nat → Nat) : Prop := M 99 1 = nI n ∧ pp_tok tp n ∧ ∀ i, i < n → M 100 i = nI (tp i)
def g_rd (M : zM) (s : pS) : Prop := M 99 3 = z_bI s.1 ∧ M 99 2 = nI s.2
def g_fr (M M' : zM) : Prop := (∀ c, c ≠ 99 → M' c = M c) ∧ ∀ j, j ≠ 2 → j ≠ 3 → M' 99 j = M 99 j
theorem g_fr.rf (M : zM) : g_fr M M := ⟨fun _ _ => rfl, fun _ _ _ => rfl⟩
theorem g_fr.tr {M M1 M2 : zM} (h : g_fr M M1) (h2 : g_fr M1 M2) : g_fr M M2 := ⟨fun c hc => (h2.1 c hc).trans (h.1 c hc), fun j a b => (h2.2 j a b).trans (h.2 j a b)⟩
theorem g_tp.fr {M M' : zM} {n : Nat} {tp : Nat → Nat} (hT : g_tp M n tp) (h1 : M' 99 1 = M 99 1) (h2 : M' 100 = M 100) : g_tp M' n tp := ⟨by rw [h1]; exact hT.1, hT.2.1, fun i hi => by rw [h2]; exact hT.2.2 i hi⟩
theorem g_tp.of {M M' : zM} {n : Nat} {tp : Nat → Nat} (hT : g_tp M n tp) (h : g_fr M M') : g_tp M' n tp := hT.fr (h.2 1 (by decide) (by decide)) (h.1 100 (by decide))
theorem g_fr.st2 {M M1 : zM} (h : g_fr M M1) (v : Int32) : g_fr M (z_st M1 99 2 v) := ⟨fun c hc => by rw [z_st_ne hc]; exact h.1 c hc, fun j a b => by rw [z_st_o a]; exact h.2 j a b⟩
theorem g_fr.st3 {M M1 : zM} (h : g_fr M M1) (v : Int32) : g_fr M (z_st M1 99 3 v) := ⟨fun c hc => by rw [z_st_ne hc]; exact h.1 c hc, fun j a b => by rw [z_st_o b]; exact h.2 j a b⟩
section MPARSE
variable {l : Launch} {g : zG} {d m0 m1 md : Nat} {M : zM} {n : Nat} {tp : Nat → Nat} {s : pS}
theorem pp_cu_le (ht : pp_tok tp n) (p : Nat) : pp_cu tp n p ≤ 126 := by
  unfold pp_cu
  split
  · rename_i h; exact (ht.2 _ h).2
  · omega
theorem L_X10_next (hT : g_tp M n tp) {P : Nat} {Q : Int32 → zS → zM → Prop} (hQ : ∀ M', (∀ c, c ≠ 99 → M' c = M c) → (∀ j, j ≠ 2 → M' 99 j = M 99 j) → M' 99 2 = nI P → Q (nI (if P < n then tp P else 0)) (ZS m0 m1 md) M') :
    ∀ (q p : Nat), p + q = n → pp_sk tp n p = P → ∀ M', (∀ c, c ≠ 99 → M' c = M c) → (∀ j, j ≠ 2 → M' 99 j = M 99 j) → M' 99 2 = nI p → AW l g RX10 cX10_next 1 (some .int) false d 0 0 0 [some (.ref 99)] [] (ZS m0 m1 md) M' (z_Qi Q) := by
  have hn := hT.2.1.1
  intro q
  induction q with
  | zero =>
    intro p hp hP M' f1 f2 h
    have q0 : M' 99 1 = nI n := by rw [f2 1 (by decide)]; exact hT.1
    rw [pp_sk_n (by omega)] at hP
    subst hP
    have e := hQ M' f1 f2 h
    rw [if_neg (by omega)] at e
    refine AW.aload_n 1 dX10_next_0 rfl rfl ?_
    refine AW.getI 4 dX10_next_1 fX10_144 rfl (zI rfl rfl) rfl ?_
    refine AW.topi (nI p) h ?_
    refine AW.aload_n 5 dX10_next_4 rfl rfl ?_
    refine AW.getI 8 dX10_next_5 fX10_141 rfl (zI rfl rfl) rfl ?_
    refine AW.topi (nI n) q0 ?_
    refine AW.icmpN_ge 11 38 dX10_next_8 (by decide) rfl (by omega) (by omega) (fun b8 => ?_) (fun b8 => absurd b8 (by omega))
    refine AW.aload_n 39 dX10_next_38 rfl rfl ?_
    refine AW.getI 42 dX10_next_39 fX10_144 rfl (zI rfl rfl) rfl ?_
    refine AW.topi (nI p) h ?_
    refine AW.aload_n 43 dX10_next_42 rfl rfl ?_
    refine AW.getI 46 dX10_next_43 fX10_141 rfl (zI rfl rfl) rfl ?_
    refine AW.topi (nI n) q0 ?_
    refine AW.icmpN_ge 49 61 dX10_next_46 (by decide) rfl (by omega) (by omega) (fun b46 => ?_) (fun b46 => absurd b46 (by omega))
    refine AW.iconst 62 (nI 0) dX10_next_61 (by decide) rfl ?_
    refine AW.iret dX10_next_62 .int rfl rfl rfl ⟨_, rfl, ?_⟩
    exact e
  | succ q ih =>
    intro p hp hP M' f1 f2 h
    have q0 : M' 99 1 = nI n := by rw [f2 1 (by decide)]; exact hT.1
    have q1 : M' 100 p = nI (tp p) := by rw [f1 100 (by decide)]; exact hT.2.2 p (by omega)
    have q2 := (hT.2.1.2 p (by omega)).2
    have fin : ¬ tp p = 32 → Q (nI (tp p)) (ZS m0 m1 md) M' := fun z => by
      rw [pp_sk_no (by omega) z] at hP
      subst hP
      have e := hQ M' f1 f2 h
      rw [if_pos (by omega)] at e
      exact e
    refine AW.aload_n 1 dX10_next_0 rfl rfl ?_
    refine AW.getI 4 dX10_next_1 fX10_144 rfl (zI rfl rfl) rfl ?_
    refine AW.topi (nI p) h ?_
    refine AW.aload_n 5 dX10_next_4 rfl rfl ?_
    refine AW.getI 8 dX10_next_5 fX10_141 rfl (zI rfl rfl) rfl ?_
    refine AW.topi (nI n) q0 ?_
    refine AW.icmpN_ge 11 38 dX10_next_8 (by decide) rfl (by omega) (by omega) (fun b8 => absurd b8 (by omega)) (fun b8 => ?_)
    refine AW.aload_n 12 dX10_next_11 rfl rfl ?_
    refine AW.getR 15 dX10_next_12 fX10_7 rfl (zI rfl rfl) rfl rfl ?_
    refine AW.aload_n 16 dX10_next_15 rfl rfl ?_
    refine AW.getI 19 dX10_next_16 fX10_144 rfl (zI rfl rfl) rfl ?_
    refine AW.topi (nI p) h ?_
    refine AW.iald 20 dX10_next_19 (zA rfl rfl) rfl (by omega) (by decide) rfl ?_
    refine AW.topi (nI (tp p)) q1 ?_
    refine AW.bipush 22 (nI 32) dX10_next_20 (by decide) rfl ?_
    refine AW.icmpN_ne 25 38 dX10_next_22 (by decide) rfl (by omega) (by omega) (fun b22 => ?_) (fun b22 => ?_)
    · skip
      refine AW.aload_n 39 dX10_next_38 rfl rfl ?_
      refine AW.getI 42 dX10_next_39 fX10_144 rfl (zI rfl rfl) rfl ?_
      refine AW.topi (nI p) h ?_
      refine AW.aload_n 43 dX10_next_42 rfl rfl ?_
      refine AW.getI 46 dX10_next_43 fX10_141 rfl (zI rfl rfl) rfl ?_
      refine AW.topi (nI n) q0 ?_
      refine AW.icmpN_ge 49 61 dX10_next_46 (by decide) rfl (by omega) (by omega) (fun b46 => absurd b46 (by omega)) (fun b46 => ?_)
      refine AW.aload_n 50 dX10_next_49 rfl rfl ?_
      refine AW.getR 53 dX10_next_50 fX10_7 rfl (zI rfl rfl) rfl rfl ?_
      refine AW.aload_n 54 dX10_next_53 rfl rfl ?_
      refine AW.getI 57 dX10_next_54 fX10_144 rfl (zI rfl rfl) rfl ?_
      refine AW.topi (nI p) h ?_
      refine AW.iald 58 dX10_next_57 (zA rfl rfl) rfl (by omega) (by decide) rfl ?_
      refine AW.topi (nI (tp p)) q1 ?_
      refine AW.goto 62 dX10_next_58 (by decide) ?_
      refine AW.iret dX10_next_62 .int rfl rfl rfl ⟨_, rfl, ?_⟩
      exact fin b22
    · skip
      refine AW.aload_n 26 dX10_next_25 rfl rfl ?_
      refine AW.dup 27 dX10_next_26 rfl rfl ?_
      refine AW.getI 30 dX10_next_27 fX10_144 rfl (zI rfl rfl) rfl ?_
      refine AW.topi (nI p) h ?_
      refine AW.iconst 31 (nI 1) dX10_next_30 (by decide) rfl ?_
      refine AW.iaddN 32 dX10_next_31 rfl ?_
      refine AW.putI 35 .int dX10_next_32 pX10_144 rfl (zI rfl rfl) rfl rfl rfl ?_
      refine AW.goto 0 dX10_next_35 (by decide) ?_
      exact ih (p + 1) (by omega) (by rw [← pp_sk_32 (by omega) b22]; exact hP) _ (fun c hc => by rw [z_st_ne hc]; exact f1 c hc) (fun j hj => by rw [z_st_o hj]; exact f2 j hj) (z_st_v _ _ _ _)
theorem C_X10_next (hT : g_tp M n tp) {p : Nat} (hp : p ≤ n) (h : M 99 2 = nI p) {Q : Int32 → zS → zM → Prop} (hQ : ∀ M', (∀ c, c ≠ 99 → M' c = M c) → (∀ j, j ≠ 2 → M' 99 j = M 99 j) → M' 99 2 = nI (pp_sk tp n p) → Q (nI (pp_cu tp n p)) (ZS m0 m1 md) M') : AMet l g yX10_next cX10_next 1 (some .int) d 0 0 [.ref 99] (ZS m0 m1 md) M (z_Qi Q) := by
  refine AMet.of (ini := false) rfl (fun h => by first | rfl | cases h) (Nat.le_of_ble_eq_true rfl) ?_
  show AW l g RX10 cX10_next 1 (some .int) false _ _ _ 0 [some (.ref 99)] [] _ _ _
  exact L_X10_next hT hQ (n - p) p (by omega) rfl M (fun _ _ => rfl) (fun _ _ => rfl) h
theorem C_X10_passes (hT : g_tp M n tp) (hs : g_rd M s) (hn : s.2 ≤ n) {c : Nat} (hc2 : c < 128) {Q : Int32 → zS → zM → Prop} (h1 : ∀ M', g_fr M M' → g_rd M' (pp_pass tp n c s).2 → (pp_pass tp n c s).1 = true → Q (nI 1) (ZS m0 m1 md) M') (h0 : ∀ M', g_fr M M' → g_rd M' (pp_nrm tp n s) → (pp_pass tp n c s).1 = false → Q (nI 0) (ZS m0 m1 md) M') : AMet l g yX10_passes cX10_passes 3 (some .boolean) (d + 1) 0 0 [.ref 99, .int (nI c)] (ZS m0 m1 md) M (z_Qi Q) := by
  obtain ⟨w, p⟩ := s
  have hn120 := hT.2.1.1
  have hsk := pp_sk_le (tp := tp) (n := n) (p := p) hn
  have hcu := pp_cu_le hT.2.1 p
  cases w with
  | true =>
    have e5 : M 99 3 = nI 1 := hs.1
    have fin : Q (nI 0) (ZS m0 m1 md) (z_st M 99 2 (nI (p + 0))) := h0 _ ((g_fr.rf M).st2 _) (by rw [pp_nrm_f rfl]; exact ⟨by rw [z_st_o (by decide)]; exact hs.1, z_st_v _ _ _ _⟩) (by rw [pp_pass_f rfl])
    refine AMet.of (ini := false) rfl (fun h => by first | rfl | cases h) (Nat.le_of_ble_eq_true rfl) ?_
    show AW l g RX10 cX10_passes 3 (some .boolean) false _ _ _ 0 [some (.ref 99), some (.int (nI c)), none] [] _ _ _
    refine AW.aload_n 1 dX10_passes_0 rfl rfl ?_
    refine AW.getI 4 dX10_passes_1 fX10_147 rfl (zI rfl rfl) rfl ?_
    refine AW.topi (nI 1) e5 ?_
    refine AW.ifN_ne 7 19 dX10_passes_4 (by decide) rfl (by omega) (fun b4 => ?_) (fun b4 => absurd b4 (by omega))
    refine AW.iconst 20 (nI 0) dX10_passes_19 (by decide) rfl ?_
    refine AW.istn2 21 dX10_passes_20 (by decide) rfl rfl ?_
    refine AW.aload_n 22 dX10_passes_21 rfl rfl ?_
    refine AW.dup 23 dX10_passes_22 rfl rfl ?_
    refine AW.getI 26 dX10_passes_23 fX10_144 rfl (zI rfl rfl) rfl ?_
    refine AW.topi (nI p) hs.2 ?_
    refine AW.iload_n 27 dX10_passes_26 rfl rfl ?_
    refine AW.if_eq 30 34 dX10_passes_27 (by decide) rfl (fun _ => ?_) (fun h => absurd h (by decide))
    refine AW.iconst 35 (nI 0) dX10_passes_34 (by decide) rfl ?_
    refine AW.iaddN 36 dX10_passes_35 rfl ?_
    refine AW.putI 39 .int dX10_passes_36 pX10_144 rfl (zI rfl rfl) rfl rfl rfl ?_
    refine AW.iload_n 40 dX10_passes_39 rfl rfl ?_
    refine AW.iret dX10_passes_40 .boolean rfl rfl rfl ⟨_, rfl, ?_⟩
    exact fin
  | false =>
    have e5 : M 99 3 = nI 0 := hs.1
    refine AMet.of (ini := false) rfl (fun h => by first | rfl | cases h) (Nat.le_of_ble_eq_true rfl) ?_
    show AW l g RX10 cX10_passes 3 (some .boolean) false _ _ _ 0 [some (.ref 99), some (.int (nI c)), none] [] _ _ _
    refine AW.aload_n 1 dX10_passes_0 rfl rfl ?_
    refine AW.getI 4 dX10_passes_1 fX10_147 rfl (zI rfl rfl) rfl ?_
    refine AW.topi (nI 0) e5 ?_
    refine AW.ifN_ne 7 19 dX10_passes_4 (by decide) rfl (by omega) (fun b4 => absurd b4 (by omega)) (fun b4 => ?_)
    refine AW.aload_n 8 dX10_passes_7 rfl rfl ?_
    refine AW.cVi0 11 dX10_passes_8 kX10_151 (zI rfl rfl) (Nat.le_of_ble_eq_true rfl) rfl (C_X10_next (p := p) hT hn hs.2 (fun M1 a1 a2 a3 => ?_))
    refine AW.iload_n 12 dX10_passes_11 rfl rfl ?_
    refine AW.icmpN_ne 15 19 dX10_passes_12 (by decide) rfl (by omega) (by omega) (fun b12 => ?_) (fun b12 => ?_)
    · skip
      refine AW.iconst 20 (nI 0) dX10_passes_19 (by decide) rfl ?_
      refine AW.istn2 21 dX10_passes_20 (by decide) rfl rfl ?_
      refine AW.aload_n 22 dX10_passes_21 rfl rfl ?_
      refine AW.dup 23 dX10_passes_22 rfl rfl ?_
      refine AW.getI 26 dX10_passes_23 fX10_144 rfl (zI rfl rfl) rfl ?_
      refine AW.topi (nI (pp_sk tp n p)) a3 ?_
      refine AW.iload_n 27 dX10_passes_26 rfl rfl ?_
      refine AW.if_eq 30 34 dX10_passes_27 (by decide) rfl (fun _ => ?_) (fun h => absurd h (by decide))
      refine AW.iconst 35 (nI 0) dX10_passes_34 (by decide) rfl ?_
      refine AW.iaddN 36 dX10_passes_35 rfl ?_
      refine AW.putI 39 .int dX10_passes_36 pX10_144 rfl (zI rfl rfl) rfl rfl rfl ?_
      refine AW.iload_n 40 dX10_passes_39 rfl rfl ?_
      refine AW.iret dX10_passes_40 .boolean rfl rfl rfl ⟨_, rfl, ?_⟩
      first
      | (have e : pp_pass tp n c (false, p) = (true, (false, pp_sk tp n p + 1)) := by unfold pp_pass; rw [if_neg Bool.false_ne_true, if_pos (by omega)]
         refine h1 _ (g_fr.st2 ⟨a1, fun j h _ => a2 j h⟩ _) ?_ (by rw [e])
         rw [e]
         exact ⟨by rw [z_st_o (by decide), a2 3 (by decide)]; exact e5, z_st_v _ _ _ _⟩)
      | (have e : pp_pass tp n c (false, p) = (false, (false, pp_sk tp n p)) := by unfold pp_pass; rw [if_neg Bool.false_ne_true, if_neg (by omega)]
         refine h0 _ (g_fr.st2 ⟨a1, fun j h _ => a2 j h⟩ _) ?_ (by rw [e])
         exact ⟨by rw [z_st_o (by decide), a2 3 (by decide)]; exact e5, z_st_v _ _ _ _⟩)
    · skip
      refine AW.iconst 16 (nI 1) dX10_passes_15 (by decide) rfl ?_
      refine AW.goto 20 dX10_passes_16 (by decide) ?_
      refine AW.istn2 21 dX10_passes_20 (by decide) rfl rfl ?_
      refine AW.aload_n 22 dX10_passes_21 rfl rfl ?_
      refine AW.dup 23 dX10_passes_22 rfl rfl ?_
      refine AW.getI 26 dX10_passes_23 fX10_144 rfl (zI rfl rfl) rfl ?_
      refine AW.topi (nI (pp_sk tp n p)) a3 ?_
      refine AW.iload_n 27 dX10_passes_26 rfl rfl ?_
      refine AW.if_eq 30 34 dX10_passes_27 (by decide) rfl (fun h => absurd h (by decide)) (fun _ => ?_)
      refine AW.iconst 31 (nI 1) dX10_passes_30 (by decide) rfl ?_
      refine AW.goto 35 dX10_passes_31 (by decide) ?_
      refine AW.iaddN 36 dX10_passes_35 rfl ?_
      refine AW.putI 39 .int dX10_passes_36 pX10_144 rfl (zI rfl rfl) rfl rfl rfl ?_
      refine AW.iload_n 40 dX10_passes_39 rfl rfl ?_
      refine AW.iret dX10_passes_40 .boolean rfl rfl rfl ⟨_, rfl, ?_⟩
      first
      | (have e : pp_pass tp n c (false, p) = (true, (false, pp_sk tp n p + 1)) := by unfold pp_pass; rw [if_neg Bool.false_ne_true, if_pos (by omega)]
         refine h1 _ (g_fr.st2 ⟨a1, fun j h _ => a2 j h⟩ _) ?_ (by rw [e])
         rw [e]
         exact ⟨by rw [z_st_o (by decide), a2 3 (by decide)]; exact e5, z_st_v _ _ _ _⟩)
      | (have e : pp_pass tp n c (false, p) = (false, (false, pp_sk tp n p)) := by unfold pp_pass; rw [if_neg Bool.false_ne_true, if_neg (by omega)]
         refine h0 _ (g_fr.st2 ⟨a1, fun j h _ => a2 j h⟩ _) ?_ (by rw [e])
         exact ⟨by rw [z_st_o (by decide), a2 3 (by decide)]; exact e5, z_st_v _ _ _ _⟩)
theorem C_X10_passesN (hT : g_tp M n tp) (hs : g_rd M (pp_nrm tp n s)) (hn : s.2 ≤ n) {c : Nat} (hc2 : c < 128) {Q : Int32 → zS → zM → Prop} (h1 : ∀ M', g_fr M M' → g_rd M' (pp_pass tp n c s).2 → (pp_pass tp n c s).1 = true → Q (nI 1) (ZS m0 m1 md) M') (h0 : ∀ M', g_fr M M' → g_rd M' (pp_nrm tp n s) → (pp_pass tp n c s).1 = false → Q (nI 0) (ZS m0 m1 md) M') : AMet l g yX10_passes cX10_passes 3 (some .boolean) (d + 1) 0 0 [.ref 99, .int (nI c)] (ZS m0 m1 md) M (z_Qi Q) := by
  refine C_X10_passes hT hs (pp_nrm_le hn).1 hc2 (fun M' a b e => ?_) (fun M' a b e => ?_)
  · rw [pp_pass_nrm hn] at b e; exact h1 M' a b e
  · rw [pp_pass_nrm hn] at e; rw [pp_nrm_nrm hn] at b; exact h0 M' a b e
theorem C_X10_digit (hT : g_tp M n tp) (hs : g_rd M s) (hn : s.2 ≤ n) {Q : Int32 → zS → zM → Prop} (hQ : ∀ M', g_fr M M' → g_rd M' (pp_dig tp n s).2 → Q (nI (pp_dig tp n s).1) (ZS m0 m1 md) M') : AMet l g yX10_digit cX10_digit 2 (some .int) (d + 1) 0 0 [.ref 99] (ZS m0 m1 md) M (z_Qi Q) := by
  obtain ⟨w, p⟩ := s
  have hn120 := hT.2.1.1
  have hsk := pp_sk_le (tp := tp) (n := n) (p := p) hn
  have hcu := pp_cu_le hT.2.1 p
  cases w with
  | true =>
    have e5 : M 99 3 = nI 1 := hs.1
    rw [pp_dig_f rfl] at hQ
    have fin : Q (nI 0) (ZS m0 m1 md) (z_st (z_st M 99 3 (nI 1)) 99 2 (nI (p + 0))) := hQ _ (((g_fr.rf M).st3 _).st2 _) ⟨by rw [z_st_o (by decide), z_st_v]; rfl, by rw [z_st_v]; rfl⟩
    refine AMet.of (ini := false) rfl (fun h => by first | rfl | cases h) (Nat.le_of_ble_eq_true rfl) ?_
    show AW l g RX10 cX10_digit 2 (some .int) false _ _ _ 0 [some (.ref 99), none] [] _ _ _
    refine AW.aload_n 1 dX10_digit_0 rfl rfl ?_
    refine AW.aload_n 2 dX10_digit_1 rfl rfl ?_
    refine AW.getI 5 dX10_digit_2 fX10_147 rfl (zI rfl rfl) rfl ?_
    refine AW.topi (nI 1) e5 ?_
    refine AW.ifN_ne 8 25 dX10_digit_5 (by decide) rfl (by omega) (fun b5 => ?_) (fun b5 => absurd b5 (by omega))
    refine AW.iconst 26 (nI 1) dX10_digit_25 (by decide) rfl ?_
    refine AW.goto 30 dX10_digit_26 (by decide) ?_
    refine AW.putI 33 .boolean dX10_digit_30 pX10_147 rfl (zI rfl rfl) rfl rfl rfl ?_
    refine AW.aload_n 34 dX10_digit_33 rfl rfl ?_
    refine AW.getI 37 dX10_digit_34 fX10_147 rfl (zI rfl rfl) rfl ?_
    refine AW.topi (nI 1) (z_st_v _ _ _ _) ?_
    refine AW.ifN_eq 40 44 dX10_digit_37 (by decide) rfl (by omega) (fun b37 => absurd b37 (by omega)) (fun b37 => ?_)
    refine AW.iconst 41 (nI 0) dX10_digit_40 (by decide) rfl ?_
    refine AW.goto 51 dX10_digit_41 (by decide) ?_
    refine AW.istn1 52 dX10_digit_51 (by decide) rfl rfl ?_
    refine AW.aload_n 53 dX10_digit_52 rfl rfl ?_
    refine AW.dup 54 dX10_digit_53 rfl rfl ?_
    refine AW.getI 57 dX10_digit_54 fX10_144 rfl (zI rfl rfl) rfl ?_
    refine AW.topi (nI p) (by rw [z_st_o (by decide)]; exact hs.2) ?_
    refine AW.aload_n 58 dX10_digit_57 rfl rfl ?_
    refine AW.getI 61 dX10_digit_58 fX10_147 rfl (zI rfl rfl) rfl ?_
    refine AW.topi (nI 1) (z_st_v _ _ _ _) ?_
    refine AW.ifN_eq 64 68 dX10_digit_61 (by decide) rfl (by omega) (fun b61 => absurd b61 (by omega)) (fun b61 => ?_)
    refine AW.iconst 65 (nI 0) dX10_digit_64 (by decide) rfl ?_
    refine AW.goto 69 dX10_digit_65 (by decide) ?_
    refine AW.iaddN 70 dX10_digit_69 rfl ?_
    refine AW.putI 73 .int dX10_digit_70 pX10_144 rfl (zI rfl rfl) rfl rfl rfl ?_
    refine AW.iload_n 74 dX10_digit_73 rfl rfl ?_
    refine AW.iret dX10_digit_74 .int rfl rfl rfl ⟨_, rfl, ?_⟩
    exact fin
  | false =>
    have e5 : M 99 3 = nI 0 := hs.1
    refine AMet.of (ini := false) rfl (fun h => by first | rfl | cases h) (Nat.le_of_ble_eq_true rfl) ?_
    show AW l g RX10 cX10_digit 2 (some .int) false _ _ _ 0 [some (.ref 99), none] [] _ _ _
    refine AW.aload_n 1 dX10_digit_0 rfl rfl ?_
    refine AW.aload_n 2 dX10_digit_1 rfl rfl ?_
    refine AW.getI 5 dX10_digit_2 fX10_147 rfl (zI rfl rfl) rfl ?_
    refine AW.topi (nI 0) e5 ?_
    refine AW.ifN_ne 8 25 dX10_digit_5 (by decide) rfl (by omega) (fun b5 => absurd b5 (by omega)) (fun b5 => ?_)
    refine AW.aload_n 9 dX10_digit_8 rfl rfl ?_
    refine AW.cVi0 12 dX10_digit_9 kX10_151 (zI rfl rfl) (Nat.le_of_ble_eq_true rfl) rfl (C_X10_next (p := p) hT hn hs.2 (fun M1 a1 a2 a3 => ?_))
    refine AW.i2l 13 dX10_digit_12 rfl ?_
    refine AW.ldc2 16 (lN 48) dX10_digit_13 qX10_155 rfl ?_
    refine AW.ldc2 19 (lN 51) dX10_digit_16 qX10_157 rfl ?_
    refine AW.cSi3 22 dX10_digit_19 kX10_131 (Nat.le_of_ble_eq_true rfl) rfl (C_in (x := (pp_cu tp n p : Int)) (by rw [Int32.toInt_toInt64]; exact z_ti (by omega)) (z_lN (by decide)) (z_lN (by decide)) (fun b19 => ?_) (fun b19 => ?_))
    · skip
      have e : pp_dig tp n (false, p) = (pp_cu tp n p - 48, (false, pp_sk tp n p + 1)) := by unfold pp_dig; rw [if_neg Bool.false_ne_true, if_pos (show 48 ≤ pp_cu tp n p ∧ pp_cu tp n p ≤ 51 by omega)]
      rw [e] at hQ
      obtain ⟨wv, hw⟩ : ∃ wv : Nat, wv = 0 := ⟨0, rfl⟩
      refine AW.if_ne 25 29 dX10_digit_22 (by decide) rfl (fun _ => ?_) (fun h => absurd h (by decide))
      refine AW.iconst 30 (nI 0) dX10_digit_29 (by decide) rfl ?_
      refine AW.putI 33 .boolean dX10_digit_30 pX10_147 rfl (zI rfl rfl) rfl rfl rfl ?_
      obtain ⟨M3, hM3, x3, x2, xf⟩ : ∃ M3, M3 = z_st M1 99 3 (nI wv) ∧ M3 99 3 = nI wv ∧ M3 99 2 = nI (pp_sk tp n p) ∧ g_fr M M3 := ⟨_, rfl, z_st_v _ _ _ _, by rw [z_st_o (by decide)]; exact a3, g_fr.st3 ⟨a1, fun j h _ => a2 j h⟩ _⟩
      rw [hw] at hM3
      rw [← hM3]
      refine AW.aload_n 34 dX10_digit_33 rfl rfl ?_
      refine AW.getI 37 dX10_digit_34 fX10_147 rfl (zI rfl rfl) rfl ?_
      refine AW.topi (nI wv) x3 ?_
      refine AW.ifN_eq 40 44 dX10_digit_37 (by decide) rfl (by omega) (fun b37 => ?_) (fun b37 => ?_)
      · skip
        refine AW.aload_n 45 dX10_digit_44 rfl rfl ?_
        refine AW.cVi0 48 dX10_digit_45 kX10_151 (zI rfl rfl) (Nat.le_of_ble_eq_true rfl) rfl (C_X10_next (M := M3) (p := pp_sk tp n p) (hT.of xf) hsk.2 x2 (fun M2 c1 c2 c3 => ?_))
        refine AW.topi (nI (pp_cu tp n p)) (by rw [pp_cu_sk hn]) ?_
        refine AW.bipush 50 (nI 48) dX10_digit_48 (by decide) rfl ?_
        refine AW.isubN 51 dX10_digit_50 (by omega) rfl ?_
        refine AW.istn1 52 dX10_digit_51 (by decide) rfl rfl ?_
        refine AW.aload_n 53 dX10_digit_52 rfl rfl ?_
        refine AW.dup 54 dX10_digit_53 rfl rfl ?_
        refine AW.getI 57 dX10_digit_54 fX10_144 rfl (zI rfl rfl) rfl ?_
        refine AW.topi (nI (pp_sk tp n p)) (by first | (rw [c3, pp_sk_sk hn]) | exact x2) ?_
        refine AW.aload_n 58 dX10_digit_57 rfl rfl ?_
        refine AW.getI 61 dX10_digit_58 fX10_147 rfl (zI rfl rfl) rfl ?_
        refine AW.topi (nI wv) (by first | (rw [c2 3 (by decide)]; exact x3) | exact x3) ?_
        refine AW.ifN_eq 64 68 dX10_digit_61 (by decide) rfl (by omega) (fun b61 => ?_) (fun b61 => ?_)
        · skip
          refine AW.iconst 69 (nI 1) dX10_digit_68 (by decide) rfl ?_
          refine AW.iaddN 70 dX10_digit_69 rfl ?_
          refine AW.putI 73 .int dX10_digit_70 pX10_144 rfl (zI rfl rfl) rfl rfl rfl ?_
          refine AW.iload_n 74 dX10_digit_73 rfl rfl ?_
          refine AW.iret dX10_digit_74 .int rfl rfl rfl ⟨_, rfl, ?_⟩
          first
          | (exfalso; omega)
          | (exact hQ _ (g_fr.st2 (xf.tr ⟨c1, fun j h _ => c2 j h⟩) _) ⟨by rw [z_st_o (by decide), c2 3 (by decide), x3, hw]; rfl, z_st_v _ _ _ _⟩)
          | (exact hQ _ (g_fr.st2 xf _) ⟨by rw [z_st_o (by decide), x3, hw]; rfl, z_st_v _ _ _ _⟩)
        · skip
          refine AW.iconst 65 (nI 0) dX10_digit_64 (by decide) rfl ?_
          refine AW.goto 69 dX10_digit_65 (by decide) ?_
          refine AW.iaddN 70 dX10_digit_69 rfl ?_
          refine AW.putI 73 .int dX10_digit_70 pX10_144 rfl (zI rfl rfl) rfl rfl rfl ?_
          refine AW.iload_n 74 dX10_digit_73 rfl rfl ?_
          refine AW.iret dX10_digit_74 .int rfl rfl rfl ⟨_, rfl, ?_⟩
          first
          | (exfalso; omega)
          | (exact hQ _ (g_fr.st2 (xf.tr ⟨c1, fun j h _ => c2 j h⟩) _) ⟨by rw [z_st_o (by decide), c2 3 (by decide), x3, hw]; rfl, z_st_v _ _ _ _⟩)
          | (exact hQ _ (g_fr.st2 xf _) ⟨by rw [z_st_o (by decide), x3, hw]; rfl, z_st_v _ _ _ _⟩)
      · skip
        refine AW.iconst 41 (nI 0) dX10_digit_40 (by decide) rfl ?_
        refine AW.goto 51 dX10_digit_41 (by decide) ?_
        refine AW.istn1 52 dX10_digit_51 (by decide) rfl rfl ?_
        refine AW.aload_n 53 dX10_digit_52 rfl rfl ?_
        refine AW.dup 54 dX10_digit_53 rfl rfl ?_
        refine AW.getI 57 dX10_digit_54 fX10_144 rfl (zI rfl rfl) rfl ?_
        refine AW.topi (nI (pp_sk tp n p)) (by first | (rw [c3, pp_sk_sk hn]) | exact x2) ?_
        refine AW.aload_n 58 dX10_digit_57 rfl rfl ?_
        refine AW.getI 61 dX10_digit_58 fX10_147 rfl (zI rfl rfl) rfl ?_
        refine AW.topi (nI wv) (by first | (rw [c2 3 (by decide)]; exact x3) | exact x3) ?_
        refine AW.ifN_eq 64 68 dX10_digit_61 (by decide) rfl (by omega) (fun b61 => ?_) (fun b61 => ?_)
        · skip
          refine AW.iconst 69 (nI 1) dX10_digit_68 (by decide) rfl ?_
          refine AW.iaddN 70 dX10_digit_69 rfl ?_
          refine AW.putI 73 .int dX10_digit_70 pX10_144 rfl (zI rfl rfl) rfl rfl rfl ?_
          refine AW.iload_n 74 dX10_digit_73 rfl rfl ?_
          refine AW.iret dX10_digit_74 .int rfl rfl rfl ⟨_, rfl, ?_⟩
          first
          | (exfalso; omega)
          | (exact hQ _ (g_fr.st2 (xf.tr ⟨c1, fun j h _ => c2 j h⟩) _) ⟨by rw [z_st_o (by decide), c2 3 (by decide), x3, hw]; rfl, z_st_v _ _ _ _⟩)
          | (exact hQ _ (g_fr.st2 xf _) ⟨by rw [z_st_o (by decide), x3, hw]; rfl, z_st_v _ _ _ _⟩)
        · skip
          refine AW.iconst 65 (nI 0) dX10_digit_64 (by decide) rfl ?_
          refine AW.goto 69 dX10_digit_65 (by decide) ?_
          refine AW.iaddN 70 dX10_digit_69 rfl ?_
          refine AW.putI 73 .int dX10_digit_70 pX10_144 rfl (zI rfl rfl) rfl rfl rfl ?_
          refine AW.iload_n 74 dX10_digit_73 rfl rfl ?_
          refine AW.iret dX10_digit_74 .int rfl rfl rfl ⟨_, rfl, ?_⟩
          first
          | (exfalso; omega)
          | (exact hQ _ (g_fr.st2 (xf.tr ⟨c1, fun j h _ => c2 j h⟩) _) ⟨by rw [z_st_o (by decide), c2 3 (by decide), x3, hw]; rfl, z_st_v _ _ _ _⟩)
          | (exact hQ _ (g_fr.st2 xf _) ⟨by rw [z_st_o (by decide), x3, hw]; rfl, z_st_v _ _ _ _⟩)
    · skip
      have e : pp_dig tp n (false, p) = (0, (true, pp_sk tp n p)) := by unfold pp_dig; rw [if_neg Bool.false_ne_true, if_neg (show ¬ (48 ≤ pp_cu tp n p ∧ pp_cu tp n p ≤ 51) by omega)]
      rw [e] at hQ
      obtain ⟨wv, hw⟩ : ∃ wv : Nat, wv = 1 := ⟨1, rfl⟩
      refine AW.if_ne 25 29 dX10_digit_22 (by decide) rfl (fun h => absurd h (by decide)) (fun _ => ?_)
      refine AW.iconst 26 (nI 1) dX10_digit_25 (by decide) rfl ?_
      refine AW.goto 30 dX10_digit_26 (by decide) ?_
      refine AW.putI 33 .boolean dX10_digit_30 pX10_147 rfl (zI rfl rfl) rfl rfl rfl ?_
      obtain ⟨M3, hM3, x3, x2, xf⟩ : ∃ M3, M3 = z_st M1 99 3 (nI wv) ∧ M3 99 3 = nI wv ∧ M3 99 2 = nI (pp_sk tp n p) ∧ g_fr M M3 := ⟨_, rfl, z_st_v _ _ _ _, by rw [z_st_o (by decide)]; exact a3, g_fr.st3 ⟨a1, fun j h _ => a2 j h⟩ _⟩
      rw [hw] at hM3
      rw [← hM3]
      refine AW.aload_n 34 dX10_digit_33 rfl rfl ?_
      refine AW.getI 37 dX10_digit_34 fX10_147 rfl (zI rfl rfl) rfl ?_
      refine AW.topi (nI wv) x3 ?_
      refine AW.ifN_eq 40 44 dX10_digit_37 (by decide) rfl (by omega) (fun b37 => ?_) (fun b37 => ?_)
      · skip
        refine AW.aload_n 45 dX10_digit_44 rfl rfl ?_
        refine AW.cVi0 48 dX10_digit_45 kX10_151 (zI rfl rfl) (Nat.le_of_ble_eq_true rfl) rfl (C_X10_next (M := M3) (p := pp_sk tp n p) (hT.of xf) hsk.2 x2 (fun M2 c1 c2 c3 => ?_))
        refine AW.topi (nI (pp_cu tp n p)) (by rw [pp_cu_sk hn]) ?_
        refine AW.bipush 50 (nI 48) dX10_digit_48 (by decide) rfl ?_
        refine AW.isubN 51 dX10_digit_50 (by omega) rfl ?_
        refine AW.istn1 52 dX10_digit_51 (by decide) rfl rfl ?_
        refine AW.aload_n 53 dX10_digit_52 rfl rfl ?_
        refine AW.dup 54 dX10_digit_53 rfl rfl ?_
        refine AW.getI 57 dX10_digit_54 fX10_144 rfl (zI rfl rfl) rfl ?_
        refine AW.topi (nI (pp_sk tp n p)) (by first | (rw [c3, pp_sk_sk hn]) | exact x2) ?_
        refine AW.aload_n 58 dX10_digit_57 rfl rfl ?_
        refine AW.getI 61 dX10_digit_58 fX10_147 rfl (zI rfl rfl) rfl ?_
        refine AW.topi (nI wv) (by first | (rw [c2 3 (by decide)]; exact x3) | exact x3) ?_
        refine AW.ifN_eq 64 68 dX10_digit_61 (by decide) rfl (by omega) (fun b61 => ?_) (fun b61 => ?_)
        · skip
          refine AW.iconst 69 (nI 1) dX10_digit_68 (by decide) rfl ?_
          refine AW.iaddN 70 dX10_digit_69 rfl ?_
          refine AW.putI 73 .int dX10_digit_70 pX10_144 rfl (zI rfl rfl) rfl rfl rfl ?_
          refine AW.iload_n 74 dX10_digit_73 rfl rfl ?_
          refine AW.iret dX10_digit_74 .int rfl rfl rfl ⟨_, rfl, ?_⟩
          first
          | (exfalso; omega)
          | (exact hQ _ (g_fr.st2 (xf.tr ⟨c1, fun j h _ => c2 j h⟩) _) ⟨by rw [z_st_o (by decide), c2 3 (by decide), x3, hw]; rfl, z_st_v _ _ _ _⟩)
          | (exact hQ _ (g_fr.st2 xf _) ⟨by rw [z_st_o (by decide), x3, hw]; rfl, z_st_v _ _ _ _⟩)
        · skip
          refine AW.iconst 65 (nI 0) dX10_digit_64 (by decide) rfl ?_
          refine AW.goto 69 dX10_digit_65 (by decide) ?_
          refine AW.iaddN 70 dX10_digit_69 rfl ?_
          refine AW.putI 73 .int dX10_digit_70 pX10_144 rfl (zI rfl rfl) rfl rfl rfl ?_
          refine AW.iload_n 74 dX10_digit_73 rfl rfl ?_
          refine AW.iret dX10_digit_74 .int rfl rfl rfl ⟨_, rfl, ?_⟩
          first
          | (exfalso; omega)
          | (exact hQ _ (g_fr.st2 (xf.tr ⟨c1, fun j h _ => c2 j h⟩) _) ⟨by rw [z_st_o (by decide), c2 3 (by decide), x3, hw]; rfl, z_st_v _ _ _ _⟩)
          | (exact hQ _ (g_fr.st2 xf _) ⟨by rw [z_st_o (by decide), x3, hw]; rfl, z_st_v _ _ _ _⟩)
      · skip
        refine AW.iconst 41 (nI 0) dX10_digit_40 (by decide) rfl ?_
        refine AW.goto 51 dX10_digit_41 (by decide) ?_
        refine AW.istn1 52 dX10_digit_51 (by decide) rfl rfl ?_
        refine AW.aload_n 53 dX10_digit_52 rfl rfl ?_
        refine AW.dup 54 dX10_digit_53 rfl rfl ?_
        refine AW.getI 57 dX10_digit_54 fX10_144 rfl (zI rfl rfl) rfl ?_
        refine AW.topi (nI (pp_sk tp n p)) (by first | (rw [c3, pp_sk_sk hn]) | exact x2) ?_
        refine AW.aload_n 58 dX10_digit_57 rfl rfl ?_
        refine AW.getI 61 dX10_digit_58 fX10_147 rfl (zI rfl rfl) rfl ?_
        refine AW.topi (nI wv) (by first | (rw [c2 3 (by decide)]; exact x3) | exact x3) ?_
        refine AW.ifN_eq 64 68 dX10_digit_61 (by decide) rfl (by omega) (fun b61 => ?_) (fun b61 => ?_)
        · skip
          refine AW.iconst 69 (nI 1) dX10_digit_68 (by decide) rfl ?_
          refine AW.iaddN 70 dX10_digit_69 rfl ?_
          refine AW.putI 73 .int dX10_digit_70 pX10_144 rfl (zI rfl rfl) rfl rfl rfl ?_
          refine AW.iload_n 74 dX10_digit_73 rfl rfl ?_
          refine AW.iret dX10_digit_74 .int rfl rfl rfl ⟨_, rfl, ?_⟩
          first
          | (exfalso; omega)
          | (exact hQ _ (g_fr.st2 (xf.tr ⟨c1, fun j h _ => c2 j h⟩) _) ⟨by rw [z_st_o (by decide), c2 3 (by decide), x3, hw]; rfl, z_st_v _ _ _ _⟩)
          | (exact hQ _ (g_fr.st2 xf _) ⟨by rw [z_st_o (by decide), x3, hw]; rfl, z_st_v _ _ _ _⟩)
        · skip
          refine AW.iconst 65 (nI 0) dX10_digit_64 (by decide) rfl ?_
          refine AW.goto 69 dX10_digit_65 (by decide) ?_
          refine AW.iaddN 70 dX10_digit_69 rfl ?_
          refine AW.putI 73 .int dX10_digit_70 pX10_144 rfl (zI rfl rfl) rfl rfl rfl ?_
          refine AW.iload_n 74 dX10_digit_73 rfl rfl ?_
          refine AW.iret dX10_digit_74 .int rfl rfl rfl ⟨_, rfl, ?_⟩
          first
          | (exfalso; omega)
          | (exact hQ _ (g_fr.st2 (xf.tr ⟨c1, fun j h _ => c2 j h⟩) _) ⟨by rw [z_st_o (by decide), c2 3 (by decide), x3, hw]; rfl, z_st_v _ _ _ _⟩)
          | (exact hQ _ (g_fr.st2 xf _) ⟨by rw [z_st_o (by decide), x3, hw]; rfl, z_st_v _ _ _ _⟩)
end MPARSE
