/-! THE LAW: its loop and its start. -/
theorem z_s6 {L : Nat} (h : L ≤ 3072) : (nI L - nI 6).toInt = (L : Int) - 6 := by
  have e1 : (nI L).toInt = (L : Int) := z_ti (by omega)
  have e2 : (nI 6).toInt = 6 := by decide
  rw [z_sub_toInt _ _ (by omega) (by omega), e1, e2]
theorem z_63i : ∀ j, j < 32 → (nI 63).toBitVec.getLsbD j = decide (j < 6) := by decide +kernel
theorem z_63 (x : Int32) : ∃ c, c < 64 ∧ x &&& nI 63 = nI c := by
  refine ⟨(x.toBitVec.extractLsb' 0 6).toNat, (x.toBitVec.extractLsb' 0 6).isLt, ?_⟩
  apply Int32.toBitVec_inj.mp
  apply BitVec.eq_of_getLsbD_eq
  intro j hj
  rw [Int32.toBitVec_and, BitVec.getLsbD_and, z_63i j hj]
  show _ = (BitVec.ofNat 32 (x.toBitVec.extractLsb' 0 6).toNat).getLsbD j
  rw [BitVec.getLsbD_ofNat]
  show _ = (decide (j < 32) && (x.toBitVec.extractLsb' 0 6).getLsbD j)
  rw [BitVec.getLsbD_extractLsb']
  by_cases h6 : j < 6
  · simp [h6, hj]
  · simp [h6]
section LAW2
variable {l : Launch} {g : zG} {Q : Int32 → zS → zM → Prop}
theorem L_sw {i c m0 m1 md : Nat} {M : zM} (hI : Inv m0 m1 md M) (hi : i + 6 ≤ gL g) (hL : gL g ≤ 3072) (hn : ∀ a b c M2, Inv a b c M2 → z_LW l g Q 1342 i (ZS a b c) M2) (hc : c < 64) :
    AW l g R_law cL_law 4 (some .boolean) false 30 0 0 33 [some (.ref (1000000 + 4)), some (.ref 0), some (.ref 99), some (.int (nI i))] [.int (nI c)] (ZS m0 m1 md) M (z_Qi Q) := by
  match c, hc with
  | 0, _ => exact AW.tabIn 192 dL_law_33 (by decide) (by decide) rfl (by decide) (K_0 hI hi hL hn)
  | 1, _ => exact AW.tabIn 255 dL_law_33 (by decide) (by decide) rfl (by decide) (K_1 hI hi hL hn)
  | 2, _ => exact AW.tabIn 278 dL_law_33 (by decide) (by decide) rfl (by decide) (K_2 hI hi hL hn)
  | 3, _ => exact AW.tabIn 321 dL_law_33 (by decide) (by decide) rfl (by decide) (K_3 hI hi hL hn)
  | 4, _ => exact AW.tabIn 344 dL_law_33 (by decide) (by decide) rfl (by decide) (K_4 hI hi hL hn)
  | 5, _ => exact AW.tabIn 387 dL_law_33 (by decide) (by decide) rfl (by decide) (K_5 hI hi hL hn)
  | 6, _ => exact AW.tabIn 430 dL_law_33 (by decide) (by decide) rfl (by decide) (K_6 hI hi hL hn)
  | 7, _ => exact AW.tabIn 463 dL_law_33 (by decide) (by decide) rfl (by decide) (K_7 hI hi hL hn)
  | 8, _ => exact AW.tabIn 506 dL_law_33 (by decide) (by decide) rfl (by decide) (K_8 hI hi hL hn)
  | 9, _ => exact AW.tabIn 559 dL_law_33 (by decide) (by decide) rfl (by decide) (K_9 hI hi hL hn)
  | 10, _ => exact AW.tabIn 582 dL_law_33 (by decide) (by decide) rfl (by decide) (K_10 hI hi hL hn)
  | 11, _ => exact AW.tabIn 615 dL_law_33 (by decide) (by decide) rfl (by decide) (K_11 hI hi hL hn)
  | 12, _ => exact AW.tabIn 648 dL_law_33 (by decide) (by decide) rfl (by decide) (K_12 hI hi hL hn)
  | 13, _ => exact AW.tabIn 681 dL_law_33 (by decide) (by decide) rfl (by decide) (K_13 hI hi hL hn)
  | 14, _ => exact AW.tabIn 714 dL_law_33 (by decide) (by decide) rfl (by decide) (K_14 hI hi hL hn)
  | 15, _ => exact AW.tabIn 737 dL_law_33 (by decide) (by decide) rfl (by decide) (K_15 hI hi hL hn)
  | 16, _ => exact AW.tabIn 760 dL_law_33 (by decide) (by decide) rfl (by decide) (K_16 hI hi hL hn)
  | 17, _ => exact AW.tabIn 793 dL_law_33 (by decide) (by decide) rfl (by decide) (K_17 hI hi hL hn)
  | 18, _ => exact AW.tabIn 806 dL_law_33 (by decide) (by decide) rfl (by decide) (K_18 hI hi hL hn)
  | 19, _ => exact AW.tabIn 819 dL_law_33 (by decide) (by decide) rfl (by decide) (K_19 hI hi hL hn)
  | 20, _ => exact AW.tabIn 842 dL_law_33 (by decide) (by decide) rfl (by decide) (K_20 hI hi hL hn)
  | 21, _ => exact AW.tabIn 875 dL_law_33 (by decide) (by decide) rfl (by decide) (K_21 hI hi hL hn)
  | 22, _ => exact AW.tabIn 918 dL_law_33 (by decide) (by decide) rfl (by decide) (K_22 hI hi hL hn)
  | 23, _ => exact AW.tabIn 931 dL_law_33 (by decide) (by decide) rfl (by decide) (K_23 hI hi hL hn)
  | 24, _ => exact AW.tabIn 954 dL_law_33 (by decide) (by decide) rfl (by decide) (K_24 hI hi hL hn)
  | 25, _ => exact AW.tabIn 967 dL_law_33 (by decide) (by decide) rfl (by decide) (K_25 hI hi hL hn)
  | 26, _ => exact AW.tabIn 980 dL_law_33 (by decide) (by decide) rfl (by decide) (K_26 hI hi hL hn)
  | 27, _ => exact AW.tabIn 1003 dL_law_33 (by decide) (by decide) rfl (by decide) (K_27 hI hi hL hn)
  | 28, _ => exact AW.tabIn 1026 dL_law_33 (by decide) (by decide) rfl (by decide) (K_28 hI hi hL hn)
  | 29, _ => exact AW.tabIn 1059 dL_law_33 (by decide) (by decide) rfl (by decide) (K_29 hI hi hL hn)
  | 30, _ => exact AW.tabIn 1134 dL_law_33 (by decide) (by decide) rfl (by decide) (K_30 hI hi hL hn)
  | 31, _ => exact AW.tabIn 1147 dL_law_33 (by decide) (by decide) rfl (by decide) (K_31 hI hi hL hn)
  | 32, _ => exact AW.tabIn 1160 dL_law_33 (by decide) (by decide) rfl (by decide) (K_32 hI hi hL hn)
  | 33, _ => exact AW.tabIn 1203 dL_law_33 (by decide) (by decide) rfl (by decide) (K_33 hI hi hL hn)
  | 34, _ => exact AW.tabIn 1226 dL_law_33 (by decide) (by decide) rfl (by decide) (K_34 hI hi hL hn)
  | 35, _ => exact AW.tabIn 1279 dL_law_33 (by decide) (by decide) rfl (by decide) (K_35 hI hi hL hn)
  | c + 36, hc =>
    have h : ((nI (c + 36)).toInt) = ((c + 36 : Nat) : Int) := nI_toInt (by omega)
    exact AW.tabOut 1342 dL_law_33 (Or.inr (by rw [h]; omega)) (by decide) (hn _ _ _ _ hI)
theorem L_loop (hL : gL g ≤ 3072) (hQ : ∀ S M, Q (nI 1) S M) : ∀ (q i : Nat), gL g < i + 6 * q + 6 → i ≤ 3078 → ∀ m0 m1 md M, Inv m0 m1 md M → z_LW l g Q 18 i (ZS m0 m1 md) M := by
  intro q
  induction q with
  | zero =>
    intro i hi hi2 m0 m1 md M hI
    refine AW.iload_n 19 dL_law_18 rfl rfl ?_
    refine AW.aload_n 20 dL_law_19 rfl rfl ?_
    refine AW.elen 21 dL_law_20 (by decide) rfl ?_
    refine AW.topi (nI (gL g)) rfl ?_
    refine AW.bipush 23 (nI 6) dL_law_21 (by decide) rfl ?_
    refine AW.isub 24 dL_law_23 rfl ?_
    refine AW.zicmp_gt 27 1348 dL_law_24 (by decide) rfl (z_ti (by omega)) (z_s6 hL) (fun b24 => ?_) (fun b24 => absurd (by omega) b24)
    refine AW.iconst 1349 (nI 1) dL_law_1348 (by decide) rfl ?_
    refine AW.iret dL_law_1349 .boolean rfl rfl rfl ⟨_, rfl, ?_⟩
    exact hQ _ _
  | succ q ih =>
    intro i hi hi2 m0 m1 md M hI
    by_cases h6 : i + 6 ≤ gL g
    · have hn : ∀ a b c M2, Inv a b c M2 → z_LW l g Q 1342 i (ZS a b c) M2 := fun a b c M2 h => by
        refine AW.iinc3 1345 _ dL_law_1342 (z_inc6 _) (by decide) rfl rfl ?_
        refine AW.goto 18 dL_law_1345 (by decide) ?_
        exact ih (i + 6) (by omega) (by omega) a b c M2 h
      refine AW.iload_n 19 dL_law_18 rfl rfl ?_
      refine AW.aload_n 20 dL_law_19 rfl rfl ?_
      refine AW.elen 21 dL_law_20 (by decide) rfl ?_
      refine AW.topi (nI (gL g)) rfl ?_
      refine AW.bipush 23 (nI 6) dL_law_21 (by decide) rfl ?_
      refine AW.isub 24 dL_law_23 rfl ?_
      refine AW.zicmp_gt 27 1348 dL_law_24 (by decide) rfl (z_ti (by omega)) (z_s6 hL) (fun b24 => absurd b24 (by omega)) (fun b24 => ?_)
      refine AW.aload_n 28 dL_law_27 rfl rfl ?_
      refine AW.iload_n 29 dL_law_28 rfl rfl ?_
      refine AW.eald 30 dL_law_29 (by decide) rfl (show _ < gL g by omega) (show gL g < 2 ^ 31 by omega) rfl ?_
      refine AW.bipush 32 (nI 63) dL_law_30 (by decide) rfl ?_
      refine AW.iand 33 dL_law_32 rfl ?_
      obtain ⟨c, hc, e⟩ := z_63 (z_ev g 4 i)
      rw [e]
      exact L_sw hI h6 hL hn hc
    · skip
      refine AW.iload_n 19 dL_law_18 rfl rfl ?_
      refine AW.aload_n 20 dL_law_19 rfl rfl ?_
      refine AW.elen 21 dL_law_20 (by decide) rfl ?_
      refine AW.topi (nI (gL g)) rfl ?_
      refine AW.bipush 23 (nI 6) dL_law_21 (by decide) rfl ?_
      refine AW.isub 24 dL_law_23 rfl ?_
      refine AW.zicmp_gt 27 1348 dL_law_24 (by decide) rfl (z_ti (by omega)) (z_s6 hL) (fun b24 => ?_) (fun b24 => absurd (by omega) b24)
      refine AW.iconst 1349 (nI 1) dL_law_1348 (by decide) rfl ?_
      refine AW.iret dL_law_1349 .boolean rfl rfl rfl ⟨_, rfl, ?_⟩
      exact hQ _ _
def zS0 : zS := (0, fun _ => (0, 0), fun _ _ => none)
def zM0 : zM := fun _ _ => 0
theorem L_start (hL : gL g ≤ 3072) (hQ : ∀ S M, Q (nI 1) S M) : AW l g R_law cL_law 4 (some .boolean) false 30 137 6589 0 [some (.ref (1000000 + 4)), none, none, none] [] zS0 zM0 (z_Qi Q) := by
  refine AW.new 3 136 6573 dL_law_0 nL_7 rfl rfl (Nat.le_of_ble_eq_true rfl) rfl ?_
  refine AW.sim (S' := zP 1 0 0 0 0) (M' := zMc) (z_sim_of (by decide +kernel)) ?_
  refine AW.dup 4 dL_law_3 rfl rfl ?_
  refine AW.cI0 7 38 5120 dL_law_4 kL_9 rfl (Nat.le_of_ble_eq_true rfl) rfl rfl rfl (C_X9_init ?_)
  refine AW.astn1 8 dL_law_7 (by decide) rfl rfl ?_
  refine AW.new 11 37 5074 dL_law_8 nL_10 rfl rfl (Nat.le_of_ble_eq_true rfl) rfl ?_
  refine AW.sim (S' := zQ 100) (M' := zMd) (z_sim_of (by decide +kernel)) ?_
  refine AW.dup 12 dL_law_11 rfl rfl ?_
  refine AW.cI0 15 0 0 dL_law_12 kL_12 rfl (Nat.le_of_ble_eq_true rfl) rfl rfl rfl (C_X10_init ?_)
  refine AW.astn2 16 dL_law_15 (by decide) rfl rfl ?_
  refine AW.iconst 17 (nI 0) dL_law_16 (by decide) rfl ?_
  refine AW.istn3 18 dL_law_17 (by decide) rfl rfl ?_
  exact L_loop hL hQ 512 0 (by omega) (by omega) 20 33 46 zMZ Inv_0
end LAW2
