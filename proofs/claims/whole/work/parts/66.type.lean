/-- byte k of a long -/
def z_by (w : Int64) (k : Nat) : Nat := (w.toBitVec.extractLsb' (8 * k) 8).toNat
theorem z_by_lt (w : Int64) (k : Nat) : z_by w k < 256 := (w.toBitVec.extractLsb' (8 * k) 8).isLt
theorem z_by_bit (w : Int64) (k j : Nat) : (z_by w k).testBit j = (decide (j < 8) && w.toBitVec.getLsbD (8 * k + j)) := by
  unfold z_by
  show (w.toBitVec.extractLsb' (8 * k) 8).getLsbD j = _
  rw [BitVec.getLsbD_extractLsb']
theorem z_s64 : ∀ k, k < 8 → (((nI (8 * k)).toInt64 &&& 63).toBitVec.smod 64).toNat = 8 * k := by decide +kernel
theorem z_u64 : ∀ k, k < 8 → (((nI (8 * k)).toInt64.toUInt64 &&& Int64.toUInt64 63).toBitVec % 64).toNat = 8 * k := by decide +kernel
theorem z_255l : ∀ j, j < 64 → (lN 255).toBitVec.getLsbD j = decide (j < 8) := by decide +kernel
theorem z_255i : ∀ j, j < 32 → (nI 255).toBitVec.getLsbD j = decide (j < 8) := by decide +kernel
theorem z_byR (w : Int64) {k : Nat} (hk : k < 8) : (w >>> ((nI (8 * k)).toInt64 &&& 63)) &&& lN 255 = lN (z_by w k) := by
  apply Int64.toBitVec_inj.mp
  apply BitVec.eq_of_getLsbD_eq
  intro j hj
  rw [Int64.toBitVec_and, BitVec.getLsbD_and, z_255l j hj, Int64.toBitVec_shiftRight]
  show ((w.toBitVec.sshiftRight (((nI (8 * k)).toInt64 &&& 63).toBitVec.smod 64).toNat).getLsbD j && _) = (BitVec.ofNat 64 (z_by w k)).getLsbD j
  rw [z_s64 k hk, BitVec.getLsbD_sshiftRight, BitVec.getLsbD_ofNat, z_by_bit]
  by_cases h8 : j < 8
  · simp [h8, hj, show 8 * k + j < 64 by omega]
  · simp [h8]
theorem z_byC (w : Int64) {k : Nat} (hk : k < 8) : ((w.toUInt64 >>> ((nI (8 * k)).toInt64.toUInt64 &&& Int64.toUInt64 63)).toInt64).toInt32 &&& nI 255 = nI (z_by w k) := by
  apply Int32.toBitVec_inj.mp
  apply BitVec.eq_of_getLsbD_eq
  intro j hj
  rw [Int32.toBitVec_and, BitVec.getLsbD_and, z_255i j hj]
  show ((((w.toUInt64 >>> ((nI (8 * k)).toInt64.toUInt64 &&& Int64.toUInt64 63)).toInt64).toInt32).toBitVec.getLsbD j && _) = (BitVec.ofNat 32 (z_by w k)).getLsbD j
  have e : (((w.toUInt64 >>> ((nI (8 * k)).toInt64.toUInt64 &&& Int64.toUInt64 63)).toInt64).toInt32).toBitVec = (w.toBitVec >>> (8 * k)).signExtend 32 := by
    show ((w.toUInt64 >>> ((nI (8 * k)).toInt64.toUInt64 &&& Int64.toUInt64 63)).toBitVec).signExtend 32 = _
    rw [UInt64.toBitVec_shiftRight]
    show (w.toUInt64.toBitVec >>> (((nI (8 * k)).toInt64.toUInt64 &&& Int64.toUInt64 63).toBitVec % 64).toNat).signExtend 32 = _
    rw [z_u64 k hk]
    rfl
  rw [e, BitVec.getLsbD_signExtend, BitVec.getLsbD_ofNat, z_by_bit]
  by_cases h8 : j < 8
  · simp [h8, hj, show j < 64 by omega]
  · simp [h8]
theorem z_byI {b : Nat} (h : b < 256) : (lN b).toInt32 = nI b := by
  have : ∀ b, b < 256 → (lN b).toInt32 = nI b := by decide +kernel
  exact this b h
def z_ty (w : Int64) (n : Int32) (k : Nat) : Prop := n = nI k ∧ 1 ≤ k ∧ k ≤ 8 ∧ ∀ i, i < k → 32 ≤ z_by w i ∧ z_by w i ≤ 126
section TYPE
variable {l : Launch} {g : zG} {d m0 m1 md : Nat} {M : zM} {T : Nat} {w : Int64}
theorem L_X10_type1 {nn : Nat} (hn : nn ≤ 8) {Q : Int32 → zS → zM → Prop} (bad : (∃ i, i < nn ∧ ¬ (32 ≤ z_by w i ∧ z_by w i ≤ 126)) → Q (-1) (ZS m0 m1 md) M) (good : (∀ i, i < nn → 32 ≤ z_by w i ∧ z_by w i ≤ 126) → AW l g RX10 cX10_type 5 (some .int) false (d + 1) 0 0 54 [some (.ref 99), some (.long w), none, some (.int (nI nn)), some (.int (nI nn))] [] (ZS m0 m1 md) M (z_Qi Q)) :
    ∀ (q k : Nat), k + q = nn → (∀ i, i < k → 32 ≤ z_by w i ∧ z_by w i ≤ 126) → AW l g RX10 cX10_type 5 (some .int) false (d + 1) 0 0 17 [some (.ref 99), some (.long w), none, some (.int (nI nn)), some (.int (nI k))] [] (ZS m0 m1 md) M (z_Qi Q) := by
  intro q
  induction q with
  | zero =>
    intro k hk h
    have hk : k = nn := by omega
    subst hk
    refine AW.iload 19 dX10_type_17 rfl rfl ?_
    refine AW.iload_n 20 dX10_type_19 rfl rfl ?_
    refine AW.icmpN_ge 23 54 dX10_type_20 (by decide) rfl (by omega) (by omega) (fun b20 => ?_) (fun b20 => absurd b20 (by omega))
    exact good h
  | succ q ih =>
    intro k hk h
    have b8 := z_by_lt w k
    refine AW.iload 19 dX10_type_17 rfl rfl ?_
    refine AW.iload_n 20 dX10_type_19 rfl rfl ?_
    refine AW.icmpN_ge 23 54 dX10_type_20 (by decide) rfl (by omega) (by omega) (fun b20 => absurd b20 (by omega)) (fun b20 => ?_)
    refine AW.lload_n 24 dX10_type_23 rfl rfl ?_
    refine AW.bipush 26 (nI 8) dX10_type_24 (by decide) rfl ?_
    refine AW.iload 28 dX10_type_26 rfl rfl ?_
    refine AW.imulN 29 dX10_type_28 rfl ?_
    refine AW.lshr 30 dX10_type_29 rfl ?_
    refine AW.ldc2 33 (lN 255) dX10_type_30 qX10_135 rfl ?_
    refine AW.land 34 dX10_type_33 rfl ?_
    refine AW.ldc2 37 (lN 32) dX10_type_34 qX10_137 rfl ?_
    refine AW.ldc2 40 (lN 126) dX10_type_37 qX10_139 rfl ?_
    refine AW.cSi3 43 dX10_type_40 kX10_131 (Nat.le_of_ble_eq_true rfl) rfl (C_in (x := (z_by w k : Int)) (by rw [z_byR w (by omega)]; exact z_lN (by omega)) (z_lN (by decide)) (z_lN (by decide)) (fun b40 => ?_) (fun b40 => ?_))
    · skip
      refine AW.if_ne 46 48 dX10_type_43 (by decide) rfl (fun _ => ?_) (fun h => absurd h (by decide))
      refine AW.iinc4 51 _ dX10_type_48 (z_inc1 _) (by decide) rfl rfl ?_
      refine AW.goto 17 dX10_type_51 (by decide) ?_
      exact ih (k + 1) (by omega) (fun i hi => (Classical.em (i = k)).elim (fun e => by subst e; omega) (fun e => h i (by omega)))
    · skip
      refine AW.if_ne 46 48 dX10_type_43 (by decide) rfl (fun h => absurd h (by decide)) (fun _ => ?_)
      refine AW.iconst 47 (-1) dX10_type_46 (by decide) rfl ?_
      refine AW.iret dX10_type_47 .int rfl rfl rfl ⟨_, rfl, ?_⟩
      exact bad ⟨k, by omega, by omega⟩
theorem L_X10_type2 {nn : Nat} (hn : nn ≤ 8) (hT : M 99 1 = nI T) (hT2 : T + nn ≤ 120) {Q : Int32 → zS → zM → Prop} (hQ : ∀ M', (∀ c, c ≠ 99 → c ≠ 100 → M' c = M c) → (∀ j, j ≠ 1 → M' 99 j = M 99 j) → M' 99 1 = nI (T + nn) → (∀ j, j < T → M' 100 j = M 100 j) → (∀ j, j < nn → M' 100 (T + j) = nI (z_by w (nn - 1 - j))) → Q (nI (T + nn)) (ZS m0 m1 md) M') :
    ∀ j, j ≤ nn → ∀ M' : zM, (∀ c, c ≠ 99 → c ≠ 100 → M' c = M c) → (∀ j, j ≠ 1 → M' 99 j = M 99 j) → M' 99 1 = nI (T + (nn - j)) → (∀ i, i < T → M' 100 i = M 100 i) → (∀ i, i < nn - j → M' 100 (T + i) = nI (z_by w (nn - 1 - i))) → AW l g RX10 cX10_type 5 (some .int) false d 0 0 73 [some (.ref 99), some (.long w), none, some (.int (nI nn)), some (.int (z_pm j))] [] (ZS m0 m1 md) M' (z_Qi Q) := by
  intro j
  induction j with
  | zero =>
    intro hj M' f1 f2 h1 h2 h3
    rw [Nat.sub_zero] at h1 h3
    show AW l g RX10 cX10_type 5 (some .int) false d 0 0 73 [some (.ref 99), some (.long w), none, some (.int (nI nn)), some (.int (-1))] [] (ZS m0 m1 md) M' (z_Qi Q)
    refine AW.iload 75 dX10_type_73 rfl rfl ?_
    refine AW.if_lt 78 115 dX10_type_75 (by decide) rfl (fun _ => ?_) (fun h => absurd h (by decide))
    refine AW.aload_n 116 dX10_type_115 rfl rfl ?_
    refine AW.getI 119 dX10_type_116 fX10_141 rfl (zI rfl rfl) rfl ?_
    refine AW.topi (nI (T + nn)) h1 ?_
    refine AW.iret dX10_type_119 .int rfl rfl rfl ⟨_, rfl, ?_⟩
    exact hQ M' f1 f2 h1 h2 h3
  | succ j ih =>
    intro hj M' f1 f2 h1 h2 h3
    have qd := z_pm_dec (n := j) (by omega)
    have b8 := z_by_lt w j
    have eby : ((w >>> ((nI (8 * j)).toInt64 &&& 63)) &&& lN 255).toInt32 = nI (z_by w j) := by rw [z_byR w (by omega), z_byI b8]
    show AW l g RX10 cX10_type 5 (some .int) false d 0 0 73 [some (.ref 99), some (.long w), none, some (.int (nI nn)), some (.int (nI j))] [] (ZS m0 m1 md) M' (z_Qi Q)
    refine AW.iload 75 dX10_type_73 rfl rfl ?_
    refine AW.ifN_lt 78 115 dX10_type_75 (by decide) rfl (by omega) (fun b75 => absurd b75 (by omega)) (fun b75 => ?_)
    refine AW.aload_n 79 dX10_type_78 rfl rfl ?_
    refine AW.getR 82 dX10_type_79 fX10_7 rfl (zI rfl rfl) rfl rfl ?_
    refine AW.aload_n 83 dX10_type_82 rfl rfl ?_
    refine AW.getI 86 dX10_type_83 fX10_141 rfl (zI rfl rfl) rfl ?_
    refine AW.topi (nI (T + (nn - (j + 1)))) h1 ?_
    refine AW.lload_n 87 dX10_type_86 rfl rfl ?_
    refine AW.bipush 89 (nI 8) dX10_type_87 (by decide) rfl ?_
    refine AW.iload 91 dX10_type_89 rfl rfl ?_
    refine AW.imulN 92 dX10_type_91 rfl ?_
    refine AW.lshr 93 dX10_type_92 rfl ?_
    refine AW.ldc2 96 (lN 255) dX10_type_93 qX10_135 rfl ?_
    refine AW.land 97 dX10_type_96 rfl ?_
    refine AW.l2i 98 dX10_type_97 rfl ?_
    refine AW.topi (nI (z_by w j)) eby ?_
    refine AW.iast 99 dX10_type_98 (zA rfl rfl) rfl (by omega) (by decide) rfl ?_
    refine AW.aload_n 100 dX10_type_99 rfl rfl ?_
    refine AW.dup 101 dX10_type_100 rfl rfl ?_
    refine AW.getI 104 dX10_type_101 fX10_141 rfl (zI rfl rfl) rfl ?_
    refine AW.topi (nI (T + (nn - (j + 1)))) (by rw [z_st_ne (by decide)]; exact h1) ?_
    refine AW.iconst 105 (nI 1) dX10_type_104 (by decide) rfl ?_
    refine AW.iaddN 106 dX10_type_105 rfl ?_
    refine AW.putI 109 .int dX10_type_106 pX10_141 rfl (zI rfl rfl) rfl rfl rfl ?_
    refine AW.iinc4 112 (z_pm j) dX10_type_109 qd (by decide) rfl rfl ?_
    refine AW.goto 73 dX10_type_112 (by decide) ?_
    refine ih (by omega) _ (fun c c1 c2 => by rw [z_st_ne c1, z_st_ne c2]; exact f1 c c1 c2) (fun i hi => by rw [z_st_o hi, z_st_ne (by decide)]; exact f2 i hi) (by rw [z_st_v]; congr 1; omega) (fun i hi => by rw [z_st_ne (by decide), z_st_o (by omega)]; exact h2 i hi) (fun i hi => ?_)
    rw [z_st_ne (by decide)]
    by_cases e : i = nn - (j + 1)
    · subst e; rw [z_st_v]; congr 2; omega
    · rw [z_st_o (by omega)]; exact h3 i (by omega)
theorem C_X10_type (hT : M 99 1 = nI T) (hT2 : T ≤ 120) {n : Int32} {Q : Int32 → zS → zM → Prop} (hbad : (¬ ∃ k, z_ty w n k) → Q (-1) (ZS m0 m1 md) M) (hfull : ∀ k, z_ty w n k → 120 < T + k → Q (-3) (ZS m0 m1 md) M)
    (hok : ∀ k, z_ty w n k → T + k ≤ 120 → ∀ M', (∀ c, c ≠ 99 → c ≠ 100 → M' c = M c) → (∀ j, j ≠ 1 → M' 99 j = M 99 j) → M' 99 1 = nI (T + k) → (∀ j, j < T → M' 100 j = M 100 j) → (∀ j, j < k → M' 100 (T + j) = nI (z_by w (k - 1 - j))) → Q (nI (T + k)) (ZS m0 m1 md) M') :
    AMet l g yX10_type cX10_type 5 (some .int) (d + 1) 0 0 [.ref 99, .long w, .int n] (ZS m0 m1 md) M (z_Qi Q) := by
  have nI_in : ∀ a b : Nat, a < 200 → b < 200 → nI a = nI b → a = b := fun a b ha hb h => by
    have := congrArg Int32.toInt h
    rw [z_ti (by omega), z_ti (by omega)] at this
    omega
  refine AMet.of (ini := false) rfl (fun h => by first | rfl | cases h) (Nat.le_of_ble_eq_true rfl) ?_
  show AW l g RX10 cX10_type 5 (some .int) false _ _ _ 0 [some (.ref 99), some (.long w), none, some (.int n), none] [] _ _ _
  refine AW.iload_n 1 dX10_type_0 rfl rfl ?_
  refine AW.i2l 2 dX10_type_1 rfl ?_
  refine AW.lconst 3 (lN 1) dX10_type_2 rfl rfl ?_
  refine AW.ldc2 6 (lN 8) dX10_type_3 qX10_129 rfl ?_
  refine AW.cSi3 9 dX10_type_6 kX10_131 (Nat.le_of_ble_eq_true rfl) rfl (C_in (Int32.toInt_toInt64 _) (z_lN (by decide)) (z_lN (by decide)) (fun b6 => ?_) (fun b6 => ?_))
  · skip
    obtain ⟨k, hk, rfl, hk2⟩ := z_nI (v := n) (n := 8) (by omega) (by omega)
    refine AW.if_ne 12 14 dX10_type_9 (by decide) rfl (fun _ => ?_) (fun h => absurd h (by decide))
    refine AW.iconst 15 (nI 0) dX10_type_14 (by decide) rfl ?_
    refine AW.ist4 17 dX10_type_15 (by decide) rfl rfl ?_
    refine L_X10_type1 (by omega) (fun h => ?_) (fun h => ?_) k 0 (by omega) (fun i hi => absurd hi (by omega))
    · exact hbad (fun ⟨k', e1, e2, e3, e4⟩ => by
        have e5 := nI_in k k' (by omega) (by omega) e1
        obtain ⟨i, i1, i2⟩ := h
        exact i2 (e4 i (by omega)))
    · have hty : z_ty w (nI k) k := ⟨rfl, by omega, by omega, h⟩
      refine AW.aload_n 55 dX10_type_54 rfl rfl ?_
      refine AW.getI 58 dX10_type_55 fX10_141 rfl (zI rfl rfl) rfl ?_
      refine AW.topi (nI T) hT ?_
      refine AW.iload_n 59 dX10_type_58 rfl rfl ?_
      refine AW.iaddN 60 dX10_type_59 rfl ?_
      refine AW.bipush 62 (nI 120) dX10_type_60 (by decide) rfl ?_
      refine AW.icmpN_le 65 68 dX10_type_62 (by decide) rfl (by omega) (by omega) (fun b62 => ?_) (fun b62 => ?_)
      · skip
        refine AW.iload_n 69 dX10_type_68 rfl rfl ?_
        refine AW.iconst 70 (nI 1) dX10_type_69 (by decide) rfl ?_
        refine AW.isub 71 dX10_type_70 rfl ?_
        refine AW.topi (z_pm k) (z_pm_sub (by omega)) ?_
        refine AW.ist4 73 dX10_type_71 (by decide) rfl rfl ?_
        exact L_X10_type2 (M := M) (by omega) hT (by omega) (fun M' q1 q2 q3 q4 q5 => hok k hty (by omega) M' q1 q2 q3 q4 q5) k (Nat.le_refl _) M (fun _ _ _ => rfl) (fun _ _ => rfl) (by rw [Nat.sub_self]; exact hT) (fun _ _ => rfl) (fun i hi => absurd hi (by omega))
      · skip
        refine AW.bipush 67 (-3) dX10_type_65 (by decide) rfl ?_
        refine AW.iret dX10_type_67 .int rfl rfl rfl ⟨_, rfl, ?_⟩
        exact hfull k hty (by omega)
  · skip
    refine AW.if_ne 12 14 dX10_type_9 (by decide) rfl (fun h => absurd h (by decide)) (fun _ => ?_)
    refine AW.iconst 13 (-1) dX10_type_12 (by decide) rfl ?_
    refine AW.iret dX10_type_13 .int rfl rfl rfl ⟨_, rfl, ?_⟩
    exact hbad (fun ⟨k', e1, e2, e3, e4⟩ => by rw [e1, z_ti (by omega)] at b6; omega)
theorem C_X9_byteOf {k : Nat} (hk : k < 8) {Q : Int32 → zS → zM → Prop} (hQ : Q (nI (z_by w k)) (ZS m0 m1 md) M) : AMet l g yX9_byteOf cX9_byteOf 3 (some .int) d 0 0 [.long w, .int (nI k)] (ZS m0 m1 md) M (z_Qi Q) := by
  rw [← z_byC w hk] at hQ
  refine AMet.of (ini := false) rfl (fun h => by first | rfl | cases h) (Nat.le_of_ble_eq_true rfl) ?_
  show AW l g RX9 cX9_byteOf 3 (some .int) false _ _ _ 0 [some (.long w), none, some (.int (nI k))] [] _ _ _
  refine AW.lload_n 1 dX9_byteOf_0 rfl rfl ?_
  refine AW.bipush 3 (nI 8) dX9_byteOf_1 (by decide) rfl ?_
  refine AW.iload_n 4 dX9_byteOf_3 rfl rfl ?_
  refine AW.imulN 5 dX9_byteOf_4 rfl ?_
  refine AW.lushr 6 dX9_byteOf_5 rfl ?_
  refine AW.l2i 7 dX9_byteOf_6 rfl ?_
  refine AW.sipush 10 (nI 255) dX9_byteOf_7 (by decide) rfl ?_
  refine AW.iand 11 dX9_byteOf_10 rfl ?_
  refine AW.iret dX9_byteOf_11 .int rfl rfl rfl ⟨_, rfl, ?_⟩
  exact hQ
theorem C_X6_add (hT : M 1 1 = nI T) (hT2 : T < 120) {v : Int32} {Q : zS → zM → Prop} (hQ : Q (ZS m0 m1 md) (z_st (z_st M 2 T v) 1 1 (nI (T + 1)))) : AMet l g yX6_add cX6_add 2 none d 0 0 [.ref 1, .int v] (ZS m0 m1 md) M (z_Qv Q) := by
  refine AMet.of (ini := false) rfl (fun h => by first | rfl | cases h) (Nat.le_of_ble_eq_true rfl) ?_
  show AW l g RX6 cX6_add 2 none false _ _ _ 0 [some (.ref 1), some (.int v)] [] _ _ _
  refine AW.aload_n 1 dX6_add_0 rfl rfl ?_
  refine AW.getI 4 dX6_add_1 fX6_15 rfl (zI rfl rfl) rfl ?_
  refine AW.topi (nI T) hT ?_
  refine AW.bipush 6 (nI 120) dX6_add_4 (by decide) rfl ?_
  refine AW.icmpN_ge 9 29 dX6_add_6 (by decide) rfl (by omega) (by omega) (fun b6 => absurd b6 (by omega)) (fun b6 => ?_)
  refine AW.aload_n 10 dX6_add_9 rfl rfl ?_
  refine AW.getR 13 dX6_add_10 fX6_9 rfl (zI rfl rfl) rfl rfl ?_
  refine AW.aload_n 14 dX6_add_13 rfl rfl ?_
  refine AW.getI 17 dX6_add_14 fX6_15 rfl (zI rfl rfl) rfl ?_
  refine AW.topi (nI T) hT ?_
  refine AW.iload_n 18 dX6_add_17 rfl rfl ?_
  refine AW.iast 19 dX6_add_18 (zA rfl rfl) rfl (by omega) (by decide) rfl ?_
  refine AW.aload_n 20 dX6_add_19 rfl rfl ?_
  refine AW.dup 21 dX6_add_20 rfl rfl ?_
  refine AW.getI 24 dX6_add_21 fX6_15 rfl (zI rfl rfl) rfl ?_
  refine AW.topi (nI T) (by rw [z_st_ne (by decide)]; exact hT) ?_
  refine AW.iconst 25 (nI 1) dX6_add_24 (by decide) rfl ?_
  refine AW.iaddN 26 dX6_add_25 rfl ?_
  refine AW.putI 29 .int dX6_add_26 pX6_15 rfl (zI rfl rfl) rfl rfl rfl ?_
  refine AW.vret dX6_add_29 rfl rfl ⟨rfl, ?_⟩
  exact hQ
theorem L_X9_type1 {nn : Nat} (hn : nn ≤ 8) {Q : Int32 → zS → zM → Prop} (bad : (∃ i, i < nn ∧ ¬ (32 ≤ z_by w i ∧ z_by w i ≤ 126)) → Q (-1) (ZS m0 m1 md) M) (good : (∀ i, i < nn → 32 ≤ z_by w i ∧ z_by w i ≤ 126) → ∀ v5 : Option Value, AW l g RX9 cX9_type 6 (some .int) false (d + 1) 0 0 52 [some (.ref 0), some (.long w), none, some (.int (nI nn)), some (.int (nI nn)), v5] [] (ZS m0 m1 md) M (z_Qi Q)) :
    ∀ (q k : Nat) (v5 : Option Value), k + q = nn → (∀ i, i < k → 32 ≤ z_by w i ∧ z_by w i ≤ 126) → AW l g RX9 cX9_type 6 (some .int) false (d + 1) 0 0 16 [some (.ref 0), some (.long w), none, some (.int (nI nn)), some (.int (nI k)), v5] [] (ZS m0 m1 md) M (z_Qi Q) := by
  intro q
  induction q with
  | zero =>
    intro k v5 hk h
    have hk : k = nn := by omega
    subst hk
    refine AW.iload 18 dX9_type_16 rfl rfl ?_
    refine AW.iload_n 19 dX9_type_18 rfl rfl ?_
    refine AW.icmpN_ge 22 52 dX9_type_19 (by decide) rfl (by omega) (by omega) (fun b19 => ?_) (fun b19 => absurd b19 (by omega))
    exact good h _
  | succ q ih =>
    intro k v5 hk h
    have b8 := z_by_lt w k
    refine AW.iload 18 dX9_type_16 rfl rfl ?_
    refine AW.iload_n 19 dX9_type_18 rfl rfl ?_
    refine AW.icmpN_ge 22 52 dX9_type_19 (by decide) rfl (by omega) (by omega) (fun b19 => absurd b19 (by omega)) (fun b19 => ?_)
    refine AW.lload_n 23 dX9_type_22 rfl rfl ?_
    refine AW.iload 25 dX9_type_23 rfl rfl ?_
    refine AW.cSi2 28 dX9_type_25 kX9_100 (Nat.le_of_ble_eq_true rfl) rfl (C_X9_byteOf (by omega) ?_)
    refine AW.ist5 30 dX9_type_28 (by decide) rfl rfl ?_
    refine AW.iload 32 dX9_type_30 rfl rfl ?_
    refine AW.bipush 34 (nI 32) dX9_type_32 (by decide) rfl ?_
    refine AW.icmpN_lt 37 44 dX9_type_34 (by decide) rfl (by omega) (by omega) (fun b34 => ?_) (fun b34 => ?_)
    · skip
      refine AW.iconst 45 (-1) dX9_type_44 (by decide) rfl ?_
      refine AW.iret dX9_type_45 .int rfl rfl rfl ⟨_, rfl, ?_⟩
      exact bad ⟨k, by omega, by omega⟩
    · skip
      refine AW.iload 39 dX9_type_37 rfl rfl ?_
      refine AW.bipush 41 (nI 126) dX9_type_39 (by decide) rfl ?_
      refine AW.icmpN_le 44 46 dX9_type_41 (by decide) rfl (by omega) (by omega) (fun b41 => ?_) (fun b41 => ?_)
      · skip
        refine AW.iinc4 49 _ dX9_type_46 (z_inc1 _) (by decide) rfl rfl ?_
        refine AW.goto 16 dX9_type_49 (by decide) ?_
        exact ih (k + 1) _ (by omega) (fun i hi => (Classical.em (i = k)).elim (fun e => by subst e; omega) (fun e => h i (by omega)))
      · skip
        refine AW.iconst 45 (-1) dX9_type_44 (by decide) rfl ?_
        refine AW.iret dX9_type_45 .int rfl rfl rfl ⟨_, rfl, ?_⟩
        exact bad ⟨k, by omega, by omega⟩
theorem L_X9_type2 {nn : Nat} (hn : nn ≤ 8) (hT : M 1 1 = nI T) (hT2 : T + nn ≤ 120) {v5 : Option Value} {Q : Int32 → zS → zM → Prop} (hQ : ∀ M', (∀ c, c ≠ 1 → c ≠ 2 → M' c = M c) → M' 1 1 = nI (T + nn) → (∀ j, j < T → M' 2 j = M 2 j) → (∀ j, j < nn → M' 2 (T + j) = nI (z_by w (nn - 1 - j))) → Q (nI (T + nn)) (ZS m0 m1 md) M') :
    ∀ j, j ≤ nn → ∀ M' : zM, (∀ c, c ≠ 1 → c ≠ 2 → M' c = M c) → M' 1 1 = nI (T + (nn - j)) → (∀ i, i < T → M' 2 i = M 2 i) → (∀ i, i < nn - j → M' 2 (T + i) = nI (z_by w (nn - 1 - i))) → AW l g RX9 cX9_type 6 (some .int) false (d + 1) 0 0 74 [some (.ref 0), some (.long w), none, some (.int (nI nn)), some (.int (z_pm j)), v5] [] (ZS m0 m1 md) M' (z_Qi Q) := by
  intro j
  induction j with
  | zero =>
    intro hj M' f1 h1 h2 h3
    rw [Nat.sub_zero] at h1 h3
    show AW l g RX9 cX9_type 6 (some .int) false (d + 1) 0 0 74 [some (.ref 0), some (.long w), none, some (.int (nI nn)), some (.int (-1)), v5] [] (ZS m0 m1 md) M' (z_Qi Q)
    refine AW.iload 76 dX9_type_74 rfl rfl ?_
    refine AW.if_lt 79 98 dX9_type_76 (by decide) rfl (fun _ => ?_) (fun h => absurd h (by decide))
    refine AW.aload_n 99 dX9_type_98 rfl rfl ?_
    refine AW.getR 102 dX9_type_99 fX9_10 rfl (zI rfl rfl) rfl rfl ?_
    refine AW.getI 105 dX9_type_102 fX9_104 rfl (zI rfl rfl) rfl ?_
    refine AW.topi (nI (T + nn)) h1 ?_
    refine AW.iret dX9_type_105 .int rfl rfl rfl ⟨_, rfl, ?_⟩
    exact hQ M' f1 h1 h2 h3
  | succ j ih =>
    intro hj M' f1 h1 h2 h3
    have qd := z_pm_dec (n := j) (by omega)
    show AW l g RX9 cX9_type 6 (some .int) false (d + 1) 0 0 74 [some (.ref 0), some (.long w), none, some (.int (nI nn)), some (.int (nI j)), v5] [] (ZS m0 m1 md) M' (z_Qi Q)
    refine AW.iload 76 dX9_type_74 rfl rfl ?_
    refine AW.ifN_lt 79 98 dX9_type_76 (by decide) rfl (by omega) (fun b76 => absurd b76 (by omega)) (fun b76 => ?_)
    refine AW.aload_n 80 dX9_type_79 rfl rfl ?_
    refine AW.getR 83 dX9_type_80 fX9_10 rfl (zI rfl rfl) rfl rfl ?_
    refine AW.lload_n 84 dX9_type_83 rfl rfl ?_
    refine AW.iload 86 dX9_type_84 rfl rfl ?_
    refine AW.cSi2 89 dX9_type_86 kX9_100 (Nat.le_of_ble_eq_true rfl) rfl (C_X9_byteOf (by omega) ?_)
    refine AW.cVv1 92 dX9_type_89 kX9_107 (zI rfl rfl) (Nat.le_of_ble_eq_true rfl) rfl (C_X6_add (M := M') (T := T + (nn - (j + 1))) h1 (by omega) ?_)
    refine AW.iinc4 95 (z_pm j) dX9_type_92 qd (by decide) rfl rfl ?_
    refine AW.goto 74 dX9_type_95 (by decide) ?_
    refine ih (by omega) _ (fun c c1 c2 => by rw [z_st_ne c1, z_st_ne c2]; exact f1 c c1 c2) (by rw [z_st_v]; congr 1; omega) (fun i hi => by rw [z_st_ne (by decide), z_st_o (by omega)]; exact h2 i hi) (fun i hi => ?_)
    rw [z_st_ne (by decide)]
    by_cases e : i = nn - (j + 1)
    · subst e; rw [z_st_v]; congr 2; omega
    · rw [z_st_o (by omega)]; exact h3 i (by omega)
theorem C_X9_type (hT : M 1 1 = nI T) (hT2 : T ≤ 120) {n : Int32} {Q : Int32 → zS → zM → Prop} (hbad : (¬ ∃ k, z_ty w n k) → Q (-1) (ZS m0 m1 md) M) (hfull : ∀ k, z_ty w n k → 120 < T + k → Q (-3) (ZS m0 m1 md) M)
    (hok : ∀ k, z_ty w n k → T + k ≤ 120 → ∀ M', (∀ c, c ≠ 1 → c ≠ 2 → M' c = M c) → M' 1 1 = nI (T + k) → (∀ j, j < T → M' 2 j = M 2 j) → (∀ j, j < k → M' 2 (T + j) = nI (z_by w (k - 1 - j))) → Q (nI (T + k)) (ZS m0 m1 md) M') :
    AMet l g yX9_type cX9_type 6 (some .int) (d + 1) 0 0 [.ref 0, .long w, .int n] (ZS m0 m1 md) M (z_Qi Q) := by
  have nI_in : ∀ a b : Nat, a < 200 → b < 200 → nI a = nI b → a = b := fun a b ha hb h => by
    have := congrArg Int32.toInt h
    rw [z_ti (by omega), z_ti (by omega)] at this
    omega
  refine AMet.of (ini := false) rfl (fun h => by first | rfl | cases h) (Nat.le_of_ble_eq_true rfl) ?_
  show AW l g RX9 cX9_type 6 (some .int) false _ _ _ 0 [some (.ref 0), some (.long w), none, some (.int n), none, none] [] _ _ _
  refine AW.iload_n 1 dX9_type_0 rfl rfl ?_
  refine AW.iconst 2 (nI 1) dX9_type_1 (by decide) rfl ?_
  refine AW.zicmp_lt 5 11 dX9_type_2 (by decide) rfl rfl (by decide : (nI 1).toInt = 1) (fun b2 => ?_) (fun b2 => ?_)
  · skip
    refine AW.iconst 12 (-1) dX9_type_11 (by decide) rfl ?_
    refine AW.iret dX9_type_12 .int rfl rfl rfl ⟨_, rfl, ?_⟩
    exact hbad (fun ⟨k', e1, e2, e3, e4⟩ => by first | (rw [e1, z_ti (by omega)] at b2; omega) | (rw [e1, z_ti (by omega)] at b8; omega))
  · skip
    refine AW.iload_n 6 dX9_type_5 rfl rfl ?_
    refine AW.bipush 8 (nI 8) dX9_type_6 (by decide) rfl ?_
    refine AW.zicmp_le 11 13 dX9_type_8 (by decide) rfl rfl (by decide : (nI 8).toInt = 8) (fun b8 => ?_) (fun b8 => ?_)
    · skip
      obtain ⟨k, hk, rfl, hk2⟩ := z_nI (v := n) (n := 8) (by omega) (by omega)
      refine AW.iconst 14 (nI 0) dX9_type_13 (by decide) rfl ?_
      refine AW.ist4 16 dX9_type_14 (by decide) rfl rfl ?_
      refine L_X9_type1 (by omega) (fun h => ?_) (fun h v5 => ?_) k 0 none (by omega) (fun i hi => absurd hi (by omega))
      · exact hbad (fun ⟨k', e1, e2, e3, e4⟩ => by
          have e5 := nI_in k k' (by omega) (by omega) e1
          obtain ⟨i, i1, i2⟩ := h
          exact i2 (e4 i (by omega)))
      · have hty : z_ty w (nI k) k := ⟨rfl, by omega, by omega, h⟩
        refine AW.aload_n 53 dX9_type_52 rfl rfl ?_
        refine AW.getR 56 dX9_type_53 fX9_10 rfl (zI rfl rfl) rfl rfl ?_
        refine AW.getI 59 dX9_type_56 fX9_104 rfl (zI rfl rfl) rfl ?_
        refine AW.topi (nI T) hT ?_
        refine AW.iload_n 60 dX9_type_59 rfl rfl ?_
        refine AW.iaddN 61 dX9_type_60 rfl ?_
        refine AW.bipush 63 (nI 120) dX9_type_61 (by decide) rfl ?_
        refine AW.icmpN_le 66 69 dX9_type_63 (by decide) rfl (by omega) (by omega) (fun b63 => ?_) (fun b63 => ?_)
        · skip
          refine AW.iload_n 70 dX9_type_69 rfl rfl ?_
          refine AW.iconst 71 (nI 1) dX9_type_70 (by decide) rfl ?_
          refine AW.isub 72 dX9_type_71 rfl ?_
          refine AW.topi (z_pm k) (z_pm_sub (by omega)) ?_
          refine AW.ist4 74 dX9_type_72 (by decide) rfl rfl ?_
          exact L_X9_type2 (M := M) (by omega) hT (by omega) (fun M' q1 q3 q4 q5 => hok k hty (by omega) M' q1 q3 q4 q5) k (Nat.le_refl _) M (fun _ _ _ => rfl) (by rw [Nat.sub_self]; exact hT) (fun _ _ => rfl) (fun i hi => absurd hi (by omega))
        · skip
          refine AW.bipush 68 (-3) dX9_type_66 (by decide) rfl ?_
          refine AW.iret dX9_type_68 .int rfl rfl rfl ⟨_, rfl, ?_⟩
          exact hfull k hty (by omega)
    · skip
      refine AW.iconst 12 (-1) dX9_type_11 (by decide) rfl ?_
      refine AW.iret dX9_type_12 .int rfl rfl rfl ⟨_, rfl, ?_⟩
      exact hbad (fun ⟨k', e1, e2, e3, e4⟩ => by first | (rw [e1, z_ti (by omega)] at b2; omega) | (rw [e1, z_ti (by omega)] at b8; omega))
end TYPE
