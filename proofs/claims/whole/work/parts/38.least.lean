def z_bst (P : Nat → Bool) : Nat → Option Nat
  | 0 => none
  | e + 1 => if P e = true ∧ (∀ b, z_bst P e = some b → z_sz e 8 < z_sz b 8) then some e else z_bst P e
def z_oI : Option Nat → Int32
  | none => -4
  | some b => nI b
def z_few : Option Nat → Nat
  | none => 7
  | some b => z_sz b 8
def z_cn2 (P : Nat → Bool) : Nat → Nat
  | 0 => 0
  | e + 1 => z_cn2 P e + (P e).toNat
theorem z_sz6 : ∀ b, b < 64 → z_sz b 8 < 7 := by decide +kernel
theorem z_bst_lt {P : Nat → Bool} {b : Nat} : ∀ e, z_bst P e = some b → b < e
  | 0, h => by cases h
  | e + 1, h => by
    rw [z_bst] at h
    split at h
    · cases h; omega
    · have := z_bst_lt e h; omega
theorem z_cn2_le (P : Nat → Bool) : ∀ e, z_cn2 P e ≤ e
  | 0 => Nat.le_refl _
  | e + 1 => by
    have := z_cn2_le P e
    have h2 : (P e).toNat ≤ 1 := by cases P e <;> decide
    rw [z_cn2]; omega
section LEAST
variable {l : Launch} {g : zG} {d m0 m1 md : Nat} {M : zM} {t : Nat} {W : Nat → Bool}
theorem C_bitCount {b : Nat} (hb : b < 64) {S : zS} {Q : Int32 → zS → zM → Prop} (hQ : Q (nI (z_sz b 8)) S M) : AMet l g yJ6_bitCount_0f7a4 cJ6_bitCount_0f7a4 1 (some .int) d 0 0 [.int (nI b)] S M (z_Qi Q) := by
  refine AMet.of (ini := false) rfl (fun h => by first | rfl | cases h) (Nat.le_of_ble_eq_true rfl) ?_
  show AW l g RJ6 cJ6_bitCount_0f7a4 1 (some .int) false _ _ _ 0 [some (.int (nI b))] [] _ _ _
  refine AW.iload_n 1 dJ6_bitCount_0f7a4_0 rfl rfl ?_
  refine AW.iload_n 2 dJ6_bitCount_0f7a4_1 rfl rfl ?_
  refine AW.iconst 3 (nI 1) dJ6_bitCount_0f7a4_2 (by decide) rfl ?_
  refine AW.iushr 4 dJ6_bitCount_0f7a4_3 rfl ?_
  refine AW.ldcw 7 (nI 1431655765) dJ6_bitCount_0f7a4_4 qJ6_265 rfl ?_
  refine AW.iand 8 dJ6_bitCount_0f7a4_7 rfl ?_
  refine AW.isub 9 dJ6_bitCount_0f7a4_8 rfl ?_
  refine AW.istn0 10 dJ6_bitCount_0f7a4_9 (by decide) rfl rfl ?_
  refine AW.iload_n 11 dJ6_bitCount_0f7a4_10 rfl rfl ?_
  refine AW.ldcw 14 (nI 858993459) dJ6_bitCount_0f7a4_11 qJ6_266 rfl ?_
  refine AW.iand 15 dJ6_bitCount_0f7a4_14 rfl ?_
  refine AW.iload_n 16 dJ6_bitCount_0f7a4_15 rfl rfl ?_
  refine AW.iconst 17 (nI 2) dJ6_bitCount_0f7a4_16 (by decide) rfl ?_
  refine AW.iushr 18 dJ6_bitCount_0f7a4_17 rfl ?_
  refine AW.ldcw 21 (nI 858993459) dJ6_bitCount_0f7a4_18 qJ6_266 rfl ?_
  refine AW.iand 22 dJ6_bitCount_0f7a4_21 rfl ?_
  refine AW.iadd 23 dJ6_bitCount_0f7a4_22 rfl ?_
  refine AW.istn0 24 dJ6_bitCount_0f7a4_23 (by decide) rfl rfl ?_
  refine AW.iload_n 25 dJ6_bitCount_0f7a4_24 rfl rfl ?_
  refine AW.iload_n 26 dJ6_bitCount_0f7a4_25 rfl rfl ?_
  refine AW.iconst 27 (nI 4) dJ6_bitCount_0f7a4_26 (by decide) rfl ?_
  refine AW.iushr 28 dJ6_bitCount_0f7a4_27 rfl ?_
  refine AW.iadd 29 dJ6_bitCount_0f7a4_28 rfl ?_
  refine AW.ldcw 32 (nI 252645135) dJ6_bitCount_0f7a4_29 qJ6_267 rfl ?_
  refine AW.iand 33 dJ6_bitCount_0f7a4_32 rfl ?_
  refine AW.istn0 34 dJ6_bitCount_0f7a4_33 (by decide) rfl rfl ?_
  refine AW.iload_n 35 dJ6_bitCount_0f7a4_34 rfl rfl ?_
  refine AW.iload_n 36 dJ6_bitCount_0f7a4_35 rfl rfl ?_
  refine AW.bipush 38 (nI 8) dJ6_bitCount_0f7a4_36 (by decide) rfl ?_
  refine AW.iushr 39 dJ6_bitCount_0f7a4_38 rfl ?_
  refine AW.iadd 40 dJ6_bitCount_0f7a4_39 rfl ?_
  refine AW.istn0 41 dJ6_bitCount_0f7a4_40 (by decide) rfl rfl ?_
  refine AW.iload_n 42 dJ6_bitCount_0f7a4_41 rfl rfl ?_
  refine AW.iload_n 43 dJ6_bitCount_0f7a4_42 rfl rfl ?_
  refine AW.bipush 45 (nI 16) dJ6_bitCount_0f7a4_43 (by decide) rfl ?_
  refine AW.iushr 46 dJ6_bitCount_0f7a4_45 rfl ?_
  refine AW.iadd 47 dJ6_bitCount_0f7a4_46 rfl ?_
  refine AW.istn0 48 dJ6_bitCount_0f7a4_47 (by decide) rfl rfl ?_
  refine AW.iload_n 49 dJ6_bitCount_0f7a4_48 rfl rfl ?_
  refine AW.bipush 51 (nI 63) dJ6_bitCount_0f7a4_49 (by decide) rfl ?_
  refine AW.iand 52 dJ6_bitCount_0f7a4_51 rfl ?_
  refine AW.iret dJ6_bitCount_0f7a4_52 .int rfl rfl rfl ⟨_, rfl, ?_⟩
  refine (congrArg (fun v => Q v S M) (show _ = nI (z_sz b 8) from ?_)).mpr hQ
  clear hQ
  revert hb
  revert b
  decide +kernel
theorem L_X10_leastOf (ht : M 99 34 = nI t) (ht2 : t ≤ 6) (hW : ∀ s, s < 2 ^ t → M 130 s = z_bI (W s)) {w : Nat} (hw : w < 2) {Q : Int32 → zS → zM → Prop} (hQ : Q (z_oI (z_bst (z_su W t w) (2 ^ t))) (ZS m0 m1 md) M) :
    ∀ (z e : Nat), e + z = 2 ^ t → AW l g RX10 cX10_leastOf 4 (some .int) false (d + 1) 0 0 19 [some (.ref 99), some (.int (nI w)), some (.int (z_oI (z_bst (z_su W t w) e))), some (.int (nI e))] [] (ZS m0 m1 md) M (z_Qi Q) := by
  intro z
  have eb := z_allB t (by omega)
  have p6 := z_p6 ht2
  induction z with
  | zero =>
    intro e he
    have he : e = 2 ^ t := by omega
    subst he
    refine AW.iload_n 20 dX10_leastOf_19 rfl rfl ?_
    refine AW.iconst 21 (nI 1) dX10_leastOf_20 (by decide) rfl ?_
    refine AW.aload_n 22 dX10_leastOf_21 rfl rfl ?_
    refine AW.getI 25 dX10_leastOf_22 fX10_244 rfl (zI rfl rfl) rfl ?_
    refine AW.topi (nI t) ht ?_
    refine AW.ishl 26 dX10_leastOf_25 rfl ?_
    refine AW.topi (nI (2 ^ t)) eb ?_
    refine AW.icmpN_ge 29 65 dX10_leastOf_26 (by decide) rfl (by omega) (by omega) (fun b26 => ?_) (fun b26 => absurd b26 (by omega))
    refine AW.iload_n 66 dX10_leastOf_65 rfl rfl ?_
    refine AW.iret dX10_leastOf_66 .int rfl rfl rfl ⟨_, rfl, ?_⟩
    exact hQ
  | succ z ih =>
    intro e he
    have h9 := ih (e + 1) (by omega)
    rw [z_bst] at h9
    cases hB : z_bst (z_su W t w) e with
    | none =>
      rw [hB] at h9
      show AW l g RX10 cX10_leastOf 4 (some .int) false (d + 1) 0 0 19 [some (.ref 99), some (.int (nI w)), some (.int (-4)), some (.int (nI e))] [] (ZS m0 m1 md) M (z_Qi Q)
      refine AW.iload_n 20 dX10_leastOf_19 rfl rfl ?_
      refine AW.iconst 21 (nI 1) dX10_leastOf_20 (by decide) rfl ?_
      refine AW.aload_n 22 dX10_leastOf_21 rfl rfl ?_
      refine AW.getI 25 dX10_leastOf_22 fX10_244 rfl (zI rfl rfl) rfl ?_
      refine AW.topi (nI t) ht ?_
      refine AW.ishl 26 dX10_leastOf_25 rfl ?_
      refine AW.topi (nI (2 ^ t)) eb ?_
      refine AW.icmpN_ge 29 65 dX10_leastOf_26 (by decide) rfl (by omega) (by omega) (fun b26 => absurd b26 (by omega)) (fun b26 => ?_)
      refine AW.aload_n 30 dX10_leastOf_29 rfl rfl ?_
      refine AW.iload_n 31 dX10_leastOf_30 rfl rfl ?_
      refine AW.iload_n 32 dX10_leastOf_31 rfl rfl ?_
      refine AW.cVi2 35 dX10_leastOf_32 kX10_263 (zI rfl rfl) (Nat.le_of_ble_eq_true rfl) rfl (C_X10_isSuch ht ht2 hW (s := e) (by omega) hw (fun b32 => ?_) (fun b32 => ?_))
      · skip
        refine AW.if_eq 38 57 dX10_leastOf_35 (by decide) rfl (fun h => absurd h (by decide)) (fun _ => ?_)
        refine AW.iload_n 39 dX10_leastOf_38 rfl rfl ?_
        refine AW.if_lt 42 53 dX10_leastOf_39 (by decide) rfl (fun _ => ?_) (fun h => absurd h (by decide))
        refine AW.iload_n 54 dX10_leastOf_53 rfl rfl ?_
        refine AW.goto 58 dX10_leastOf_54 (by decide) ?_
        refine AW.istn2 59 dX10_leastOf_58 (by decide) rfl rfl ?_
        refine AW.iinc3 62 _ dX10_leastOf_59 (z_inc1 _) (by decide) rfl rfl ?_
        refine AW.goto 19 dX10_leastOf_62 (by decide) ?_
        first | (rw [if_pos ⟨b32, fun b hb => by cases hb⟩] at h9; exact h9) | (rw [if_neg (fun h => b32 h.1)] at h9; exact h9)
      · skip
        refine AW.if_eq 38 57 dX10_leastOf_35 (by decide) rfl (fun _ => ?_) (fun h => absurd h (by decide))
        refine AW.iload_n 58 dX10_leastOf_57 rfl rfl ?_
        refine AW.istn2 59 dX10_leastOf_58 (by decide) rfl rfl ?_
        refine AW.iinc3 62 _ dX10_leastOf_59 (z_inc1 _) (by decide) rfl rfl ?_
        refine AW.goto 19 dX10_leastOf_62 (by decide) ?_
        first | (rw [if_pos ⟨b32, fun b hb => by cases hb⟩] at h9; exact h9) | (rw [if_neg (fun h => b32 h.1)] at h9; exact h9)
    | some b =>
      have hbl := z_bst_lt e hB
      rw [hB] at h9
      have s1 := z_sz_le e 8
      have s2 := z_sz_le b 8
      show AW l g RX10 cX10_leastOf 4 (some .int) false (d + 1) 0 0 19 [some (.ref 99), some (.int (nI w)), some (.int (nI b)), some (.int (nI e))] [] (ZS m0 m1 md) M (z_Qi Q)
      refine AW.iload_n 20 dX10_leastOf_19 rfl rfl ?_
      refine AW.iconst 21 (nI 1) dX10_leastOf_20 (by decide) rfl ?_
      refine AW.aload_n 22 dX10_leastOf_21 rfl rfl ?_
      refine AW.getI 25 dX10_leastOf_22 fX10_244 rfl (zI rfl rfl) rfl ?_
      refine AW.topi (nI t) ht ?_
      refine AW.ishl 26 dX10_leastOf_25 rfl ?_
      refine AW.topi (nI (2 ^ t)) eb ?_
      refine AW.icmpN_ge 29 65 dX10_leastOf_26 (by decide) rfl (by omega) (by omega) (fun b26 => absurd b26 (by omega)) (fun b26 => ?_)
      refine AW.aload_n 30 dX10_leastOf_29 rfl rfl ?_
      refine AW.iload_n 31 dX10_leastOf_30 rfl rfl ?_
      refine AW.iload_n 32 dX10_leastOf_31 rfl rfl ?_
      refine AW.cVi2 35 dX10_leastOf_32 kX10_263 (zI rfl rfl) (Nat.le_of_ble_eq_true rfl) rfl (C_X10_isSuch ht ht2 hW (s := e) (by omega) hw (fun b32 => ?_) (fun b32 => ?_))
      · skip
        refine AW.if_eq 38 57 dX10_leastOf_35 (by decide) rfl (fun h => absurd h (by decide)) (fun _ => ?_)
        refine AW.iload_n 39 dX10_leastOf_38 rfl rfl ?_
        refine AW.ifN_lt 42 53 dX10_leastOf_39 (by decide) rfl (by omega) (fun b39 => absurd b39 (by omega)) (fun b39 => ?_)
        refine AW.iload_n 43 dX10_leastOf_42 rfl rfl ?_
        refine AW.cSi1 46 dX10_leastOf_43 kX10_266 (Nat.le_of_ble_eq_true rfl) rfl (C_X10_size (by omega) ?_)
        refine AW.iload_n 47 dX10_leastOf_46 rfl rfl ?_
        refine AW.cSi1 50 dX10_leastOf_47 kX10_266 (Nat.le_of_ble_eq_true rfl) rfl (C_X10_size (by omega) ?_)
        refine AW.icmpN_ge 53 57 dX10_leastOf_50 (by decide) rfl (by omega) (by omega) (fun b50 => ?_) (fun b50 => ?_)
        · skip
          refine AW.iload_n 58 dX10_leastOf_57 rfl rfl ?_
          refine AW.istn2 59 dX10_leastOf_58 (by decide) rfl rfl ?_
          refine AW.iinc3 62 _ dX10_leastOf_59 (z_inc1 _) (by decide) rfl rfl ?_
          refine AW.goto 19 dX10_leastOf_62 (by decide) ?_
          first | (rw [if_pos ⟨b32, fun c hc => by cases hc; omega⟩] at h9; exact h9) | (rw [if_neg (fun h => b32 h.1)] at h9; exact h9) | (rw [if_neg (fun h => by have := h.2 b rfl; omega)] at h9; exact h9)
        · skip
          refine AW.iload_n 54 dX10_leastOf_53 rfl rfl ?_
          refine AW.goto 58 dX10_leastOf_54 (by decide) ?_
          refine AW.istn2 59 dX10_leastOf_58 (by decide) rfl rfl ?_
          refine AW.iinc3 62 _ dX10_leastOf_59 (z_inc1 _) (by decide) rfl rfl ?_
          refine AW.goto 19 dX10_leastOf_62 (by decide) ?_
          first | (rw [if_pos ⟨b32, fun c hc => by cases hc; omega⟩] at h9; exact h9) | (rw [if_neg (fun h => b32 h.1)] at h9; exact h9) | (rw [if_neg (fun h => by have := h.2 b rfl; omega)] at h9; exact h9)
      · skip
        refine AW.if_eq 38 57 dX10_leastOf_35 (by decide) rfl (fun _ => ?_) (fun h => absurd h (by decide))
        refine AW.iload_n 58 dX10_leastOf_57 rfl rfl ?_
        refine AW.istn2 59 dX10_leastOf_58 (by decide) rfl rfl ?_
        refine AW.iinc3 62 _ dX10_leastOf_59 (z_inc1 _) (by decide) rfl rfl ?_
        refine AW.goto 19 dX10_leastOf_62 (by decide) ?_
        first | (rw [if_pos ⟨b32, fun c hc => by cases hc; omega⟩] at h9; exact h9) | (rw [if_neg (fun h => b32 h.1)] at h9; exact h9) | (rw [if_neg (fun h => by have := h.2 b rfl; omega)] at h9; exact h9)
theorem L_X9_leastSet (ht : M 83 3 = nI t) (ht2 : t ≤ 6) (hW : ∀ s, s < 2 ^ t → M 87 s = z_bI (W s)) {w : Nat} (hw : w < 2) {Q : Int32 → zS → zM → Prop} (hQ : Q (z_oI (z_bst (z_su W t w) (2 ^ t))) (ZS m0 m1 md) M) :
    ∀ (z e : Nat), e + z = 2 ^ t → ∀ x, AW l g RX9 cX9_leastSet 6 (some .int) false (d + 2) 0 0 13 [some (.ref 0), some (.int (nI w)), some (.int (z_oI (z_bst (z_su W t w) e))), some (.int (nI (z_few (z_bst (z_su W t w) e)))), some (.int (nI e)), x] [] (ZS m0 m1 md) M (z_Qi Q) := by
  intro z
  have p6 := z_p6 ht2
  induction z with
  | zero =>
    intro e he x
    have he : e = 2 ^ t := by omega
    subst he
    refine AW.iload 15 dX9_leastSet_13 rfl rfl ?_
    refine AW.aload_n 16 dX9_leastSet_15 rfl rfl ?_
    refine AW.getR 19 dX9_leastSet_16 fX9_67 rfl (zI rfl rfl) rfl rfl ?_
    refine AW.cVi0 22 dX9_leastSet_19 kX9_259 (zI rfl rfl) (Nat.le_of_ble_eq_true rfl) rfl (C_X7_allBits ht ht2 ?_)
    refine AW.icmpN_gt 25 75 dX9_leastSet_22 (by decide) rfl (by omega) (by omega) (fun b22 => ?_) (fun b22 => absurd b22 (by omega))
    refine AW.iload_n 76 dX9_leastSet_75 rfl rfl ?_
    refine AW.iret dX9_leastSet_76 .int rfl rfl rfl ⟨_, rfl, ?_⟩
    exact hQ
  | succ z ih =>
    intro e he x
    have h9 := ih (e + 1) (by omega)
    have s1 := z_sz6 e (by omega)
    have sf : (∀ b, z_bst (z_su W t w) e = some b → z_sz e 8 < z_sz b 8) ↔ z_sz e 8 < z_few (z_bst (z_su W t w) e) := by
      cases z_bst (z_su W t w) e with
      | none => exact ⟨fun _ => s1, fun _ b hb => by cases hb⟩
      | some b => exact ⟨fun h => h b rfl, fun h c hc => by cases hc; exact h⟩
    have sg : z_few (z_bst (z_su W t w) e) < 100 := by
      cases z_bst (z_su W t w) e with
      | none => decide
      | some b => exact Nat.lt_of_le_of_lt (z_sz_le b 8) (by decide)
    rw [z_bst] at h9
    rcases (by omega : w = 0 ∨ w = 1) with rfl | rfl
    · skip
      refine AW.iload 15 dX9_leastSet_13 rfl rfl ?_
      refine AW.aload_n 16 dX9_leastSet_15 rfl rfl ?_
      refine AW.getR 19 dX9_leastSet_16 fX9_67 rfl (zI rfl rfl) rfl rfl ?_
      refine AW.cVi0 22 dX9_leastSet_19 kX9_259 (zI rfl rfl) (Nat.le_of_ble_eq_true rfl) rfl (C_X7_allBits ht ht2 ?_)
      refine AW.icmpN_gt 25 75 dX9_leastSet_22 (by decide) rfl (by omega) (by omega) (fun b22 => absurd b22 (by omega)) (fun b22 => ?_)
      refine AW.iload 27 dX9_leastSet_25 rfl rfl ?_
      refine AW.cSi1 30 dX9_leastSet_27 kX9_285 (Nat.le_of_ble_eq_true rfl) rfl (C_bitCount (by omega) ?_)
      refine AW.ist5 32 dX9_leastSet_30 (by decide) rfl rfl ?_
      refine AW.iload 34 dX9_leastSet_32 rfl rfl ?_
      refine AW.iload_n 35 dX9_leastSet_34 rfl rfl ?_
      refine AW.icmpN_ge 38 69 dX9_leastSet_35 (by decide) rfl (by omega) (by omega) (fun b35 => ?_) (fun b35 => ?_)
      · skip
        refine AW.iinc4 72 _ dX9_leastSet_69 (z_inc1 _) (by decide) rfl rfl ?_
        refine AW.goto 13 dX9_leastSet_72 (by decide) ?_
        first | (rw [if_pos ⟨b57, sf.2 (by omega)⟩] at h9; exact h9 _) | (rw [if_neg (fun h => b57 h.1)] at h9; exact h9 _) | (rw [if_neg (fun h => by have := sf.1 h.2; omega)] at h9; exact h9 _)
      · skip
        refine AW.iload_n 39 dX9_leastSet_38 rfl rfl ?_
        refine AW.if_eq 42 54 dX9_leastSet_39 (by decide) rfl (fun _ => ?_) (fun h => absurd h (by decide))
        refine AW.aload_n 55 dX9_leastSet_54 rfl rfl ?_
        refine AW.iload 57 dX9_leastSet_55 rfl rfl ?_
        refine AW.cVi1 60 dX9_leastSet_57 kX9_273 (zI rfl rfl) (Nat.le_of_ble_eq_true rfl) rfl (C_X9_isBecause ht2 hW (s := e) (by omega) (fun b57 => ?_) (fun b57 => ?_))
        · skip
          refine AW.if_eq 63 69 dX9_leastSet_60 (by decide) rfl (fun h => absurd h (by decide)) (fun _ => ?_)
          refine AW.iload 65 dX9_leastSet_63 rfl rfl ?_
          refine AW.istn2 66 dX9_leastSet_65 (by decide) rfl rfl ?_
          refine AW.iload 68 dX9_leastSet_66 rfl rfl ?_
          refine AW.istn3 69 dX9_leastSet_68 (by decide) rfl rfl ?_
          refine AW.iinc4 72 _ dX9_leastSet_69 (z_inc1 _) (by decide) rfl rfl ?_
          refine AW.goto 13 dX9_leastSet_72 (by decide) ?_
          first | (rw [if_pos ⟨b57, sf.2 (by omega)⟩] at h9; exact h9 _) | (rw [if_neg (fun h => b57 h.1)] at h9; exact h9 _) | (rw [if_neg (fun h => by have := sf.1 h.2; omega)] at h9; exact h9 _)
        · skip
          refine AW.if_eq 63 69 dX9_leastSet_60 (by decide) rfl (fun _ => ?_) (fun h => absurd h (by decide))
          refine AW.iinc4 72 _ dX9_leastSet_69 (z_inc1 _) (by decide) rfl rfl ?_
          refine AW.goto 13 dX9_leastSet_72 (by decide) ?_
          first | (rw [if_pos ⟨b57, sf.2 (by omega)⟩] at h9; exact h9 _) | (rw [if_neg (fun h => b57 h.1)] at h9; exact h9 _) | (rw [if_neg (fun h => by have := sf.1 h.2; omega)] at h9; exact h9 _)
    · skip
      refine AW.iload 15 dX9_leastSet_13 rfl rfl ?_
      refine AW.aload_n 16 dX9_leastSet_15 rfl rfl ?_
      refine AW.getR 19 dX9_leastSet_16 fX9_67 rfl (zI rfl rfl) rfl rfl ?_
      refine AW.cVi0 22 dX9_leastSet_19 kX9_259 (zI rfl rfl) (Nat.le_of_ble_eq_true rfl) rfl (C_X7_allBits ht ht2 ?_)
      refine AW.icmpN_gt 25 75 dX9_leastSet_22 (by decide) rfl (by omega) (by omega) (fun b22 => absurd b22 (by omega)) (fun b22 => ?_)
      refine AW.iload 27 dX9_leastSet_25 rfl rfl ?_
      refine AW.cSi1 30 dX9_leastSet_27 kX9_285 (Nat.le_of_ble_eq_true rfl) rfl (C_bitCount (by omega) ?_)
      refine AW.ist5 32 dX9_leastSet_30 (by decide) rfl rfl ?_
      refine AW.iload 34 dX9_leastSet_32 rfl rfl ?_
      refine AW.iload_n 35 dX9_leastSet_34 rfl rfl ?_
      refine AW.icmpN_ge 38 69 dX9_leastSet_35 (by decide) rfl (by omega) (by omega) (fun b35 => ?_) (fun b35 => ?_)
      · skip
        refine AW.iinc4 72 _ dX9_leastSet_69 (z_inc1 _) (by decide) rfl rfl ?_
        refine AW.goto 13 dX9_leastSet_72 (by decide) ?_
        first | (rw [if_pos ⟨b45, sf.2 (by omega)⟩] at h9; exact h9 _) | (rw [if_neg (fun h => b45 h.1)] at h9; exact h9 _) | (rw [if_neg (fun h => by have := sf.1 h.2; omega)] at h9; exact h9 _)
      · skip
        refine AW.iload_n 39 dX9_leastSet_38 rfl rfl ?_
        refine AW.if_eq 42 54 dX9_leastSet_39 (by decide) rfl (fun h => absurd h (by decide)) (fun _ => ?_)
        refine AW.aload_n 43 dX9_leastSet_42 rfl rfl ?_
        refine AW.iload 45 dX9_leastSet_43 rfl rfl ?_
        refine AW.cVi1 48 dX9_leastSet_45 kX9_276 (zI rfl rfl) (Nat.le_of_ble_eq_true rfl) rfl (C_X9_isEnough ht ht2 hW (s := e) (by omega) (fun b45 => ?_) (fun b45 => ?_))
        · skip
          refine AW.if_eq 51 69 dX9_leastSet_48 (by decide) rfl (fun h => absurd h (by decide)) (fun _ => ?_)
          refine AW.goto 63 dX9_leastSet_51 (by decide) ?_
          refine AW.iload 65 dX9_leastSet_63 rfl rfl ?_
          refine AW.istn2 66 dX9_leastSet_65 (by decide) rfl rfl ?_
          refine AW.iload 68 dX9_leastSet_66 rfl rfl ?_
          refine AW.istn3 69 dX9_leastSet_68 (by decide) rfl rfl ?_
          refine AW.iinc4 72 _ dX9_leastSet_69 (z_inc1 _) (by decide) rfl rfl ?_
          refine AW.goto 13 dX9_leastSet_72 (by decide) ?_
          first | (rw [if_pos ⟨b45, sf.2 (by omega)⟩] at h9; exact h9 _) | (rw [if_neg (fun h => b45 h.1)] at h9; exact h9 _) | (rw [if_neg (fun h => by have := sf.1 h.2; omega)] at h9; exact h9 _)
        · skip
          refine AW.if_eq 51 69 dX9_leastSet_48 (by decide) rfl (fun _ => ?_) (fun h => absurd h (by decide))
          refine AW.iinc4 72 _ dX9_leastSet_69 (z_inc1 _) (by decide) rfl rfl ?_
          refine AW.goto 13 dX9_leastSet_72 (by decide) ?_
          first | (rw [if_pos ⟨b45, sf.2 (by omega)⟩] at h9; exact h9 _) | (rw [if_neg (fun h => b45 h.1)] at h9; exact h9 _) | (rw [if_neg (fun h => by have := sf.1 h.2; omega)] at h9; exact h9 _)
theorem L_X10_sets (ht : M 99 34 = nI t) (ht2 : t ≤ 6) (hW : ∀ s, s < 2 ^ t → M 130 s = z_bI (W s)) {w : Nat} (hw : w < 2) {Q : Int32 → zS → zM → Prop} (hQ : Q (nI (z_cn2 (z_su W t w) (2 ^ t))) (ZS m0 m1 md) M) :
    ∀ (z e : Nat), e + z = 2 ^ t → AW l g RX10 cX10_sets 4 (some .int) false (d + 1) 0 0 30 [some (.ref 99), some (.int (nI w)), some (.int (nI (z_cn2 (z_su W t w) e))), some (.int (nI e))] [] (ZS m0 m1 md) M (z_Qi Q) := by
  intro z
  have eb := z_allB t (by omega)
  have p6 := z_p6 ht2
  induction z with
  | zero =>
    intro e he
    have he : e = 2 ^ t := by omega
    subst he
    refine AW.iload_n 31 dX10_sets_30 rfl rfl ?_
    refine AW.iconst 32 (nI 1) dX10_sets_31 (by decide) rfl ?_
    refine AW.aload_n 33 dX10_sets_32 rfl rfl ?_
    refine AW.getI 36 dX10_sets_33 fX10_244 rfl (zI rfl rfl) rfl ?_
    refine AW.topi (nI t) ht ?_
    refine AW.ishl 37 dX10_sets_36 rfl ?_
    refine AW.topi (nI (2 ^ t)) eb ?_
    refine AW.icmpN_ge 40 63 dX10_sets_37 (by decide) rfl (by omega) (by omega) (fun b37 => ?_) (fun b37 => absurd b37 (by omega))
    refine AW.iload_n 64 dX10_sets_63 rfl rfl ?_
    refine AW.iret dX10_sets_64 .int rfl rfl rfl ⟨_, rfl, ?_⟩
    exact hQ
  | succ z ih =>
    intro e he
    have h9 := ih (e + 1) (by omega)
    rw [z_cn2] at h9
    refine AW.iload_n 31 dX10_sets_30 rfl rfl ?_
    refine AW.iconst 32 (nI 1) dX10_sets_31 (by decide) rfl ?_
    refine AW.aload_n 33 dX10_sets_32 rfl rfl ?_
    refine AW.getI 36 dX10_sets_33 fX10_244 rfl (zI rfl rfl) rfl ?_
    refine AW.topi (nI t) ht ?_
    refine AW.ishl 37 dX10_sets_36 rfl ?_
    refine AW.topi (nI (2 ^ t)) eb ?_
    refine AW.icmpN_ge 40 63 dX10_sets_37 (by decide) rfl (by omega) (by omega) (fun b37 => absurd b37 (by omega)) (fun b37 => ?_)
    refine AW.iload_n 41 dX10_sets_40 rfl rfl ?_
    refine AW.aload_n 42 dX10_sets_41 rfl rfl ?_
    refine AW.iload_n 43 dX10_sets_42 rfl rfl ?_
    refine AW.iload_n 44 dX10_sets_43 rfl rfl ?_
    refine AW.cVi2 47 dX10_sets_44 kX10_263 (zI rfl rfl) (Nat.le_of_ble_eq_true rfl) rfl (C_X10_isSuch ht ht2 hW (s := e) (by omega) hw (fun b44 => ?_) (fun b44 => ?_))
    · skip
      refine AW.if_eq 50 54 dX10_sets_47 (by decide) rfl (fun h => absurd h (by decide)) (fun _ => ?_)
      refine AW.iconst 51 (nI 1) dX10_sets_50 (by decide) rfl ?_
      refine AW.goto 55 dX10_sets_51 (by decide) ?_
      refine AW.iaddN 56 dX10_sets_55 rfl ?_
      refine AW.istn2 57 dX10_sets_56 (by decide) rfl rfl ?_
      refine AW.iinc3 60 _ dX10_sets_57 (z_inc1 _) (by decide) rfl rfl ?_
      refine AW.goto 30 dX10_sets_60 (by decide) ?_
      first | (rw [b44] at h9; exact h9) | (rw [Bool.eq_false_iff.2 b44] at h9; exact h9)
    · skip
      refine AW.if_eq 50 54 dX10_sets_47 (by decide) rfl (fun _ => ?_) (fun h => absurd h (by decide))
      refine AW.iconst 55 (nI 0) dX10_sets_54 (by decide) rfl ?_
      refine AW.iaddN 56 dX10_sets_55 rfl ?_
      refine AW.istn2 57 dX10_sets_56 (by decide) rfl rfl ?_
      refine AW.iinc3 60 _ dX10_sets_57 (z_inc1 _) (by decide) rfl rfl ?_
      refine AW.goto 30 dX10_sets_60 (by decide) ?_
      first | (rw [b44] at h9; exact h9) | (rw [Bool.eq_false_iff.2 b44] at h9; exact h9)
theorem L_X9_sets (ht : M 83 3 = nI t) (ht2 : t ≤ 6) (hW : ∀ s, s < 2 ^ t → M 87 s = z_bI (W s)) {w : Nat} (hw : w < 2) {Q : Int32 → zS → zM → Prop} (hQ : Q (nI (z_cn2 (z_su W t w) (2 ^ t))) (ZS m0 m1 md) M) :
    ∀ (z e : Nat), e + z = 2 ^ t → AW l g RX9 cX9_sets 4 (some .int) false (d + 2) 0 0 28 [some (.ref 0), some (.int (nI w)), some (.int (nI (z_cn2 (z_su W t w) e))), some (.int (nI e))] [] (ZS m0 m1 md) M (z_Qi Q) := by
  intro z
  have p6 := z_p6 ht2
  induction z with
  | zero =>
    intro e he
    have he : e = 2 ^ t := by omega
    subst he
    refine AW.iload_n 29 dX9_sets_28 rfl rfl ?_
    refine AW.aload_n 30 dX9_sets_29 rfl rfl ?_
    refine AW.getR 33 dX9_sets_30 fX9_67 rfl (zI rfl rfl) rfl rfl ?_
    refine AW.cVi0 36 dX9_sets_33 kX9_259 (zI rfl rfl) (Nat.le_of_ble_eq_true rfl) rfl (C_X7_allBits ht ht2 ?_)
    refine AW.icmpN_gt 39 71 dX9_sets_36 (by decide) rfl (by omega) (by omega) (fun b36 => ?_) (fun b36 => absurd b36 (by omega))
    refine AW.iload_n 72 dX9_sets_71 rfl rfl ?_
    refine AW.iret dX9_sets_72 .int rfl rfl rfl ⟨_, rfl, ?_⟩
    exact hQ
  | succ z ih =>
    intro e he
    have h9 := ih (e + 1) (by omega)
    rw [z_cn2] at h9
    rcases (by omega : w = 0 ∨ w = 1) with rfl | rfl
    · skip
      refine AW.iload_n 29 dX9_sets_28 rfl rfl ?_
      refine AW.aload_n 30 dX9_sets_29 rfl rfl ?_
      refine AW.getR 33 dX9_sets_30 fX9_67 rfl (zI rfl rfl) rfl rfl ?_
      refine AW.cVi0 36 dX9_sets_33 kX9_259 (zI rfl rfl) (Nat.le_of_ble_eq_true rfl) rfl (C_X7_allBits ht ht2 ?_)
      refine AW.icmpN_gt 39 71 dX9_sets_36 (by decide) rfl (by omega) (by omega) (fun b36 => absurd b36 (by omega)) (fun b36 => ?_)
      refine AW.iload_n 40 dX9_sets_39 rfl rfl ?_
      refine AW.if_ne 43 54 dX9_sets_40 (by decide) rfl (fun h => absurd h (by decide)) (fun _ => ?_)
      refine AW.aload_n 44 dX9_sets_43 rfl rfl ?_
      refine AW.iload_n 45 dX9_sets_44 rfl rfl ?_
      refine AW.cVi1 48 dX9_sets_45 kX9_273 (zI rfl rfl) (Nat.le_of_ble_eq_true rfl) rfl (C_X9_isBecause ht2 hW (s := e) (by omega) (fun b45 => ?_) (fun b45 => ?_))
      · skip
        refine AW.if_eq 51 65 dX9_sets_48 (by decide) rfl (fun h => absurd h (by decide)) (fun _ => ?_)
        refine AW.goto 62 dX9_sets_51 (by decide) ?_
        refine AW.iinc2 65 _ dX9_sets_62 (z_inc1 _) (by decide) rfl rfl ?_
        refine AW.iinc3 68 _ dX9_sets_65 (z_inc1 _) (by decide) rfl rfl ?_
        refine AW.goto 28 dX9_sets_68 (by decide) ?_
        first | (rw [show z_su W t 0 e = true from b45] at h9; exact h9) | (rw [show z_su W t 0 e = false from Bool.eq_false_iff.2 b45] at h9; exact h9)
      · skip
        refine AW.if_eq 51 65 dX9_sets_48 (by decide) rfl (fun _ => ?_) (fun h => absurd h (by decide))
        refine AW.iinc3 68 _ dX9_sets_65 (z_inc1 _) (by decide) rfl rfl ?_
        refine AW.goto 28 dX9_sets_68 (by decide) ?_
        first | (rw [show z_su W t 0 e = true from b45] at h9; exact h9) | (rw [show z_su W t 0 e = false from Bool.eq_false_iff.2 b45] at h9; exact h9)
    · skip
      refine AW.iload_n 29 dX9_sets_28 rfl rfl ?_
      refine AW.aload_n 30 dX9_sets_29 rfl rfl ?_
      refine AW.getR 33 dX9_sets_30 fX9_67 rfl (zI rfl rfl) rfl rfl ?_
      refine AW.cVi0 36 dX9_sets_33 kX9_259 (zI rfl rfl) (Nat.le_of_ble_eq_true rfl) rfl (C_X7_allBits ht ht2 ?_)
      refine AW.icmpN_gt 39 71 dX9_sets_36 (by decide) rfl (by omega) (by omega) (fun b36 => absurd b36 (by omega)) (fun b36 => ?_)
      refine AW.iload_n 40 dX9_sets_39 rfl rfl ?_
      refine AW.if_ne 43 54 dX9_sets_40 (by decide) rfl (fun _ => ?_) (fun h => absurd h (by decide))
      refine AW.aload_n 55 dX9_sets_54 rfl rfl ?_
      refine AW.iload_n 56 dX9_sets_55 rfl rfl ?_
      refine AW.cVi1 59 dX9_sets_56 kX9_276 (zI rfl rfl) (Nat.le_of_ble_eq_true rfl) rfl (C_X9_isEnough ht ht2 hW (s := e) (by omega) (fun b56 => ?_) (fun b56 => ?_))
      · skip
        refine AW.if_eq 62 65 dX9_sets_59 (by decide) rfl (fun h => absurd h (by decide)) (fun _ => ?_)
        refine AW.iinc2 65 _ dX9_sets_62 (z_inc1 _) (by decide) rfl rfl ?_
        refine AW.iinc3 68 _ dX9_sets_65 (z_inc1 _) (by decide) rfl rfl ?_
        refine AW.goto 28 dX9_sets_68 (by decide) ?_
        first | (rw [show z_su W t 1 e = true from b56] at h9; exact h9) | (rw [show z_su W t 1 e = false from Bool.eq_false_iff.2 b56] at h9; exact h9)
      · skip
        refine AW.if_eq 62 65 dX9_sets_59 (by decide) rfl (fun _ => ?_) (fun h => absurd h (by decide))
        refine AW.iinc3 68 _ dX9_sets_65 (z_inc1 _) (by decide) rfl rfl ?_
        refine AW.goto 28 dX9_sets_68 (by decide) ?_
        first | (rw [show z_su W t 1 e = true from b56] at h9; exact h9) | (rw [show z_su W t 1 e = false from Bool.eq_false_iff.2 b56] at h9; exact h9)
end LEAST
