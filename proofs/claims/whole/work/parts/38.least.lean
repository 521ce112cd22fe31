def z_bst (P : Nat → Bool) : Nat → Option Nat
  | 0 => none
  | e + 1 => if P e = true ∧ (∀ b, z_bst P e = some b → z_sz e 8 < z_sz b 8) then some e else z_bst P e
def z_oI : Option Nat → Int32
  | none => -4
  | some b => nI b
def z_few : Option Nat → Nat
  | none => 7
  | some b => z_sz b 8
def z_cnt (P : Nat → Bool) : Nat → Nat
  | 0 => 0
  | e + 1 => z_cnt P e + (P e).toNat
theorem z_sz6 : ∀ b, b < 64 → z_sz b 8 < 7 := by decide +kernel
theorem z_bst_lt {P : Nat → Bool} {b : Nat} : ∀ e, z_bst P e = some b → b < e
  | 0, h => by cases h
  | e + 1, h => by
    rw [z_bst] at h
    split at h
    · cases h; omega
    · have := z_bst_lt e h; omega
theorem z_cnt_le (P : Nat → Bool) : ∀ e, z_cnt P e ≤ e
  | 0 => Nat.le_refl _
  | e + 1 => by
    have := z_cnt_le P e
    have h2 : (P e).toNat ≤ 1 := by cases P e <;> decide
    rw [z_cnt]; omega
section LEAST
variable {l : Launch} {g : zG} {d m0 m1 md : Nat} {M : zM} {t : Nat} {W : Nat → Bool}
theorem C_bitCount {b : Nat} (hb : b < 64) {S : zS} {Q : Int32 → zS → zM → Prop} (hQ : Q (nI (z_sz b 8)) S M) : AMet l g yJ6_bitCount_0f7a4 cJ6_bitCount_0f7a4 1 (some .int) d 0 0 [.int (nI b)] S M (z_Qi Q) := by
  refine AMet.of (ini := false) rfl (fun h => by first | rfl | cases h) (Nat.le_of_ble_eq_true rfl) ?_
  show AW l g RJ6 cJ6_bitCount_0f7a4 1 (some .int) false _ _ _ 0 [some (.int (nI b))] [] _ _ _
  refine AW.iload_n 1 dJ6_bitCount_0f7a4_0 rfl rfl ?_
  refine AW.iload_n 2 dJ6_bitCount_0f7a4_1 rfl rfl ?_
  refine AW.iconst 3 (nI 1) dJ6_bitCount_0f7a4_2 (by decide) rfl ?_
  refine AW.iushr 4 dJ6_bitCount_0f7a4_3 rfl ?_
  refine AW.ldcw 7 (nI 1431655765) dJ6_bitCount_0f7a4_4 qJ6_265 rfl ?_
  refine AW.iand 8 dJ6_bitCount_0f7a4_7 rfl ?_
  refine AW.isub 9 dJ6_bitCount_0f7a4_8 rfl ?_
  refine AW.istn0 10 dJ6_bitCount_0f7a4_9 (by decide) rfl rfl ?_
  refine AW.iload_n 11 dJ6_bitCount_0f7a4_10 rfl rfl ?_
  refine AW.ldcw 14 (nI 858993459) dJ6_bitCount_0f7a4_11 qJ6_266 rfl ?_
  refine AW.iand 15 dJ6_bitCount_0f7a4_14 rfl ?_
  refine AW.iload_n 16 dJ6_bitCount_0f7a4_15 rfl rfl ?_
  refine AW.iconst 17 (nI 2) dJ6_bitCount_0f7a4_16 (by decide) rfl ?_
  refine AW.iushr 18 dJ6_bitCount_0f7a4_17 rfl ?_
  refine AW.ldcw 21 (nI 858993459) dJ6_bitCount_0f7a4_18 qJ6_266 rfl ?_
  refine AW.iand 22 dJ6_bitCount_0f7a4_21 rfl ?_
  refine AW.iadd 23 dJ6_bitCount_0f7a4_22 rfl ?_
  refine AW.istn0 24 dJ6_bitCount_0f7a4_23 (by decide) rfl rfl ?_
  refine AW.iload_n 25 dJ6_bitCount_0f7a4_24 rfl rfl ?_
  refine AW.iload_n 26 dJ6_bitCount_0f7a4_25 rfl rfl ?_
  refine AW.iconst 27 (nI 4) dJ6_bitCount_0f7a4_26 (by decide) rfl ?_
  refine AW.iushr 28 dJ6_bitCount_0f7a4_27 rfl ?_
  refine AW.iadd 29 dJ6_bitCount_0f7a4_28 rfl ?_
  refine AW.ldcw 32 (nI 252645135) dJ6_bitCount_0f7a4_29 qJ6_267 rfl ?_
  refine AW.iand 33 dJ6_bitCount_0f7a4_32 rfl ?_
  refine AW.istn0 34 dJ6_bitCount_0f7a4_33 (by decide) rfl rfl ?_
  refine AW.iload_n 35 dJ6_bitCount_0f7a4_34 rfl rfl ?_
  refine AW.iload_n 36 dJ6_bitCount_0f7a4_35 rfl rfl ?_
  refine AW.bipush 38 (nI 8) dJ6_bitCount_0f7a4_36 (by decide) rfl ?_
  refine AW.iushr 39 dJ6_bitCount_0f7a4_38 rfl ?_
  refine AW.iadd 40 dJ6_bitCount_0f7a4_39 rfl ?_
  refine AW.istn0 41 dJ6_bitCount_0f7a4_40 (by decide) rfl rfl ?_
  refine AW.iload_n 42 dJ6_bitCount_0f7a4_41 rfl rfl ?_
  refine AW.iload_n 43 dJ6_bitCount_0f7a4_42 rfl rfl ?_
  refine AW.bipush 45 (nI 16) dJ6_bitCount_0f7a4_43 (by decide) rfl ?_
  refine AW.iushr 46 dJ6_bitCount_0f7a4_45 rfl ?_
  refine AW.iadd 47 dJ6_bitCount_0f7a4_46 rfl ?_
  refine AW.istn0 48 dJ6_bitCount_0f7a4_47 (by decide) rfl rfl ?_
  refine AW.iload_n 49 dJ6_bitCount_0f7a4_48 rfl rfl ?_
  refine AW.bipush 51 (nI 63) dJ6_bitCount_0f7a4_49 (by decide) rfl ?_
  refine AW.iand 52 dJ6_bitCount_0f7a4_51 rfl ?_
  refine AW.iret dJ6_bitCount_0f7a4_52 .int rfl rfl rfl ⟨_, rfl, ?_⟩
  refine (congrArg (fun v => Q v S M) (show _ = nI (z_sz b 8) from ?_)).mpr hQ
  clear hQ
  revert hb
  revert b
  decide +kernel
theorem L_X10_leastOf (ht : M 99 34 = nI t) (ht2 : t ≤ 6) (hW : ∀ s, s < 2 ^ t → M 130 s = z_bI (W s)) {w : Nat} (hw : w < 2) {Q : Int32 → zS → zM → Prop} (hQ : Q (z_oI (z_bst (z_su W t w) (2 ^ t))) (ZS m0 m1 md) M) :
    ∀ (z e : Nat), e + z = 2 ^ t → AW l g RX10 cX10_leastOf 4 (some .int) false (d + 1) 0 0 19 [some (.ref 99), some (.int (nI w)), some (.int (z_oI (z_bst (z_su W t w) e))), some (.int (nI e))] [] (ZS m0 m1 md) M (z_Qi Q) := by
  intro z
  have eb := z_allB t (by omega)
  have p6 := z_p6 ht2
  induction z with
  | zero =>
    intro e he
    have he : e = 2 ^ t := by omega
    subst he
    refine AW.iload_n 20 dX10_leastOf_19 rfl rfl ?_
    refine AW.iconst 21 (nI 1) dX10_leastOf_20 (by decide) rfl ?_
    refine AW.aload_n 22 dX10_leastOf_21 rfl rfl ?_
    refine AW.getI 25 dX10_leastOf_22 fX10_244 rfl (zI rfl rfl) rfl ?_
    refine AW.topi (nI t) ht ?_
    refine AW.ishl 26 dX10_leastOf_25 rfl ?_
    refine AW.topi (nI (2 ^ t)) eb ?_
    refine AW.icmpN_ge 29 65 dX10_leastOf_26 (by decide) rfl (by omega) (by omega) (fun b26 => ?_) (fun b26 => absurd b26 (by omega))
    refine AW.iload_n 66 dX10_leastOf_65 rfl rfl ?_
    refine AW.iret dX10_leastOf_66 .int rfl rfl rfl ⟨_, rfl, ?_⟩
    exact hQ
  | succ z ih =>
    intro e he
    have h9 := ih (e + 1) (by omega)
    rw [z_bst] at h9
    cases hB : z_bst (z_su W t w) e with
    | none =>
      rw [hB] at h9
      show AW l g RX10 cX10_leastOf 4 (some .int) false (d + 1) 0 0 19 [some (.ref 99), some (.int (nI w)), some (.int (-4)), some (.int (nI e))] [] (ZS m0 m1 md) M (z_Qi Q)
      refine AW.iload_n 20 dX10_leastOf_19 rfl rfl ?_
      refine AW.iconst 21 (nI 1) dX10_leastOf_20 (by decide) rfl ?_
      refine AW.aload_n 22 dX10_leastOf_21 rfl rfl ?_
      refine AW.getI 25 dX10_leastOf_22 fX10_244 rfl (zI rfl rfl) rfl ?_
      refine AW.topi (nI t) ht ?_
      refine AW.ishl 26 dX10_leastOf_25 rfl ?_
      refine AW.topi (nI (2 ^ t)) eb ?_
      refine AW.icmpN_ge 29 65 dX10_leastOf_26 (by decide) rfl (by omega) (by omega) (fun b26 => absurd b26 (by omega)) (fun b26 => ?_)
      refine AW.aload_n 30 dX10_leastOf_29 rfl rfl ?_
      refine AW.iload_n 31 dX10_leastOf_30 rfl rfl ?_
      refine AW.iload_n 32 dX10_leastOf_31 rfl rfl ?_
      refine AW.cVi2 35 dX10_leastOf_32 kX10_263 (zI rfl rfl) (Nat.le_of_ble_eq_true rfl) rfl (C_X10_isSuch ht ht2 hW (s := e) (by omega) hw (fun b32 => ?_) (fun b32 => ?_))
      · skip
        refine AW.if_eq 38 57 dX10_leastOf_35 (by decide) rfl (fun h => absurd h (by decide)) (fun _ => ?_)
        refine AW.iload_n 39 dX10_leastOf_38 rfl rfl ?_
        refine AW.if_lt 42 53 dX10_leastOf_39 (by decide) rfl (fun _ => ?_) (fun h => absurd h (by decide))
        refine AW.iload_n 54 dX10_leastOf_53 rfl rfl ?_
        refine AW.goto 58 dX10_leastOf_54 (by decide) ?_
        refine AW.istn2 59 dX10_leastOf_58 (by decide) rfl rfl ?_
        refine AW.iinc3 62 _ dX10_leastOf_59 (z_inc1 _) (by decide) rfl rfl ?_
        refine AW.goto 19 dX10_leastOf_62 (by decide) ?_
        first | (rw [if_pos ⟨b32, fun b hb => by cases hb⟩] at h9; exact h9) | (rw [if_neg (fun h => b32 h.1)] at h9; exact h9)
      · skip
        refine AW.if_eq 38 57 dX10_leastOf_35 (by decide) rfl (fun _ => ?_) (fun h => absurd h (by decide))
        refine AW.iload_n 58 dX10_leastOf_57 rfl rfl ?_
        refine AW.istn2 59 dX10_leastOf_58 (by decide) rfl rfl ?_
        refine AW.iinc3 62 _ dX10_leastOf_59 (z_inc1 _) (by decide) rfl rfl ?_
        refine AW.goto 19 dX10_leastOf_62 (by decide) ?_
        first | (rw [if_pos ⟨b32, fun b hb => by cases hb⟩] at h9; exact h9) | (rw [if_neg (fun h => b32 h.1)] at h9; exact h9)
    | some b =>
      have hbl := z_bst_lt e hB
      rw [hB] at h9
      have s1 := z_sz_le e 8
      have s2 := z_sz_le b 8
      show AW l g RX10 cX10_leastOf 4 (some .int) false (d + 1) 0 0 19 [some (.ref 99), some (.int (nI w)), some (.int (nI b)), some (.int (nI e))] [] (ZS m0 m1 md) M (z_Qi Q)
      refine AW.iload_n 20 dX10_leastOf_19 rfl rfl ?_
      refine AW.iconst 21 (nI 1) dX10_leastOf_20 (by decide) rfl ?_
      refine AW.aload_n 22 dX10_leastOf_21 rfl rfl ?_
      refine AW.getI 25 dX10_leastOf_22 fX10_244 rfl (zI rfl rfl) rfl ?_
      refine AW.topi (nI t) ht ?_
      refine AW.ishl 26 dX10_leastOf_25 rfl ?_
      refine AW.topi (nI (2 ^ t)) eb ?_
      refine AW.icmpN_ge 29 65 dX10_leastOf_26 (by decide) rfl (by omega) (by omega) (fun b26 => absurd b26 (by omega)) (fun b26 => ?_)
      refine AW.aload_n 30 dX10_leastOf_29 rfl rfl ?_
      refine AW.iload_n 31 dX10_leastOf_30 rfl rfl ?_
      refine AW.iload_n 32 dX10_leastOf_31 rfl rfl ?_
      refine AW.cVi2 35 dX10_leastOf_32 kX10_263 (zI rfl rfl) (Nat.le_of_ble_eq_true rfl) rfl (C_X10_isSuch ht ht2 hW (s := e) (by omega) hw (fun b32 => ?_) (fun b32 => ?_))
      · skip
        refine AW.if_eq 38 57 dX10_leastOf_35 (by decide) rfl (fun h => absurd h (by decide)) (fun _ => ?_)
        refine AW.iload_n 39 dX10_leastOf_38 rfl rfl ?_
        refine AW.ifN_lt 42 53 dX10_leastOf_39 (by decide) rfl (by omega) (fun b39 => absurd b39 (by omega)) (fun b39 => ?_)
        refine AW.iload_n 43 dX10_leastOf_42 rfl rfl ?_
        refine AW.cSi1 46 dX10_leastOf_43 kX10_266 (Nat.le_of_ble_eq_true rfl) rfl (C_X10_size (by omega) ?_)
        refine AW.iload_n 47 dX10_leastOf_46 rfl rfl ?_
        refine AW.cSi1 50 dX10_leastOf_47 kX10_266 (Nat.le_of_ble_eq_true rfl) rfl (C_X10_size (by omega) ?_)
        refine AW.icmpN_ge 53 57 dX10_leastOf_50 (by decide) rfl (by omega) (by omega) (fun b50 => ?_) (fun b50 => ?_)
        · skip
          refine AW.iload_n 58 dX10_leastOf_57 rfl rfl ?_
          refine AW.istn2 59 dX10_leastOf_58 (by decide) rfl rfl ?_
          refine AW.iinc3 62 _ dX10_leastOf_59 (z_inc1 _) (by decide) rfl rfl ?_
          refine AW.goto 19 dX10_leastOf_62 (by decide) ?_
          first | (rw [if_pos ⟨b32, fun c hc => by cases hc; omega⟩] at h9; exact h9) | (rw [if_neg (fun h => b32 h.1)] at h9; exact h9) | (rw [if_neg (fun h => by have := h.2 b rfl; omega)] at h9; exact h9)
        · skip
          refine AW.iload_n 54 dX10_leastOf_53 rfl rfl ?_
          refine AW.goto 58 dX10_leastOf_54 (by decide) ?_
          refine AW.istn2 59 dX10_leastOf_58 (by decide) rfl rfl ?_
          refine AW.iinc3 62 _ dX10_leastOf_59 (z_inc1 _) (by decide) rfl rfl ?_
          refine AW.goto 19 dX10_leastOf_62 (by decide) ?_
          first | (rw [if_pos ⟨b32, fun c hc => by cases hc; omega⟩] at h9; exact h9) | (rw [if_neg (fun h => b32 h.1)] at h9; exact h9) | (rw [if_neg (fun h => by have := h.2 b rfl; omega)] at h9; exact h9)
      · skip
        refine AW.if_eq 38 57 dX10_leastOf_35 (by decide) rfl (fun _ => ?_) (fun h => absurd h (by decide))
        refine AW.iload_n 58 dX10_leastOf_57 rfl rfl ?_
        refine AW.istn2 59 dX10_leastOf_58 (by decide) rfl rfl ?_
        refine AW.iinc3 62 _ dX10_leastOf_59 (z_inc1 _) (by decide) rfl rfl ?_
        refine AW.goto 19 dX10_leastOf_62 (by decide) ?_
        first | (rw [if_pos ⟨b32, fun c hc => by cases hc; omega⟩] at h9; exact h9) | (rw [if_neg (fun h => b32 h.1)] at h9; exact h9) | (rw [if_neg (fun h => by have := h.2 b rfl; omega)] at h9; exact h9)
theorem L_X9_leastSet (ht : M 83 3 = nI t) (ht2 : t ≤ 6) (hW : ∀ s, s < 2 ^ t → M 87 s = z_bI (W s)) {w : Nat} (hw : w < 2) {Q : Int32 → zS → zM → Prop} (hQ : Q (z_oI (z_bst (z_su W t w) (2 ^ t))) (ZS m0 m1 md) M) :
    ∀ (z e : Nat), e + z = 2 ^ t → ∀ x, AW l g RX9 cX9_leastSet 6 (some .int) false (d + 2) 0 0 13 [some (.ref 0), some (.int (nI w)), some (.int (z_oI (z_bst (z_su W t w) e))), some (.int (nI (z_few (z_bst (z_su W t w) e)))), some (.int (nI e)), x] [] (ZS m0 m1 md) M (z_Qi Q) := by
  intro z
  have p6 := z_p6 ht2
  induction z with
  | zero =>
    intro e he x
    have he : e = 2 ^ t := by omega
    subst he
    refine AW.iload 15 dX9_leastSet_13 rfl rfl ?_
    refine AW.aload_n 16 dX9_leastSet_15 rfl rfl ?_
    refine AW.getR 19 dX9_leastSet_16 fX9_67 rfl (zI rfl rfl) rfl rfl ?_
    refine AW.cVi0 22 dX9_leastSet_19 kX9_259 (zI rfl rfl) (Nat.le_of_ble_eq_true rfl) rfl (C_X7_allBits ht ht2 ?_)
    refine AW.icmpN_gt 25 75 dX9_leastSet_22 (by decide) rfl (by omega) (by omega) (fun b22 => ?_) (fun b22 => absurd b22 (by omega))
    refine AW.iload_n 76 dX9_leastSet_75 rfl rfl ?_
    refine AW.iret dX9_leastSet_76 .int rfl rfl rfl ⟨_, rfl, ?_⟩
    exact hQ
  | succ z ih =>
    intro e he x
    have h9 := ih (e + 1) (by omega)
    have s1 := z_sz6 e (by omega)
    have sf : (∀ b, z_bst (z_su W t w) e = some b → z_sz e 8 < z_sz b 8) ↔ z_sz e 8 < z_few (z_bst (z_su W t w) e) := by
      cases z_bst (z_su W t w) e with
      | none => exact ⟨fun _ => s1, fun _ b hb => by cases hb⟩
      | some b => exact ⟨fun h => h b rfl, fun h c hc => by cases hc; exact h⟩
    have sg : z_few (z_bst (z_su W t w) e) < 100 := by
      cases z_bst (z_su W t w) e with
      | none => decide
      | some b => exact Nat.lt_of_le_of_lt (z_sz_le b 8) (by decide)
    rw [z_bst] at h9
    rcases (by omega : w = 0 ∨ w = 1) with rfl | rfl
    · @walk X9_leastSet 13 N=3,4 C=1:0 skipfirst=1
      @ call 19: C_X7_allBits ht ht2 ?_
      @ callN 19: 1
      @ br 22: fall absurd b22 (by omega)
      @ call 27: C_bitCount (by omega) ?_
      @ callN 27: 1
      @ callb 57: C_X9_isBecause ht2 hW (s := e) (by omega)
      @ at 13: first | (rw [if_pos ⟨b57, sf.2 (by omega)⟩] at h9; exact h9 _) | (rw [if_neg (fun h => b57 h.1)] at h9; exact h9 _) | (rw [if_neg (fun h => by have := sf.1 h.2; omega)] at h9; exact h9 _)
      @.
    · @walk X9_leastSet 13 N=3,4 C=1:1 skipfirst=1
      @ call 19: C_X7_allBits ht ht2 ?_
      @ callN 19: 1
      @ br 22: fall absurd b22 (by omega)
      @ call 27: C_bitCount (by omega) ?_
      @ callN 27: 1
      @ callb 45: C_X9_isEnough ht ht2 hW (s := e) (by omega)
      @ at 13: first | (rw [if_pos ⟨b45, sf.2 (by omega)⟩] at h9; exact h9 _) | (rw [if_neg (fun h => b45 h.1)] at h9; exact h9 _) | (rw [if_neg (fun h => by have := sf.1 h.2; omega)] at h9; exact h9 _)
      @.
end LEAST
