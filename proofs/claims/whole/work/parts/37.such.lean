def z_en (W : Nat → Bool) (s : Nat) : Nat → Bool
  | 0 => true
  | e + 1 => z_en W s e && (decide ((e &&& s) ≠ 0) || W e)
def z_be (W : Nat → Bool) (s : Nat) : Bool := W 0 && !W s
def z_su (W : Nat → Bool) (t w s : Nat) : Bool := if w = 1 then z_en W s (2 ^ t) else z_be W s
theorem z_en_mono {W : Nat → Bool} {s e : Nat} (h : z_en W s e = false) : ∀ k, z_en W s (e + k) = false
  | 0 => h
  | k + 1 => by rw [← Nat.add_assoc, z_en, z_en_mono h k]; rfl
theorem z_en_0 (W : Nat → Bool) (s t : Nat) : (W 0 && z_en W s (2 ^ t)) = z_en W s (2 ^ t) := by
  cases h : W 0 with
  | true => simp
  | false =>
    have h1 : z_en W s 1 = false := by simp [z_en, h]
    have h2 := z_en_mono h1 (2 ^ t - 1)
    rw [show 1 + (2 ^ t - 1) = 2 ^ t from by have := Nat.two_pow_pos t; omega] at h2
    rw [h2]; rfl
theorem z_and64 : ∀ e, e < 64 → ∀ s, s < 64 → (nI e &&& nI s) = nI (e &&& s) := by decide +kernel
theorem z_and_lt {e s : Nat} (h : e < 64) : e &&& s < 64 := Nat.lt_of_le_of_lt Nat.and_le_left h
theorem z_sA {b y : Bool} (h : (z_bI b).toInt = 0) : false = (b && y) := by cases b <;> first | rfl | exact absurd h (by decide)
theorem z_sB {b w : Bool} {x : Nat} (h : ¬ (z_bI b).toInt = 0) (h2 : ¬ x = 0) : true = (b && (decide (x ≠ 0) || w)) := by
  cases b
  · exact absurd rfl h
  · rw [decide_eq_true h2]; rfl
theorem z_sC {b w : Bool} {x : Nat} (h : ¬ (z_bI b).toInt = 0) (h2 : x = 0) : w = (b && (decide (x ≠ 0) || w)) := by
  cases b
  · exact absurd rfl h
  · rw [decide_eq_false (fun h => h h2)]; rfl
theorem z_bt {b : Bool} (h : ¬ (z_bI b).toInt = 0) : b = true := by
  cases b
  · exact absurd rfl h
  · rfl
theorem z_bf {b : Bool} (h : (z_bI b).toInt = 0) : b = false := by
  cases b
  · rfl
  · exact absurd h (by decide)
def z_sz (b : Nat) : Nat → Nat
  | 0 => 0
  | k + 1 => z_sz b k + (b.testBit k).toNat
theorem z_sz_le (b : Nat) : ∀ k, z_sz b k ≤ k
  | 0 => Nat.le_refl _
  | k + 1 => by
    have := z_sz_le b k
    have h2 : (b.testBit k).toNat ≤ 1 := by cases b.testBit k <;> decide
    rw [z_sz]; omega
section SUCH
variable {l : Launch} {g : zG} {d m0 m1 md : Nat} {M : zM} {t : Nat} {W : Nat → Bool}
theorem L_X10_isSuch (ht : M 99 34 = nI t) (ht2 : t ≤ 6) (hW : ∀ s, s < 2 ^ t → M 130 s = z_bI (W s)) {s : Nat} (hs : s < 2 ^ t) {Q : Int32 → zS → zM → Prop} (hQ : Q (z_bI (W 0 && z_en W s (2 ^ t))) (ZS m0 m1 md) M) :
    ∀ (z e : Nat), e + z = 2 ^ t → ∀ b, b = (W 0 && z_en W s e) → AW l g RX10 cX10_isSuch 5 (some .boolean) false d 0 0 32 [some (.ref 99), some (.int (nI s)), some (.int (nI 1)), some (.int (z_bI b)), some (.int (nI e))] [] (ZS m0 m1 md) M (z_Qi Q) := by
  intro z
  have eb := z_allB t (by omega)
  have p6 := z_p6 ht2
  induction z with
  | zero =>
    intro e he b hb
    have he : e = 2 ^ t := by omega
    subst he
    subst hb
    refine AW.iload 34 dX10_isSuch_32 rfl rfl ?_
    refine AW.iconst 35 (nI 1) dX10_isSuch_34 (by decide) rfl ?_
    refine AW.aload_n 36 dX10_isSuch_35 rfl rfl ?_
    refine AW.getI 39 dX10_isSuch_36 fX10_244 rfl (zI rfl rfl) rfl ?_
    refine AW.topi (nI t) ht ?_
    refine AW.ishl 40 dX10_isSuch_39 rfl ?_
    refine AW.topi (nI (2 ^ t)) eb ?_
    refine AW.icmpN_ge 43 81 dX10_isSuch_40 (by decide) rfl (by omega) (by omega) (fun b40 => ?_) (fun b40 => absurd b40 (by omega))
    refine AW.iload_n 82 dX10_isSuch_81 rfl rfl ?_
    refine AW.iret dX10_isSuch_82 .boolean rfl (by cases (W 0 && z_en W s (2 ^ t)) <;> rfl) rfl ⟨_, rfl, ?_⟩
    exact hQ
  | succ z ih =>
    intro e he b hb
    have ea := z_and64 e (by omega) s (by omega)
    have la := z_and_lt (e := e) (s := s) (by omega)
    refine AW.iload 34 dX10_isSuch_32 rfl rfl ?_
    refine AW.iconst 35 (nI 1) dX10_isSuch_34 (by decide) rfl ?_
    refine AW.aload_n 36 dX10_isSuch_35 rfl rfl ?_
    refine AW.getI 39 dX10_isSuch_36 fX10_244 rfl (zI rfl rfl) rfl ?_
    refine AW.topi (nI t) ht ?_
    refine AW.ishl 40 dX10_isSuch_39 rfl ?_
    refine AW.topi (nI (2 ^ t)) eb ?_
    refine AW.icmpN_ge 43 81 dX10_isSuch_40 (by decide) rfl (by omega) (by omega) (fun b40 => absurd b40 (by omega)) (fun b40 => ?_)
    refine AW.iload_n 44 dX10_isSuch_43 rfl rfl ?_
    refine AW.iconst 45 (nI 1) dX10_isSuch_44 (by decide) rfl ?_
    refine AW.icmp_ne 48 81 dX10_isSuch_45 (by decide) rfl (fun h => absurd h (by decide)) (fun _ => ?_)
    refine AW.iload_n 49 dX10_isSuch_48 rfl rfl ?_
    refine AW.zif_eq 52 73 dX10_isSuch_49 (by decide) rfl rfl (fun b49 => ?_) (fun b49 => ?_)
    · skip
      refine AW.iconst 74 (nI 0) dX10_isSuch_73 (by decide) rfl ?_
      refine AW.topi (z_bI false) rfl ?_
      refine AW.istn3 75 dX10_isSuch_74 (by decide) rfl rfl ?_
      refine AW.iinc4 78 _ dX10_isSuch_75 (z_inc1 _) (by decide) rfl rfl ?_
      refine AW.goto 32 dX10_isSuch_78 (by decide) ?_
      refine ih (e + 1) (by omega) _ ?_
      rw [z_en, ← Bool.and_assoc, ← hb]
      first | exact z_sA b49 | exact z_sB b49 b56 | exact (z_bt b66).symm.trans (z_sC b49 b56) | exact (z_bf b66).symm.trans (z_sC b49 b56)
    · skip
      refine AW.iload 54 dX10_isSuch_52 rfl rfl ?_
      refine AW.iload_n 55 dX10_isSuch_54 rfl rfl ?_
      refine AW.iand 56 dX10_isSuch_55 rfl ?_
      refine AW.topi (nI (e &&& s)) ea ?_
      refine AW.ifN_ne 59 69 dX10_isSuch_56 (by decide) rfl (by omega) (fun b56 => ?_) (fun b56 => ?_)
      · skip
        refine AW.iconst 70 (nI 1) dX10_isSuch_69 (by decide) rfl ?_
        refine AW.topi (z_bI true) rfl ?_
        refine AW.goto 74 dX10_isSuch_70 (by decide) ?_
        refine AW.istn3 75 dX10_isSuch_74 (by decide) rfl rfl ?_
        refine AW.iinc4 78 _ dX10_isSuch_75 (z_inc1 _) (by decide) rfl rfl ?_
        refine AW.goto 32 dX10_isSuch_78 (by decide) ?_
        refine ih (e + 1) (by omega) _ ?_
        rw [z_en, ← Bool.and_assoc, ← hb]
        first | exact z_sA b49 | exact z_sB b49 b56 | exact (z_bt b66).symm.trans (z_sC b49 b56) | exact (z_bf b66).symm.trans (z_sC b49 b56)
      · skip
        refine AW.aload_n 60 dX10_isSuch_59 rfl rfl ?_
        refine AW.getR 63 dX10_isSuch_60 fX10_108 rfl (zI rfl rfl) rfl rfl ?_
        refine AW.iload 65 dX10_isSuch_63 rfl rfl ?_
        refine AW.bald 66 dX10_isSuch_65 (zA rfl rfl) rfl (by omega) (by decide) rfl ?_
        refine AW.topi (z_bI (W e)) (hW e (by omega)) ?_
        refine AW.zif_eq 69 73 dX10_isSuch_66 (by decide) rfl rfl (fun b66 => ?_) (fun b66 => ?_)
        · skip
          refine AW.iconst 74 (nI 0) dX10_isSuch_73 (by decide) rfl ?_
          refine AW.topi (z_bI false) rfl ?_
          refine AW.istn3 75 dX10_isSuch_74 (by decide) rfl rfl ?_
          refine AW.iinc4 78 _ dX10_isSuch_75 (z_inc1 _) (by decide) rfl rfl ?_
          refine AW.goto 32 dX10_isSuch_78 (by decide) ?_
          refine ih (e + 1) (by omega) _ ?_
          rw [z_en, ← Bool.and_assoc, ← hb]
          first | exact z_sA b49 | exact z_sB b49 b56 | exact (z_bt b66).symm.trans (z_sC b49 b56) | exact (z_bf b66).symm.trans (z_sC b49 b56)
        · skip
          refine AW.iconst 70 (nI 1) dX10_isSuch_69 (by decide) rfl ?_
          refine AW.topi (z_bI true) rfl ?_
          refine AW.goto 74 dX10_isSuch_70 (by decide) ?_
          refine AW.istn3 75 dX10_isSuch_74 (by decide) rfl rfl ?_
          refine AW.iinc4 78 _ dX10_isSuch_75 (z_inc1 _) (by decide) rfl rfl ?_
          refine AW.goto 32 dX10_isSuch_78 (by decide) ?_
          refine ih (e + 1) (by omega) _ ?_
          rw [z_en, ← Bool.and_assoc, ← hb]
          first | exact z_sA b49 | exact z_sB b49 b56 | exact (z_bt b66).symm.trans (z_sC b49 b56) | exact (z_bf b66).symm.trans (z_sC b49 b56)
theorem C_X10_isSuch1 (ht : M 99 34 = nI t) (ht2 : t ≤ 6) (hW : ∀ s, s < 2 ^ t → M 130 s = z_bI (W s)) {s : Nat} (hs : s < 2 ^ t) {Q : Int32 → zS → zM → Prop} (hQ : Q (z_bI (z_en W s (2 ^ t))) (ZS m0 m1 md) M) : AMet l g yX10_isSuch cX10_isSuch 5 (some .boolean) d 0 0 [.ref 99, .int (nI s), .int (nI 1)] (ZS m0 m1 md) M (z_Qi Q) := by
  have p6 := z_p6 ht2
  rw [← z_en_0] at hQ
  refine AMet.of (ini := false) rfl (fun h => by first | rfl | cases h) (Nat.le_of_ble_eq_true rfl) ?_
  show AW l g RX10 cX10_isSuch 5 (some .boolean) false _ _ _ 0 [some (.ref 99), some (.int (nI s)), some (.int (nI 1)), none, none] [] _ _ _
  refine AW.aload_n 1 dX10_isSuch_0 rfl rfl ?_
  refine AW.getR 4 dX10_isSuch_1 fX10_108 rfl (zI rfl rfl) rfl rfl ?_
  refine AW.iconst 5 (nI 0) dX10_isSuch_4 (by decide) rfl ?_
  refine AW.bald 6 dX10_isSuch_5 (zA rfl rfl) rfl (by omega) (by decide) rfl ?_
  refine AW.topi (z_bI (W 0)) (hW 0 (by omega)) ?_
  refine AW.zif_eq 9 27 dX10_isSuch_6 (by decide) rfl rfl (fun b6 => ?_) (fun b6 => ?_)
  · skip
    refine AW.iconst 28 (nI 0) dX10_isSuch_27 (by decide) rfl ?_
    refine AW.topi (z_bI false) rfl ?_
    refine AW.istn3 29 dX10_isSuch_28 (by decide) rfl rfl ?_
    refine AW.iconst 30 (nI 0) dX10_isSuch_29 (by decide) rfl ?_
    refine AW.ist4 32 dX10_isSuch_30 (by decide) rfl rfl ?_
    refine L_X10_isSuch ht ht2 hW hs hQ (2 ^ t) 0 (by omega) _ ?_
    first | exact (by rw [z_bt b6]; rfl : true = (W 0 && z_en W s 0)) | exact (by rw [z_bf b6]; rfl : false = (W 0 && z_en W s 0))
  · skip
    refine AW.iload_n 10 dX10_isSuch_9 rfl rfl ?_
    refine AW.iconst 11 (nI 1) dX10_isSuch_10 (by decide) rfl ?_
    refine AW.icmp_eq 14 23 dX10_isSuch_11 (by decide) rfl (fun _ => ?_) (fun h => absurd h (by decide))
    refine AW.iconst 24 (nI 1) dX10_isSuch_23 (by decide) rfl ?_
    refine AW.topi (z_bI true) rfl ?_
    refine AW.goto 28 dX10_isSuch_24 (by decide) ?_
    refine AW.istn3 29 dX10_isSuch_28 (by decide) rfl rfl ?_
    refine AW.iconst 30 (nI 0) dX10_isSuch_29 (by decide) rfl ?_
    refine AW.ist4 32 dX10_isSuch_30 (by decide) rfl rfl ?_
    refine L_X10_isSuch ht ht2 hW hs hQ (2 ^ t) 0 (by omega) _ ?_
    first | exact (by rw [z_bt b6]; rfl : true = (W 0 && z_en W s 0)) | exact (by rw [z_bf b6]; rfl : false = (W 0 && z_en W s 0))
theorem C_X10_isSuch0 (ht : M 99 34 = nI t) (ht2 : t ≤ 6) (hW : ∀ s, s < 2 ^ t → M 130 s = z_bI (W s)) {s : Nat} (hs : s < 2 ^ t) {Q : Int32 → zS → zM → Prop} (hQ : Q (z_bI (z_be W s)) (ZS m0 m1 md) M) : AMet l g yX10_isSuch cX10_isSuch 5 (some .boolean) d 0 0 [.ref 99, .int (nI s), .int (nI 0)] (ZS m0 m1 md) M (z_Qi Q) := by
  have p6 := z_p6 ht2
  have eb := z_allB t (by omega)
  refine AMet.of (ini := false) rfl (fun h => by first | rfl | cases h) (Nat.le_of_ble_eq_true rfl) ?_
  show AW l g RX10 cX10_isSuch 5 (some .boolean) false _ _ _ 0 [some (.ref 99), some (.int (nI s)), some (.int (nI 0)), none, none] [] _ _ _
  refine AW.aload_n 1 dX10_isSuch_0 rfl rfl ?_
  refine AW.getR 4 dX10_isSuch_1 fX10_108 rfl (zI rfl rfl) rfl rfl ?_
  refine AW.iconst 5 (nI 0) dX10_isSuch_4 (by decide) rfl ?_
  refine AW.bald 6 dX10_isSuch_5 (zA rfl rfl) rfl (by omega) (by decide) rfl ?_
  refine AW.topi (z_bI (W 0)) (hW 0 (by omega)) ?_
  refine AW.zif_eq 9 27 dX10_isSuch_6 (by decide) rfl rfl (fun b6 => ?_) (fun b6 => ?_)
  · skip
    refine AW.iconst 28 (nI 0) dX10_isSuch_27 (by decide) rfl ?_
    refine AW.istn3 29 dX10_isSuch_28 (by decide) rfl rfl ?_
    refine AW.iconst 30 (nI 0) dX10_isSuch_29 (by decide) rfl ?_
    refine AW.ist4 32 dX10_isSuch_30 (by decide) rfl rfl ?_
    refine AW.iload 34 dX10_isSuch_32 rfl rfl ?_
    refine AW.iconst 35 (nI 1) dX10_isSuch_34 (by decide) rfl ?_
    refine AW.aload_n 36 dX10_isSuch_35 rfl rfl ?_
    refine AW.getI 39 dX10_isSuch_36 fX10_244 rfl (zI rfl rfl) rfl ?_
    refine AW.topi (nI t) ht ?_
    refine AW.ishl 40 dX10_isSuch_39 rfl ?_
    refine AW.topi (nI (2 ^ t)) eb ?_
    refine AW.icmpN_ge 43 81 dX10_isSuch_40 (by decide) rfl (by omega) (by omega) (fun b40 => absurd b40 (by omega)) (fun b40 => ?_)
    refine AW.iload_n 44 dX10_isSuch_43 rfl rfl ?_
    refine AW.iconst 45 (nI 1) dX10_isSuch_44 (by decide) rfl ?_
    refine AW.icmp_ne 48 81 dX10_isSuch_45 (by decide) rfl (fun _ => ?_) (fun h => absurd h (by decide))
    refine AW.iload_n 82 dX10_isSuch_81 rfl rfl ?_
    refine AW.iret dX10_isSuch_82 .boolean rfl rfl rfl ⟨_, rfl, ?_⟩
    unfold z_be at hQ
    first | (rw [z_bt b6, z_bf b20] at hQ; exact hQ) | (rw [z_bt b6, z_bt b20] at hQ; exact hQ) | (rw [z_bf b6] at hQ; exact hQ)
  · skip
    refine AW.iload_n 10 dX10_isSuch_9 rfl rfl ?_
    refine AW.iconst 11 (nI 1) dX10_isSuch_10 (by decide) rfl ?_
    refine AW.icmp_eq 14 23 dX10_isSuch_11 (by decide) rfl (fun h => absurd h (by decide)) (fun _ => ?_)
    refine AW.aload_n 15 dX10_isSuch_14 rfl rfl ?_
    refine AW.getR 18 dX10_isSuch_15 fX10_108 rfl (zI rfl rfl) rfl rfl ?_
    refine AW.iload_n 19 dX10_isSuch_18 rfl rfl ?_
    refine AW.bald 20 dX10_isSuch_19 (zA rfl rfl) rfl (by omega) (by decide) rfl ?_
    refine AW.topi (z_bI (W s)) (hW s (by omega)) ?_
    refine AW.zif_ne 23 27 dX10_isSuch_20 (by decide) rfl rfl (fun b20 => ?_) (fun b20 => ?_)
    · skip
      refine AW.iconst 28 (nI 0) dX10_isSuch_27 (by decide) rfl ?_
      refine AW.istn3 29 dX10_isSuch_28 (by decide) rfl rfl ?_
      refine AW.iconst 30 (nI 0) dX10_isSuch_29 (by decide) rfl ?_
      refine AW.ist4 32 dX10_isSuch_30 (by decide) rfl rfl ?_
      refine AW.iload 34 dX10_isSuch_32 rfl rfl ?_
      refine AW.iconst 35 (nI 1) dX10_isSuch_34 (by decide) rfl ?_
      refine AW.aload_n 36 dX10_isSuch_35 rfl rfl ?_
      refine AW.getI 39 dX10_isSuch_36 fX10_244 rfl (zI rfl rfl) rfl ?_
      refine AW.topi (nI t) ht ?_
      refine AW.ishl 40 dX10_isSuch_39 rfl ?_
      refine AW.topi (nI (2 ^ t)) eb ?_
      refine AW.icmpN_ge 43 81 dX10_isSuch_40 (by decide) rfl (by omega) (by omega) (fun b40 => absurd b40 (by omega)) (fun b40 => ?_)
      refine AW.iload_n 44 dX10_isSuch_43 rfl rfl ?_
      refine AW.iconst 45 (nI 1) dX10_isSuch_44 (by decide) rfl ?_
      refine AW.icmp_ne 48 81 dX10_isSuch_45 (by decide) rfl (fun _ => ?_) (fun h => absurd h (by decide))
      refine AW.iload_n 82 dX10_isSuch_81 rfl rfl ?_
      refine AW.iret dX10_isSuch_82 .boolean rfl rfl rfl ⟨_, rfl, ?_⟩
      unfold z_be at hQ
      first | (rw [z_bt b6, z_bf b20] at hQ; exact hQ) | (rw [z_bt b6, z_bt b20] at hQ; exact hQ) | (rw [z_bf b6] at hQ; exact hQ)
    · skip
      refine AW.iconst 24 (nI 1) dX10_isSuch_23 (by decide) rfl ?_
      refine AW.goto 28 dX10_isSuch_24 (by decide) ?_
      refine AW.istn3 29 dX10_isSuch_28 (by decide) rfl rfl ?_
      refine AW.iconst 30 (nI 0) dX10_isSuch_29 (by decide) rfl ?_
      refine AW.ist4 32 dX10_isSuch_30 (by decide) rfl rfl ?_
      refine AW.iload 34 dX10_isSuch_32 rfl rfl ?_
      refine AW.iconst 35 (nI 1) dX10_isSuch_34 (by decide) rfl ?_
      refine AW.aload_n 36 dX10_isSuch_35 rfl rfl ?_
      refine AW.getI 39 dX10_isSuch_36 fX10_244 rfl (zI rfl rfl) rfl ?_
      refine AW.topi (nI t) ht ?_
      refine AW.ishl 40 dX10_isSuch_39 rfl ?_
      refine AW.topi (nI (2 ^ t)) eb ?_
      refine AW.icmpN_ge 43 81 dX10_isSuch_40 (by decide) rfl (by omega) (by omega) (fun b40 => absurd b40 (by omega)) (fun b40 => ?_)
      refine AW.iload_n 44 dX10_isSuch_43 rfl rfl ?_
      refine AW.iconst 45 (nI 1) dX10_isSuch_44 (by decide) rfl ?_
      refine AW.icmp_ne 48 81 dX10_isSuch_45 (by decide) rfl (fun _ => ?_) (fun h => absurd h (by decide))
      refine AW.iload_n 82 dX10_isSuch_81 rfl rfl ?_
      refine AW.iret dX10_isSuch_82 .boolean rfl rfl rfl ⟨_, rfl, ?_⟩
      unfold z_be at hQ
      first | (rw [z_bt b6, z_bf b20] at hQ; exact hQ) | (rw [z_bt b6, z_bt b20] at hQ; exact hQ) | (rw [z_bf b6] at hQ; exact hQ)
theorem C_X10_isSuch (ht : M 99 34 = nI t) (ht2 : t ≤ 6) (hW : ∀ s, s < 2 ^ t → M 130 s = z_bI (W s)) {s w : Nat} (hs : s < 2 ^ t) (hw : w < 2) {Q : Int32 → zS → zM → Prop} (h1 : z_su W t w s = true → Q (nI 1) (ZS m0 m1 md) M) (h0 : ¬ z_su W t w s = true → Q (nI 0) (ZS m0 m1 md) M) : AMet l g yX10_isSuch cX10_isSuch 5 (some .boolean) d 0 0 [.ref 99, .int (nI s), .int (nI w)] (ZS m0 m1 md) M (z_Qi Q) := by
  have hQ : Q (z_bI (z_su W t w s)) (ZS m0 m1 md) M := by
    cases h : z_su W t w s
    · exact h0 (by rw [h]; decide)
    · exact h1 h
  rcases (by omega : w = 0 ∨ w = 1) with rfl | rfl
  · exact C_X10_isSuch0 ht ht2 hW hs hQ
  · exact C_X10_isSuch1 ht ht2 hW hs hQ
theorem C_X9_isBecause (ht2 : t ≤ 6) (hW : ∀ s, s < 2 ^ t → M 87 s = z_bI (W s)) {s : Nat} (hs : s < 2 ^ t) {Q : Int32 → zS → zM → Prop} (h1 : z_be W s = true → Q (nI 1) (ZS m0 m1 md) M) (h0 : ¬ z_be W s = true → Q (nI 0) (ZS m0 m1 md) M) : AMet l g yX9_isBecause cX9_isBecause 2 (some .boolean) d 0 0 [.ref 0, .int (nI s)] (ZS m0 m1 md) M (z_Qi Q) := by
  have p6 := z_p6 ht2
  refine AMet.of (ini := false) rfl (fun h => by first | rfl | cases h) (Nat.le_of_ble_eq_true rfl) ?_
  show AW l g RX9 cX9_isBecause 2 (some .boolean) false _ _ _ 0 [some (.ref 0), some (.int (nI s))] [] _ _ _
  refine AW.aload_n 1 dX9_isBecause_0 rfl rfl ?_
  refine AW.getR 4 dX9_isBecause_1 fX9_71 rfl (zI rfl rfl) rfl rfl ?_
  refine AW.iconst 5 (nI 0) dX9_isBecause_4 (by decide) rfl ?_
  refine AW.bald 6 dX9_isBecause_5 (zA rfl rfl) rfl (by omega) (by decide) rfl ?_
  refine AW.topi (z_bI (W 0)) (hW 0 (by omega)) ?_
  refine AW.zif_eq 9 22 dX9_isBecause_6 (by decide) rfl rfl (fun b6 => ?_) (fun b6 => ?_)
  · skip
    refine AW.iconst 23 (nI 0) dX9_isBecause_22 (by decide) rfl ?_
    refine AW.iret dX9_isBecause_23 .boolean rfl rfl rfl ⟨_, rfl, ?_⟩
    unfold z_be at h1 h0
    first | exact h1 (by rw [z_bt b6, z_bf b15]; rfl) | exact h0 (by rw [z_bt b6, z_bt b15]; decide) | exact h0 (by rw [z_bf b6]; simp)
  · skip
    refine AW.aload_n 10 dX9_isBecause_9 rfl rfl ?_
    refine AW.getR 13 dX9_isBecause_10 fX9_71 rfl (zI rfl rfl) rfl rfl ?_
    refine AW.iload_n 14 dX9_isBecause_13 rfl rfl ?_
    refine AW.bald 15 dX9_isBecause_14 (zA rfl rfl) rfl (by omega) (by decide) rfl ?_
    refine AW.topi (z_bI (W s)) (hW s (by omega)) ?_
    refine AW.zif_ne 18 22 dX9_isBecause_15 (by decide) rfl rfl (fun b15 => ?_) (fun b15 => ?_)
    · skip
      refine AW.iconst 23 (nI 0) dX9_isBecause_22 (by decide) rfl ?_
      refine AW.iret dX9_isBecause_23 .boolean rfl rfl rfl ⟨_, rfl, ?_⟩
      unfold z_be at h1 h0
      first | exact h1 (by rw [z_bt b6, z_bf b15]; rfl) | exact h0 (by rw [z_bt b6, z_bt b15]; decide) | exact h0 (by rw [z_bf b6]; simp)
    · skip
      refine AW.iconst 19 (nI 1) dX9_isBecause_18 (by decide) rfl ?_
      refine AW.goto 23 dX9_isBecause_19 (by decide) ?_
      refine AW.iret dX9_isBecause_23 .boolean rfl rfl rfl ⟨_, rfl, ?_⟩
      unfold z_be at h1 h0
      first | exact h1 (by rw [z_bt b6, z_bf b15]; rfl) | exact h0 (by rw [z_bt b6, z_bt b15]; decide) | exact h0 (by rw [z_bf b6]; simp)
theorem L_X9_isEnough (ht : M 83 3 = nI t) (ht2 : t ≤ 6) (hW : ∀ s, s < 2 ^ t → M 87 s = z_bI (W s)) {s : Nat} (hs : s < 2 ^ t) {Q : Int32 → zS → zM → Prop} (h1 : z_en W s (2 ^ t) = true → Q (nI 1) (ZS m0 m1 md) M) (h0 : ¬ z_en W s (2 ^ t) = true → Q (nI 0) (ZS m0 m1 md) M) :
    ∀ (z e : Nat), e + z = 2 ^ t → z_en W s e = true → AW l g RX9 cX9_isEnough 3 (some .boolean) false (d + 1) 0 0 2 [some (.ref 0), some (.int (nI s)), some (.int (nI e))] [] (ZS m0 m1 md) M (z_Qi Q) := by
  intro z
  have p6 := z_p6 ht2
  induction z with
  | zero =>
    intro e he hb
    have he : e = 2 ^ t := by omega
    subst he
    refine AW.iload_n 3 dX9_isEnough_2 rfl rfl ?_
    refine AW.aload_n 4 dX9_isEnough_3 rfl rfl ?_
    refine AW.getR 7 dX9_isEnough_4 fX9_67 rfl (zI rfl rfl) rfl rfl ?_
    refine AW.cVi0 10 dX9_isEnough_7 kX9_259 (zI rfl rfl) (Nat.le_of_ble_eq_true rfl) rfl (C_X7_allBits ht ht2 ?_)
    refine AW.icmpN_gt 13 36 dX9_isEnough_10 (by decide) rfl (by omega) (by omega) (fun b10 => ?_) (fun b10 => absurd b10 (by omega))
    refine AW.iconst 37 (nI 1) dX9_isEnough_36 (by decide) rfl ?_
    refine AW.iret dX9_isEnough_37 .boolean rfl rfl rfl ⟨_, rfl, ?_⟩
    exact h1 hb
  | succ z ih =>
    intro e he hb
    have ea := z_and64 e (by omega) s (by omega)
    have la := z_and_lt (e := e) (s := s) (by omega)
    refine AW.iload_n 3 dX9_isEnough_2 rfl rfl ?_
    refine AW.aload_n 4 dX9_isEnough_3 rfl rfl ?_
    refine AW.getR 7 dX9_isEnough_4 fX9_67 rfl (zI rfl rfl) rfl rfl ?_
    refine AW.cVi0 10 dX9_isEnough_7 kX9_259 (zI rfl rfl) (Nat.le_of_ble_eq_true rfl) rfl (C_X7_allBits ht ht2 ?_)
    refine AW.icmpN_gt 13 36 dX9_isEnough_10 (by decide) rfl (by omega) (by omega) (fun b10 => absurd b10 (by omega)) (fun b10 => ?_)
    refine AW.iload_n 14 dX9_isEnough_13 rfl rfl ?_
    refine AW.iload_n 15 dX9_isEnough_14 rfl rfl ?_
    refine AW.iand 16 dX9_isEnough_15 rfl ?_
    refine AW.topi (nI (e &&& s)) ea ?_
    refine AW.ifN_ne 19 30 dX9_isEnough_16 (by decide) rfl (by omega) (fun b16 => ?_) (fun b16 => ?_)
    · skip
      refine AW.iinc2 33 _ dX9_isEnough_30 (z_inc1 _) (by decide) rfl rfl ?_
      refine AW.goto 2 dX9_isEnough_33 (by decide) ?_
      refine ih (e + 1) (by omega) ?_
      rw [z_en, hb]
      first | (rw [decide_eq_true b16]; rfl) | (rw [z_bt b25]; simp)
    · skip
      refine AW.aload_n 20 dX9_isEnough_19 rfl rfl ?_
      refine AW.getR 23 dX9_isEnough_20 fX9_71 rfl (zI rfl rfl) rfl rfl ?_
      refine AW.iload_n 24 dX9_isEnough_23 rfl rfl ?_
      refine AW.bald 25 dX9_isEnough_24 (zA rfl rfl) rfl (by omega) (by decide) rfl ?_
      refine AW.topi (z_bI (W e)) (hW e (by omega)) ?_
      refine AW.zif_ne 28 30 dX9_isEnough_25 (by decide) rfl rfl (fun b25 => ?_) (fun b25 => ?_)
      · skip
        refine AW.iinc2 33 _ dX9_isEnough_30 (z_inc1 _) (by decide) rfl rfl ?_
        refine AW.goto 2 dX9_isEnough_33 (by decide) ?_
        refine ih (e + 1) (by omega) ?_
        rw [z_en, hb]
        first | (rw [decide_eq_true b16]; rfl) | (rw [z_bt b25]; simp)
      · skip
        refine AW.iconst 29 (nI 0) dX9_isEnough_28 (by decide) rfl ?_
        refine AW.iret dX9_isEnough_29 .boolean rfl rfl rfl ⟨_, rfl, ?_⟩
        exact h0 (by
          have q1 : z_en W s (e + 1) = false := by rw [z_en, z_bf b25, decide_eq_false (fun h => h b16)]; simp
          have q2 := z_en_mono q1 z
          rw [show e + 1 + z = 2 ^ t from by omega] at q2
          rw [q2]; decide)
theorem C_X9_isEnough (ht : M 83 3 = nI t) (ht2 : t ≤ 6) (hW : ∀ s, s < 2 ^ t → M 87 s = z_bI (W s)) {s : Nat} (hs : s < 2 ^ t) {Q : Int32 → zS → zM → Prop} (h1 : z_en W s (2 ^ t) = true → Q (nI 1) (ZS m0 m1 md) M) (h0 : ¬ z_en W s (2 ^ t) = true → Q (nI 0) (ZS m0 m1 md) M) : AMet l g yX9_isEnough cX9_isEnough 3 (some .boolean) (d + 1) 0 0 [.ref 0, .int (nI s)] (ZS m0 m1 md) M (z_Qi Q) := by
  refine AMet.of (ini := false) rfl (fun h => by first | rfl | cases h) (Nat.le_of_ble_eq_true rfl) ?_
  show AW l g RX9 cX9_isEnough 3 (some .boolean) false _ _ _ 0 [some (.ref 0), some (.int (nI s)), none] [] _ _ _
  refine AW.iconst 1 (nI 0) dX9_isEnough_0 (by decide) rfl ?_
  refine AW.istn2 2 dX9_isEnough_1 (by decide) rfl rfl ?_
  exact L_X9_isEnough ht ht2 hW hs h1 h0 (2 ^ t) 0 (by omega) rfl
theorem L_X10_size {b : Nat} (hb : b < 64) {Q : Int32 → zS → zM → Prop} (hQ : Q (nI (z_sz b 8)) (ZS m0 m1 md) M) :
    ∀ (z k : Nat), k + z = 8 → AW l g RX10 cX10_size 3 (some .int) false d 0 0 4 [some (.int (nI b)), some (.int (nI (z_sz b k))), some (.int (nI k))] [] (ZS m0 m1 md) M (z_Qi Q) := by
  intro z
  induction z with
  | zero =>
    intro k hk
    have hk : k = 8 := by omega
    subst hk
    refine AW.iload_n 5 dX10_size_4 rfl rfl ?_
    refine AW.bipush 7 (nI 8) dX10_size_5 (by decide) rfl ?_
    refine AW.icmp_ge 10 24 dX10_size_7 (by decide) rfl (fun _ => ?_) (fun h => absurd h (by decide))
    refine AW.iload_n 25 dX10_size_24 rfl rfl ?_
    refine AW.iret dX10_size_25 .int rfl rfl rfl ⟨_, rfl, ?_⟩
    exact hQ
  | succ z ih =>
    intro k hk
    have e1 := z_bit b (by omega) k (by omega)
    refine AW.iload_n 5 dX10_size_4 rfl rfl ?_
    refine AW.bipush 7 (nI 8) dX10_size_5 (by decide) rfl ?_
    refine AW.icmpN_ge 10 24 dX10_size_7 (by decide) rfl (by omega) (by omega) (fun b7 => absurd b7 (by omega)) (fun b7 => ?_)
    refine AW.iload_n 11 dX10_size_10 rfl rfl ?_
    refine AW.iload_n 12 dX10_size_11 rfl rfl ?_
    refine AW.iload_n 13 dX10_size_12 rfl rfl ?_
    refine AW.ishr 14 dX10_size_13 rfl ?_
    refine AW.iconst 15 (nI 1) dX10_size_14 (by decide) rfl ?_
    refine AW.iand 16 dX10_size_15 rfl ?_
    refine AW.topi (nI (b.testBit k).toNat) e1 ?_
    refine AW.iaddN 17 dX10_size_16 rfl ?_
    refine AW.istn1 18 dX10_size_17 (by decide) rfl rfl ?_
    refine AW.iinc2 21 _ dX10_size_18 (z_inc1 _) (by decide) rfl rfl ?_
    refine AW.goto 4 dX10_size_21 (by decide) ?_
    exact ih (k + 1) (by omega)
theorem C_X10_size {b : Nat} (hb : b < 64) {Q : Int32 → zS → zM → Prop} (hQ : Q (nI (z_sz b 8)) (ZS m0 m1 md) M) : AMet l g yX10_size cX10_size 3 (some .int) d 0 0 [.int (nI b)] (ZS m0 m1 md) M (z_Qi Q) := by
  refine AMet.of (ini := false) rfl (fun h => by first | rfl | cases h) (Nat.le_of_ble_eq_true rfl) ?_
  show AW l g RX10 cX10_size 3 (some .int) false _ _ _ 0 [some (.int (nI b)), none, none] [] _ _ _
  refine AW.iconst 1 (nI 0) dX10_size_0 (by decide) rfl ?_
  refine AW.istn1 2 dX10_size_1 (by decide) rfl rfl ?_
  refine AW.iconst 3 (nI 0) dX10_size_2 (by decide) rfl ?_
  refine AW.istn2 4 dX10_size_3 (by decide) rfl rfl ?_
  exact L_X10_size hb hQ 8 0 (by omega)
end SUCH
