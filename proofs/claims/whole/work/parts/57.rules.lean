theorem z_cnd {α : Type} {k c : Nat} {x x' y y' : α} (h1 : k < c → x = x') (h2 : c ≤ k → y = y') : cond (Nat.blt k c) x y = cond (Nat.blt k c) x' y' := by
  by_cases h : k < c
  · rw [h1 h]
    have e : Nat.blt k c = true := by rw [Nat.blt_eq]; exact h
    rw [e]; rfl
  · rw [h2 (by omega)]
    have e : Nat.blt k c = false := by
      cases e2 : Nat.blt k c with
      | false => rfl
      | true => rw [Nat.blt_eq] at e2; exact absurd e2 h
    rw [e]; rfl
theorem zRl_ne {m0 m1 md a0 a1 ad k : Nat} (h0 : k ≠ 0) (h1 : k ≠ 19) : zRl m0 m1 md k = zRl a0 a1 ad k := by
  unfold zRl
  repeat' (refine z_cnd (fun _ => ?_) (fun _ => ?_))
  all_goals first | rfl | (exfalso; omega)
theorem z_swap0 (m0 m1 md : Nat) : z_sR (z_sR (ZS m0 m1 md) 19 0 md) 0 3 m0 = ZS md m1 m0 := by
  unfold z_sR ZS
  refine Prod.ext rfl (Prod.ext rfl ?_)
  funext k j
  show va_up (va_up (zR m0 m1 md) 19 (va_up (zR m0 m1 md 19) 0 (some md))) 0 (va_up (va_up (zR m0 m1 md) 19 (va_up (zR m0 m1 md 19) 0 (some md)) 0) 3 (some m0)) k j = zR md m1 m0 k j
  by_cases h0 : k = 0
  · subst h0
    rw [va_up_self, va_up_ne _ _ (by decide : (0 : Nat) ≠ 19)]
    by_cases h3 : j = 3
    · subst h3; rw [va_up_self]; rfl
    · rw [va_up_ne _ _ h3]
      match j, h3 with
      | 0, _ => rfl | 1, _ => rfl | 2, _ => rfl | 3, h => exact absurd rfl h | 4, _ => rfl | 5, _ => rfl | 6, _ => rfl | 7, _ => rfl | 8, _ => rfl | 9, _ => rfl | 10, _ => rfl | 11, _ => rfl | 12, _ => rfl | j + 13, _ => rfl
  · rw [va_up_ne _ _ h0]
    by_cases h1 : k = 19
    · subst h1
      rw [va_up_self]
      match j with
      | 0 => rfl
      | 1 => rfl
      | j + 2 => rfl
    · rw [va_up_ne _ _ h1]; unfold zR; rw [zRl_ne h0 h1]
theorem z_swap1 (m0 m1 md : Nat) : z_sR (z_sR (ZS m0 m1 md) 19 1 md) 0 3 m1 = ZS m0 md m1 := by
  unfold z_sR ZS
  refine Prod.ext rfl (Prod.ext rfl ?_)
  funext k j
  show va_up (va_up (zR m0 m1 md) 19 (va_up (zR m0 m1 md 19) 1 (some md))) 0 (va_up (va_up (zR m0 m1 md) 19 (va_up (zR m0 m1 md 19) 1 (some md)) 0) 3 (some m1)) k j = zR m0 md m1 k j
  by_cases h0 : k = 0
  · subst h0
    rw [va_up_self, va_up_ne _ _ (by decide : (0 : Nat) ≠ 19)]
    by_cases h3 : j = 3
    · subst h3; rw [va_up_self]; rfl
    · rw [va_up_ne _ _ h3]
      match j, h3 with
      | 0, _ => rfl | 1, _ => rfl | 2, _ => rfl | 3, h => exact absurd rfl h | 4, _ => rfl | 5, _ => rfl | 6, _ => rfl | 7, _ => rfl | 8, _ => rfl | 9, _ => rfl | 10, _ => rfl | 11, _ => rfl | 12, _ => rfl | j + 13, _ => rfl
  · rw [va_up_ne _ _ h0]
    by_cases h1 : k = 19
    · subst h1
      rw [va_up_self]
      match j with
      | 0 => rfl
      | 1 => rfl
      | j + 2 => rfl
    · rw [va_up_ne _ _ h1]; unfold zR; rw [zRl_ne h0 h1]
theorem pp_ans_ge {E : pS} {k : Nat} (hE : E.2 ≤ 120) (hk : k ≤ 8) : 0 ≤ (pp_ans E k).toInt ↔ E.1 = false := by
  unfold pp_ans
  have e1 : ∀ p, p < 121 → ¬ 0 ≤ ((-20 : Int32) - nI p).toInt := by decide +kernel
  cases h : E.1 with
  | true => rw [if_pos rfl]; exact ⟨fun z => absurd z (e1 _ (by omega)), fun z => Bool.noConfusion z⟩
  | false => rw [if_neg Bool.false_ne_true, z_ti (by omega)]; exact ⟨fun _ => rfl, fun _ => by omega⟩
section RULES
variable {l : Launch} {g : zG} {d m0 m1 md : Nat} {M : zM} {n : Nat} {tp : Nat → Nat} {s : pS} {b : Nat}
theorem pp_st_run : ∀ q r, r + (q + 1) = 8 → (pp_st tp n r).2 ≤ n → (pp_run tp n (q + 1) r (pp_st tp n r)).2.2 ≤ n ∧ (pp_run tp n (q + 1) r (pp_st tp n r)).1 ≤ 8 ∧ r < (pp_run tp n (q + 1) r (pp_st tp n r)).1
  | 0, r, h, hn => by
    unfold pp_run
    rw [if_pos rfl]
    exact ⟨(pp_c_le (tp := tp) hn).2.2.2.2.1, by show r + 1 ≤ 8; omega, by show r < r + 1; omega⟩
  | q + 1, r, h, hn => by
    have h1 := (pp_c_le (tp := tp) hn).2.2.2.2.1
    have h2 := pp_pass_le (tp := tp) (c := 59) (by decide) h1
    unfold pp_run
    rw [if_neg (by omega)]
    by_cases e : (pp_pass tp n 59 (pp_cls tp n (pp_st tp n r))).1 = true
    · rw [if_pos e]
      have := pp_st_run q (r + 1) (by omega) h2.1
      exact ⟨this.1, this.2.1, Nat.lt_of_succ_lt this.2.2⟩
    · rw [if_neg e]
      exact ⟨h2.1, by show r + 1 ≤ 8; omega, by show r < r + 1; omega⟩
theorem L_X4_readRules (hb : zMb b) (hT : f_tp M n tp) {K : Nat × pS} {Q : Int32 → zS → zM → Prop}
    (hQ : ∀ (M' : zM) (r' : Int32), (∀ c, ¬ (3 ≤ c ∧ c ≤ 18) → ¬ (b ≤ c ∧ c < b + 13) → M' c = M c) → f_rd M' K.2 → M' b 4 = nI K.1 → (K.2.1 = false → f_ru tp n M' b K.1) → AW l g RX4 cX4_readRules 3 (some .int) false (d + 22) 0 0 48 [some (.ref 3), some (.ref b), some (.int r')] [] (ZS m0 m1 md) M' (z_Qi Q)) :
    ∀ (q r : Nat), r + (q + 1) = 8 → ∀ M' : zM, (∀ c, ¬ (3 ≤ c ∧ c ≤ 18) → ¬ (b ≤ c ∧ c < b + 13) → M' c = M c) → M' 3 4 = z_bI false → f_rd M' (pp_st tp n r) → (pp_st tp n r).2 ≤ n → f_ru tp n M' b r → pp_run tp n (q + 1) r (pp_st tp n r) = K → AW l g RX4 cX4_readRules 3 (some .int) false (d + 22) 0 0 12 [some (.ref 3), some (.ref b), some (.int (nI r))] [] (ZS m0 m1 md) M' (z_Qi Q) := by
  have hbl := zMb_lt hb
  have ext : ∀ r (M' M1 : zM), r < 8 → f_ru tp n M' b r → M1 (b + 1) = upd (M' (b + 1)) r (nI (pp_dig tp n (pp_st tp n r)).1) → M1 (b + 2) = upd (M' (b + 2)) r (nI (pp_c4 tp n (pp_st tp n r)).1) → M1 (b + 3) = upd (M' (b + 3)) r (pp_c6 tp n (pp_st tp n r)).1 → (∀ i, i < 8 → i ≠ r → M1 (b + 5 + i) = M' (b + 5 + i)) → (∀ w, w < 4 → ∀ x, x < 32 → pw_b (M1 (b + 5 + r) w) x = (pp_c2 tp n (pp_st tp n r)).2 w x) → f_ru tp n M1 b (r + 1) := by
    intro r M' M1 hr h e1 e2 e3 e4 e5 i hi
    by_cases e : i = r
    · subst e; rw [e1, e2, e3, z_upd_at, z_upd_at, z_upd_at]; exact ⟨rfl, rfl, rfl, e5⟩
    · rw [e1, e2, e3, z_upd_ne e, z_upd_ne e, z_upd_ne e, e4 i (by omega) e]; exact h i (by omega)
  intro q
  induction q with
  | zero =>
    intro r hr M' f h4 R hn h e
    have hr : r = 7 := by omega
    have t1 : f_tp M' n tp := hT.fr (f 1 (by omega) (by omega)) (f 2 (by omega) (by omega))
    have e : (r + 1, pp_cls tp n (pp_st tp n r)) = K := by rw [← e]; unfold pp_run; rw [if_pos rfl]
    subst e
    refine AW.iload_n 13 dX4_readRules_12 rfl rfl ?_
    refine AW.bipush 15 (nI 8) dX4_readRules_13 (by decide) rfl ?_
    refine AW.icmpN_ge 18 48 dX4_readRules_15 (by decide) rfl (by omega) (by omega) (fun b15 => absurd b15 (by omega)) (fun b15 => ?_)
    refine AW.aload_n 19 dX4_readRules_18 rfl rfl ?_
    refine AW.aload_n 20 dX4_readRules_19 rfl rfl ?_
    refine AW.iload_n 21 dX4_readRules_20 rfl rfl ?_
    refine AW.cVv2 24 dX4_readRules_21 kX4_47 (zI rfl rfl) (Nat.le_of_ble_eq_true rfl) rfl (C_X4_readClause (M := M') hb (by omega) t1 R hn h4 (fun M1 c1 c2 c3 c4 c5 c6 c7 c8 c9 => ?_))
    refine AW.iload_n 25 dX4_readRules_24 rfl rfl ?_
    refine AW.bipush 27 (nI 7) dX4_readRules_25 (by decide) rfl ?_
    refine AW.icmpN_eq 30 48 dX4_readRules_27 (by decide) rfl (by omega) (by omega) (fun b27 => ?_) (fun b27 => absurd (show r = 7 by omega) b27)
    exact hQ M1 _ (fun c k1 k2 => by rw [c1 c k1 k2]; exact f c k1 k2) c3 c4 (fun z => ext r M' M1 (by omega) h c5 c6 c7 c8 (c9 (pp_cls_nf hn z).1))
  | succ q ih =>
    intro r hr M' f h4 R hn h e
    have t1 : f_tp M' n tp := hT.fr (f 1 (by omega) (by omega)) (f 2 (by omega) (by omega))
    have hc := (pp_c_le (tp := tp) hn).2.2.2.2.1
    have hp := pp_pass_le (tp := tp) (c := 59) (by decide) hc
    unfold pp_run at e
    rw [if_neg (by omega)] at e
    refine AW.iload_n 13 dX4_readRules_12 rfl rfl ?_
    refine AW.bipush 15 (nI 8) dX4_readRules_13 (by decide) rfl ?_
    refine AW.icmpN_ge 18 48 dX4_readRules_15 (by decide) rfl (by omega) (by omega) (fun b15 => absurd b15 (by omega)) (fun b15 => ?_)
    refine AW.aload_n 19 dX4_readRules_18 rfl rfl ?_
    refine AW.aload_n 20 dX4_readRules_19 rfl rfl ?_
    refine AW.iload_n 21 dX4_readRules_20 rfl rfl ?_
    refine AW.cVv2 24 dX4_readRules_21 kX4_47 (zI rfl rfl) (Nat.le_of_ble_eq_true rfl) rfl (C_X4_readClause (M := M') hb (by omega) t1 R hn h4 (fun M1 c1 c2 c3 c4 c5 c6 c7 c8 c9 => ?_))
    refine AW.iload_n 25 dX4_readRules_24 rfl rfl ?_
    refine AW.bipush 27 (nI 7) dX4_readRules_25 (by decide) rfl ?_
    refine AW.icmpN_eq 30 48 dX4_readRules_27 (by decide) rfl (by omega) (by omega) (fun b27 => absurd b27 (by omega)) (fun b27 => ?_)
    have f1 : ∀ c, ¬ (3 ≤ c ∧ c ≤ 18) → ¬ (b ≤ c ∧ c < b + 13) → M1 c = M c := fun c k1 k2 => by rw [c1 c k1 k2]; exact f c k1 k2
    refine AW.aload_n 31 dX4_readRules_30 rfl rfl ?_
    refine AW.bipush 33 (nI 59) dX4_readRules_31 (by decide) rfl ?_
    refine AW.cVi1 36 dX4_readRules_33 kX4_51 (zI rfl rfl) (Nat.le_of_ble_eq_true rfl) rfl (C_X4_takes (M := M1) (hT.fr (f1 1 (by omega) (by omega)) (f1 2 (by omega) (by omega))) c3 hc (by decide) (by decide) (fun M2 => ?_) (fun M2 => ?_))
    · skip
      intro a r2 p
      rw [if_pos p] at e
      have nf := (pp_pass_yes p).1
      have hru := ext r M' M1 (by omega) h c5 c6 c7 c8 (c9 (pp_cls_nf hn nf).1)
      have hru2 : f_ru tp n M2 b (r + 1) := fun i hi => by rw [a.1 _ (by omega), a.1 _ (by omega), a.1 _ (by omega), a.1 _ (by omega)]; exact hru i hi
      refine AW.if_ne 39 42 dX4_readRules_36 (by decide) rfl (fun _ => ?_) (fun h => absurd h (by decide))
      refine AW.iinc2 45 _ dX4_readRules_42 (z_inc1 _) (by decide) rfl rfl ?_
      refine AW.goto 12 dX4_readRules_45 (by decide) ?_
      exact ih (r + 1) (by omega) M2 (fun c k1 k2 => by rw [a.1 c (by omega)]; exact f1 c k1 k2) (by rw [a.2 4 (by decide) (by decide)]; exact c2) r2 hp.1 hru2 e
    · skip
      intro a r2 p
      rw [if_neg (by rw [p]; exact Bool.false_ne_true)] at e
      rw [← pp_pass_no p] at r2
      subst e
      refine AW.if_ne 39 42 dX4_readRules_36 (by decide) rfl (fun h => absurd h (by decide)) (fun _ => ?_)
      refine AW.goto 48 dX4_readRules_39 (by decide) ?_
      exact hQ M2 _ (fun c k1 k2 => by rw [a.1 c (by omega)]; exact f1 c k1 k2) r2 (by rw [a.1 _ (by omega)]; exact c4) (fun z i hi => by rw [a.1 _ (by omega), a.1 _ (by omega), a.1 _ (by omega), a.1 _ (by omega)]; exact ext r M' M1 (by omega) h c5 c6 c7 c8 (c9 (pp_cls_nf hn (hp.2.2.1.symm.trans z)).1) i hi)
theorem C_X4_readRules (hb : zMb b) (hT : f_tp M n tp) {Q : Int32 → zS → zM → Prop} (hQ : ∀ M' : zM, (∀ c, ¬ (3 ≤ c ∧ c ≤ 18) → ¬ (b ≤ c ∧ c < b + 13) → M' c = M c) → ((pp_E tp n).1 = false → M' b 4 = nI (pp_K tp n).1 ∧ f_ru tp n M' b (pp_K tp n).1) → Q (pp_ans (pp_E tp n) (pp_K tp n).1) (ZS m0 m1 md) M') : AMet l g yX4_readRules cX4_readRules 3 (some .int) (d + 22) 0 0 [.ref 3, .ref b] (ZS m0 m1 md) M (z_Qi Q) := by
  have hbl := zMb_lt hb
  have hK := pp_st_run (tp := tp) (n := n) 7 0 (by omega) (Nat.zero_le _)
  refine AMet.of (ini := false) rfl (fun h => by first | rfl | cases h) (Nat.le_of_ble_eq_true rfl) ?_
  show AW l g RX4 cX4_readRules 3 (some .int) false _ _ _ 0 [some (.ref 3), some (.ref b), none] [] _ _ _
  refine AW.aload_n 1 dX4_readRules_0 rfl rfl ?_
  refine AW.iconst 2 (nI 0) dX4_readRules_1 (by decide) rfl ?_
  refine AW.cVv1 5 dX4_readRules_2 kX4_38 (zI rfl rfl) (Nat.le_of_ble_eq_true rfl) rfl (C_X4_start (Or.inl rfl) (fun M1 a1 a2 a3 => ?_))
  refine AW.aload_n 6 dX4_readRules_5 rfl rfl ?_
  refine AW.iconst 7 (nI 0) dX4_readRules_6 (by decide) rfl ?_
  refine AW.putI 10 .int dX4_readRules_7 pX4_42 rfl (zMb_is hb) rfl rfl rfl ?_
  refine AW.iconst 11 (nI 0) dX4_readRules_10 (by decide) rfl ?_
  refine AW.istn2 12 dX4_readRules_11 (by decide) rfl rfl ?_
  refine L_X4_readRules (M := M) hb hT (K := pp_K tp n) (fun M2 r' f2 r2 k2 h2 => ?_) 7 0 (by omega) (z_st M1 b 4 (nI 0)) (fun c k1 k2 => by rw [z_st_ne (by omega)]; exact a1 c (by omega)) (by rw [z_st_ne (by omega)]; exact a2) ⟨by rw [z_st_ne (by omega)]; exact a3.1, by rw [z_st_ne (by omega)]; exact a3.2⟩ (Nat.zero_le _) (fun i hi => absurd hi (by omega)) rfl
  refine AW.aload_n 49 dX4_readRules_48 rfl rfl ?_
  refine AW.cVv0 52 dX4_readRules_49 kX4_55 (zI rfl rfl) (Nat.le_of_ble_eq_true rfl) rfl (C_X4_needEnd (M := M2) (hT.fr (f2 1 (by omega) (by omega)) (f2 2 (by omega) (by omega))) r2 hK.1 (fun M3 a3 r3 => ?_))
  have fin := hQ M3 (fun c k1 k2 => by rw [a3.1 c (by omega)]; exact f2 c k1 k2) (fun z => ⟨by rw [a3.1 _ (by omega)]; exact k2, fun i hi => by rw [a3.1 _ (by omega), a3.1 _ (by omega), a3.1 _ (by omega), a3.1 _ (by omega)]; exact h2 (pp_end_nf z) i hi⟩)
  unfold pp_ans at fin
  refine AW.aload_n 53 dX4_readRules_52 rfl rfl ?_
  refine AW.getI 56 dX4_readRules_53 fX4_27 rfl (zI rfl rfl) rfl ?_
  refine AW.topi (z_bI (pp_E tp n).1) r3.1 ?_
  refine AW.zif_eq 59 69 dX4_readRules_56 (by decide) rfl rfl (fun b56 => ?_) (fun b56 => ?_)
  · skip
    refine AW.aload_n 70 dX4_readRules_69 rfl rfl ?_
    refine AW.getI 73 dX4_readRules_70 fX4_42 rfl (zMb_is hb) rfl ?_
    refine AW.topi (nI (pp_K tp n).1) (by rw [a3.1 _ (by omega)]; exact k2) ?_
    refine AW.iret dX4_readRules_73 .int rfl rfl rfl ⟨_, rfl, ?_⟩
    first | (rw [if_pos (z_bt b56)] at fin; exact fin) | (rw [if_neg (by rw [z_bf b56]; exact Bool.false_ne_true)] at fin; exact fin)
  · skip
    refine AW.bipush 61 (-20) dX4_readRules_59 (by decide) rfl ?_
    refine AW.aload_n 62 dX4_readRules_61 rfl rfl ?_
    refine AW.getI 65 dX4_readRules_62 fX4_30 rfl (zI rfl rfl) rfl ?_
    refine AW.topi (nI (pp_E tp n).2) r3.2 ?_
    refine AW.isub 66 dX4_readRules_65 rfl ?_
    refine AW.goto 73 dX4_readRules_66 (by decide) ?_
    refine AW.iret dX4_readRules_73 .int rfl rfl rfl ⟨_, rfl, ?_⟩
    first | (rw [if_pos (z_bt b56)] at fin; exact fin) | (rw [if_neg (by rw [z_bf b56]; exact Bool.false_ne_true)] at fin; exact fin)
theorem C_X4_readDuty (hT : f_tp M n tp) {Q : Int32 → zS → zM → Prop} (hQ : ∀ M' : zM, (∀ c, ¬ (3 ≤ c ∧ c ≤ 18) → c ≠ 89 → M' c = M c) → ((pp_end tp n (pp_T tp n true 5 (false, 0)).1).1 = false → pR (M' 89) (pp_T tp n true 5 (false, 0)).2) → ((pp_end tp n (pp_T tp n true 5 (false, 0)).1).1 = true → M' 89 = M 89) → Q (pp_ans (pp_end tp n (pp_T tp n true 5 (false, 0)).1) 1) (ZS m0 m1 md) M') : AMet l g yX4_readDuty cX4_readDuty 2 (some .int) (d + 21) 0 0 [.ref 3, .ref 89] (ZS m0 m1 md) M (z_Qi Q) := by
  have kT : f_KT l g m0 m1 md n tp true (d + 20) 0 (pp_T tp n true 5) := C_X4_tests (d := d) 5 0 rfl
  have g1 := (pp_T_good (tp := tp) (n := n) true 5).2 (false, 0) (Nat.zero_le _)
  refine AMet.of (ini := false) rfl (fun h => by first | rfl | cases h) (Nat.le_of_ble_eq_true rfl) ?_
  show AW l g RX4 cX4_readDuty 2 (some .int) false _ _ _ 0 [some (.ref 3), some (.ref 89)] [] _ _ _
  refine AW.aload_n 1 dX4_readDuty_0 rfl rfl ?_
  refine AW.iconst 2 (nI 1) dX4_readDuty_1 (by decide) rfl ?_
  refine AW.cVv1 5 dX4_readDuty_2 kX4_38 (zI rfl rfl) (Nat.le_of_ble_eq_true rfl) rfl (C_X4_start (Or.inr rfl) (fun M1 a1 a2 a3 => ?_))
  refine AW.aload_n 6 dX4_readDuty_5 rfl rfl ?_
  refine AW.iconst 7 (nI 0) dX4_readDuty_6 (by decide) rfl ?_
  refine AW.cVv1 10 dX4_readDuty_7 kX4_58 (zI rfl rfl) (Nat.le_of_ble_eq_true rfl) rfl (kT M1 (false, 0) _ (hT.fr (a1 1 (by decide)) (a1 2 (by decide))) a3 (Nat.zero_le _) a2 (fun M2 f2 r2 h2 => ?_))
  refine AW.aload_n 11 dX4_readDuty_10 rfl rfl ?_
  refine AW.cVv0 14 dX4_readDuty_11 kX4_55 (zI rfl rfl) (Nat.le_of_ble_eq_true rfl) rfl (C_X4_needEnd (M := M2) (hT.fr (by rw [f2.1 1 (by decide) (by decide) (by omega) (by omega)]; exact a1 1 (by decide)) (by rw [f2.1 2 (by decide) (by decide) (by omega) (by omega)]; exact a1 2 (by decide))) r2 g1.1 (fun M3 a3 r3 => ?_))
  have f3 : ∀ c, ¬ (3 ≤ c ∧ c ≤ 18) → M3 c = M c := fun c k1 => by rw [a3.1 c (by omega), f2.1 c (by omega) (by omega) (by omega) (by omega)]; exact a1 c (by omega)
  refine AW.aload_n 15 dX4_readDuty_14 rfl rfl ?_
  refine AW.getI 18 dX4_readDuty_15 fX4_27 rfl (zI rfl rfl) rfl ?_
  refine AW.topi (z_bI (pp_end tp n (pp_T tp n true 5 (false, 0)).1).1) r3.1 ?_
  refine AW.zif_eq 21 29 dX4_readDuty_18 (by decide) rfl rfl (fun b18 => ?_) (fun b18 => ?_)
  · skip
    refine AW.aload_n 30 dX4_readDuty_29 rfl rfl ?_
    refine AW.getR 33 dX4_readDuty_30 fX4_11 rfl (zI rfl rfl) rfl rfl ?_
    refine AW.iconst 34 (nI 0) dX4_readDuty_33 (by decide) rfl ?_
    refine AW.aald 35 dX4_readDuty_34 (zA rfl rfl) (by decide) rfl (by omega) (by decide) rfl rfl ?_
    refine AW.iconst 36 (nI 0) dX4_readDuty_35 (by decide) rfl ?_
    refine AW.aload_n 37 dX4_readDuty_36 rfl rfl ?_
    refine AW.iconst 38 (nI 0) dX4_readDuty_37 (by decide) rfl ?_
    refine AW.bipush 40 (nI 16) dX4_readDuty_38 (by decide) rfl ?_
    refine AW.copy 43 dX4_readDuty_40 qX4_62 (zA rfl rfl) (zA rfl rfl) rfl rfl rfl (by omega) (by omega) (by decide) (by decide) (Nat.le_of_ble_eq_true rfl) rfl ?_
    refine AW.iconst 44 (nI 1) dX4_readDuty_43 (by decide) rfl ?_
    refine AW.iret dX4_readDuty_44 .int rfl rfl rfl ⟨_, rfl, ?_⟩
    have fin := hQ (z_row M3 89 (va_cpy (M3 5) (M3 89) 0 0 16)) (fun c k1 k2 => by rw [z_row_ne _ k2]; exact f3 c k1) (fun z i hi x hx => by
      rw [z_row_at, pk_cpy_in (by omega) (by omega), a3.1 5 (by decide)]
      have h9 := h2 (pp_end_nf z) i hi x hx
      rw [show 0 + (i - 0) = i by omega]
      exact h9) (fun z => by rw [z_bf b18] at z; exact Bool.noConfusion z)
    unfold pp_ans at fin
    rw [if_neg (by rw [z_bf b18]; exact Bool.false_ne_true)] at fin
    exact fin
  · skip
    refine AW.bipush 23 (-20) dX4_readDuty_21 (by decide) rfl ?_
    refine AW.aload_n 24 dX4_readDuty_23 rfl rfl ?_
    refine AW.getI 27 dX4_readDuty_24 fX4_30 rfl (zI rfl rfl) rfl ?_
    refine AW.topi (nI (pp_end tp n (pp_T tp n true 5 (false, 0)).1).2) r3.2 ?_
    refine AW.isub 28 dX4_readDuty_27 rfl ?_
    refine AW.iret dX4_readDuty_28 .int rfl rfl rfl ⟨_, rfl, ?_⟩
    have fin := hQ M3 (fun c k1 _ => f3 c k1) (fun z => by rw [z_bt b18] at z; exact Bool.noConfusion z) (fun _ => f3 89 (by omega))
    unfold pp_ans at fin
    rw [if_pos (z_bt b18)] at fin
    exact fin
end RULES
