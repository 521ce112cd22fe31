def g_ru (tp : Nat → Nat) (n : Nat) (M : zM) (r : Nat) : Prop := ∀ i, i < r → M 109 i = nI (pp_dig tp n (pp_st tp n i)).1 ∧ M 110 i = nI (pp_c4 tp n (pp_st tp n i)).1 ∧ M 111 i = (pp_c6 tp n (pp_st tp n i)).1 ∧ ∀ j, j < 128 → M 112 (128 * i + j) = z_bI ((pp_c2 tp n (pp_st tp n i)).2 (j / 32) (j % 32))
def g_rm (tp : Nat → Nat) (n : Nat) (M : zM) (a r : Nat) : Prop := ∀ i, i < r → M 105 (8 * a + i) = nI (pp_dig tp n (pp_st tp n i)).1 ∧ M 106 (8 * a + i) = nI (pp_c4 tp n (pp_st tp n i)).1 ∧ M 107 (8 * a + i) = (pp_c6 tp n (pp_st tp n i)).1 ∧ ∀ j, j < 128 → M 108 (128 * (8 * a + i) + j) = z_bI ((pp_c2 tp n (pp_st tp n i)).2 (j / 32) (j % 32))
theorem z_bI_nar (b : Bool) : vp_nar .boolean (z_bI b) = z_bI b := by cases b <;> rfl
section MRULES
variable {l : Launch} {g : zG} {d m0 m1 md : Nat} {M : zM} {n : Nat} {tp : Nat → Nat} {s : pS}
theorem L_X10_rules1 (hT : g_tp M n tp) {K : Nat × pS} {v1 : Int32} {Q : Int32 → zS → zM → Prop}
    (hQ : ∀ M', g_frL M M' → g_rd M' K.2 → (K.2.1 = false → g_ru tp n M' K.1) → AW l g RX10 cX10_rules 6 (some .int) false (d + 5) 0 0 59 [some (.ref 99), some (.int v1), some (.int (nI K.1)), some (.int (nI 0)), none, none] [] (ZS m0 m1 md) M' (z_Qi Q)) :
    ∀ (q r : Nat), r + (q + 1) = 8 → ∀ M' : zM, g_frL M M' → g_rd M' (pp_st tp n r) → (pp_st tp n r).2 ≤ n → g_ru tp n M' r → pp_run tp n (q + 1) r (pp_st tp n r) = K → AW l g RX10 cX10_rules 6 (some .int) false (d + 5) 0 0 23 [some (.ref 99), some (.int v1), some (.int (nI r)), some (.int (nI 1)), none, none] [] (ZS m0 m1 md) M' (z_Qi Q) := by
  have ext : ∀ r (M' M1 : zM), r < 8 → g_ru tp n M' r → M1 109 = upd (M' 109) r (nI (pp_dig tp n (pp_st tp n r)).1) → M1 110 = upd (M' 110) r (nI (pp_c4 tp n (pp_st tp n r)).1) → M1 111 = upd (M' 111) r (pp_c6 tp n (pp_st tp n r)).1 → (∀ j, ¬ (128 * r ≤ j ∧ j < 128 * r + 128) → M1 112 j = M' 112 j) → (∀ j, j < 128 → M1 112 (128 * r + j) = z_bI ((pp_c2 tp n (pp_st tp n r)).2 (j / 32) (j % 32))) → g_ru tp n M1 (r + 1) := by
    intro r M' M1 hr h e1 e2 e3 e4 e5 i hi
    by_cases e : i = r
    · subst e; rw [e1, e2, e3, z_upd_at, z_upd_at, z_upd_at]; exact ⟨rfl, rfl, rfl, e5⟩
    · rw [e1, e2, e3, z_upd_ne e, z_upd_ne e, z_upd_ne e]
      obtain ⟨h1, h2, h3, h4⟩ := h i (by omega)
      exact ⟨h1, h2, h3, fun j hj => by rw [e4 _ (by omega)]; exact h4 j hj⟩
  intro q
  induction q with
  | zero =>
    intro r hr M' F R hn h e
    have hr : r = 7 := by omega
    have e : (r + 1, pp_cls tp n (pp_st tp n r)) = K := by rw [← e]; unfold pp_run; rw [if_pos rfl]
    subst e
    refine AW.iload_n 24 dX10_rules_23 rfl rfl ?_
    refine AW.if_eq 27 59 dX10_rules_24 (by decide) rfl (fun h => absurd h (by decide)) (fun _ => ?_)
    refine AW.aload_n 28 dX10_rules_27 rfl rfl ?_
    refine AW.iload_n 29 dX10_rules_28 rfl rfl ?_
    refine AW.cVv1 32 dX10_rules_29 kX10_176 (zI rfl rfl) (Nat.le_of_ble_eq_true rfl) rfl (C_X10_clause (M := M') (by omega) (hT.ofL F) R hn (fun M1 c1 c2 c3 c4 c5 c6 c7 => ?_))
    refine AW.iinc2 35 _ dX10_rules_32 (z_inc1 _) (by decide) rfl rfl ?_
    refine AW.iload_n 36 dX10_rules_35 rfl rfl ?_
    refine AW.bipush 38 (nI 8) dX10_rules_36 (by decide) rfl ?_
    refine AW.icmpN_ge 41 54 dX10_rules_38 (by decide) rfl (by omega) (by omega) (fun b38 => ?_) (fun b38 => absurd (show 8 ≤ r + 1 by omega) b38)
    refine AW.iconst 55 (nI 0) dX10_rules_54 (by decide) rfl ?_
    refine AW.istn3 56 dX10_rules_55 (by decide) rfl rfl ?_
    refine AW.goto 23 dX10_rules_56 (by decide) ?_
    refine AW.iload_n 24 dX10_rules_23 rfl rfl ?_
    refine AW.if_eq 27 59 dX10_rules_24 (by decide) rfl (fun _ => ?_) (fun h => absurd h (by decide))
    exact hQ M1 (F.tr c1) c2 (fun z => ext r M' M1 (by omega) h c3 c4 c5 c6 (c7 (pp_cls_nf hn z).1))
  | succ q ih =>
    intro r hr M' F R hn h e
    have hc := (pp_c_le (tp := tp) hn).2.2.2.2.1
    have hp := pp_pass_le (tp := tp) (c := 59) (by decide) hc
    unfold pp_run at e
    rw [if_neg (by omega)] at e
    refine AW.iload_n 24 dX10_rules_23 rfl rfl ?_
    refine AW.if_eq 27 59 dX10_rules_24 (by decide) rfl (fun h => absurd h (by decide)) (fun _ => ?_)
    refine AW.aload_n 28 dX10_rules_27 rfl rfl ?_
    refine AW.iload_n 29 dX10_rules_28 rfl rfl ?_
    refine AW.cVv1 32 dX10_rules_29 kX10_176 (zI rfl rfl) (Nat.le_of_ble_eq_true rfl) rfl (C_X10_clause (M := M') (by omega) (hT.ofL F) R hn (fun M1 c1 c2 c3 c4 c5 c6 c7 => ?_))
    refine AW.iinc2 35 _ dX10_rules_32 (z_inc1 _) (by decide) rfl rfl ?_
    refine AW.iload_n 36 dX10_rules_35 rfl rfl ?_
    refine AW.bipush 38 (nI 8) dX10_rules_36 (by decide) rfl ?_
    refine AW.icmpN_ge 41 54 dX10_rules_38 (by decide) rfl (by omega) (by omega) (fun b38 => absurd b38 (by omega)) (fun b38 => ?_)
    refine AW.aload_n 42 dX10_rules_41 rfl rfl ?_
    refine AW.bipush 44 (nI 59) dX10_rules_42 (by decide) rfl ?_
    refine AW.cVi1 47 dX10_rules_44 kX10_162 (zI rfl rfl) (Nat.le_of_ble_eq_true rfl) rfl (C_X10_passes (M := M1) (hT.ofL (F.tr c1)) c2 hc (by decide) (fun M2 => ?_) (fun M2 => ?_))
    · skip
      intro f2 r2 p
      rw [if_pos p] at e
      have nf := (pp_pass_yes p).1
      have hru := ext r M' M1 (by omega) h c3 c4 c5 c6 (c7 (pp_cls_nf hn nf).1)
      have hru2 : g_ru tp n M2 (r + 1) := fun i hi => by rw [f2.1 109 (by decide), f2.1 110 (by decide), f2.1 111 (by decide), f2.1 112 (by decide)]; exact hru i hi
      refine AW.if_eq 50 54 dX10_rules_47 (by decide) rfl (fun h => absurd h (by decide)) (fun _ => ?_)
      refine AW.iconst 51 (nI 1) dX10_rules_50 (by decide) rfl ?_
      refine AW.goto 55 dX10_rules_51 (by decide) ?_
      refine AW.istn3 56 dX10_rules_55 (by decide) rfl rfl ?_
      refine AW.goto 23 dX10_rules_56 (by decide) ?_
      first
      | exact ih (r + 1) (by omega) M2 ((F.tr c1).tr f2.L) r2 hp.1 hru2 e
      | (refine AW.iload_n 24 dX10_rules_23 rfl rfl ?_
         refine AW.if_eq 27 59 dX10_rules_24 (by decide) rfl (fun _ => ?_) (fun h => absurd h (by decide))
         exact fin)
    · skip
      intro f2 r2 p
      rw [if_neg (by rw [p]; exact Bool.false_ne_true)] at e
      rw [← pp_pass_no p] at r2
      subst e
      have fin := hQ M2 ((F.tr c1).tr f2.L) r2 (fun z i hi => by rw [f2.1 109 (by decide), f2.1 110 (by decide), f2.1 111 (by decide), f2.1 112 (by decide)]; exact ext r M' M1 (by omega) h c3 c4 c5 c6 (c7 (pp_cls_nf hn (hp.2.2.1.symm.trans z)).1) i hi)
      refine AW.if_eq 50 54 dX10_rules_47 (by decide) rfl (fun _ => ?_) (fun h => absurd h (by decide))
      refine AW.iconst 55 (nI 0) dX10_rules_54 (by decide) rfl ?_
      refine AW.istn3 56 dX10_rules_55 (by decide) rfl rfl ?_
      refine AW.goto 23 dX10_rules_56 (by decide) ?_
      first
      | exact ih (r + 1) (by omega) M2 ((F.tr c1).tr f2.L) r2 hp.1 hru2 e
      | (refine AW.iload_n 24 dX10_rules_23 rfl rfl ?_
         refine AW.if_eq 27 59 dX10_rules_24 (by decide) rfl (fun _ => ?_) (fun h => absurd h (by decide))
         exact fin)
/-- the end of a text, for rules and duty -/
theorem pp_end_c {p : Nat} (ht : pp_tok tp n) (b : Bool) (h : (b = true ∧ ¬ pp_cu tp n p = 0) ∨ (b = false ∧ pp_cu tp n p = 0)) : pp_end tp n (false, p) = (b, pp_sk tp n p) := by
  have hc := pp_cu_0 (p := p) ht
  unfold pp_end
  rw [if_neg Bool.false_ne_true]
  rcases h with ⟨h1, h2⟩ | ⟨h1, h2⟩
  · rw [h1]
    have : pp_sk tp n p < n := Classical.byContradiction (fun z => h2 (hc.mpr z))
    show (decide (pp_sk tp n p < n), pp_sk tp n p) = _
    rw [decide_eq_true this]
  · rw [h1]
    show (decide (pp_sk tp n p < n), pp_sk tp n p) = _
    rw [decide_eq_false (hc.mp h2)]
theorem L_X10_rules4 {a i k : Nat} {v3 : Int32} (ha : a < 2) (hi : i < 8) {B : Nat → Bool} (hB : ∀ t, t < 128 → M 112 (128 * i + t) = z_bI (B t)) {Q : Int32 → zS → zM → Prop}
    (hQ : ∀ (M' : zM) (v5 : Int32), (∀ c, c ≠ 108 → M' c = M c) → (∀ t, t < 128 → M' 108 (128 * (8 * a + i) + t) = z_bI (B t)) → (∀ t, ¬ (128 * (8 * a + i) ≤ t ∧ t < 128 * (8 * a + i) + 128) → M' 108 t = M 108 t) → AW l g RX10 cX10_rules 6 (some .int) false d 0 0 225 [some (.ref 99), some (.int (nI a)), some (.int (nI k)), some (.int v3), some (.int (nI i)), some (.int v5)] [] (ZS m0 m1 md) M' (z_Qi Q)) :
    ∀ (q t : Nat), t + q = 128 → ∀ M' : zM, (∀ c, c ≠ 108 → M' c = M c) → (∀ j, j < t → M' 108 (128 * (8 * a + i) + j) = z_bI (B j)) → (∀ t, ¬ (128 * (8 * a + i) ≤ t ∧ t < 128 * (8 * a + i) + 128) → M' 108 t = M 108 t) → AW l g RX10 cX10_rules 6 (some .int) false d 0 0 178 [some (.ref 99), some (.int (nI a)), some (.int (nI k)), some (.int v3), some (.int (nI i)), some (.int (nI t))] [] (ZS m0 m1 md) M' (z_Qi Q) := by
  intro q
  induction q with
  | zero =>
    intro t ht M' f h1 h2
    have ht : t = 128 := by omega
    subst ht
    refine AW.iload 180 dX10_rules_178 rfl rfl ?_
    refine AW.sipush 183 (nI 128) dX10_rules_180 (by decide) rfl ?_
    refine AW.icmp_ge 186 225 dX10_rules_183 (by decide) rfl (fun _ => ?_) (fun h => absurd h (by decide))
    exact hQ M' _ f h1 h2
  | succ q ih =>
    intro t ht M' f h1 h2
    refine AW.iload 180 dX10_rules_178 rfl rfl ?_
    refine AW.sipush 183 (nI 128) dX10_rules_180 (by decide) rfl ?_
    refine AW.icmpN_ge 186 225 dX10_rules_183 (by decide) rfl (by omega) (by omega) (fun b183 => absurd b183 (by omega)) (fun b183 => ?_)
    refine AW.aload_n 187 dX10_rules_186 rfl rfl ?_
    refine AW.getR 190 dX10_rules_187 fX10_35 rfl (zI rfl rfl) rfl rfl ?_
    refine AW.sipush 193 (nI 128) dX10_rules_190 (by decide) rfl ?_
    refine AW.bipush 195 (nI 8) dX10_rules_193 (by decide) rfl ?_
    refine AW.iload_n 196 dX10_rules_195 rfl rfl ?_
    refine AW.imulN 197 dX10_rules_196 rfl ?_
    refine AW.iload 199 dX10_rules_197 rfl rfl ?_
    refine AW.iaddN 200 dX10_rules_199 rfl ?_
    refine AW.imulN 201 dX10_rules_200 rfl ?_
    refine AW.iload 203 dX10_rules_201 rfl rfl ?_
    refine AW.iaddN 204 dX10_rules_203 rfl ?_
    refine AW.aload_n 205 dX10_rules_204 rfl rfl ?_
    refine AW.getR 208 dX10_rules_205 fX10_47 rfl (zI rfl rfl) rfl rfl ?_
    refine AW.sipush 211 (nI 128) dX10_rules_208 (by decide) rfl ?_
    refine AW.iload 213 dX10_rules_211 rfl rfl ?_
    refine AW.imulN 214 dX10_rules_213 rfl ?_
    refine AW.iload 216 dX10_rules_214 rfl rfl ?_
    refine AW.iaddN 217 dX10_rules_216 rfl ?_
    refine AW.bald 218 dX10_rules_217 (zA rfl rfl) rfl (by omega) (by decide) rfl ?_
    refine AW.topi (z_bI (B t)) (by rw [f 112 (by decide)]; exact hB t (by omega)) ?_
    refine AW.bast 219 dX10_rules_218 (zA rfl rfl) rfl (by omega) (by decide) (z_bI_nar _) rfl ?_
    refine AW.iinc5 222 _ dX10_rules_219 (z_inc1 _) (by decide) rfl rfl ?_
    refine AW.goto 178 dX10_rules_222 (by decide) ?_
    refine ih (t + 1) (by omega) _ (fun c hc => by rw [z_st_ne hc]; exact f c hc) (fun j hj => ?_) (fun j hj => by rw [z_st_o (by omega)]; exact h2 j hj)
    by_cases e : j = t
    · subst e; rw [z_st_v]
    · rw [z_st_o (by omega)]; exact h1 j (by omega)
theorem L_X10_rules3 {a k : Nat} {v3 : Int32} (ha : a < 2) (hk : k ≤ 8) (hru : g_ru tp n M k) {Q : Int32 → zS → zM → Prop}
    (hQ : ∀ M' : zM, (∀ c, c ≠ 105 → c ≠ 106 → c ≠ 107 → c ≠ 108 → M' c = M c) → g_rm tp n M' a k → (∀ t, ¬ (8 * a ≤ t ∧ t < 8 * a + 8) → M' 105 t = M 105 t ∧ M' 106 t = M 106 t ∧ M' 107 t = M 107 t) → (∀ t, ¬ (1024 * a ≤ t ∧ t < 1024 * a + 1024) → M' 108 t = M 108 t) → Q (nI k) (ZS m0 m1 md) M') :
    ∀ (q i : Nat) (v5 : Option Value), i + q = k → ∀ M' : zM, (∀ c, c ≠ 105 → c ≠ 106 → c ≠ 107 → c ≠ 108 → M' c = M c) → g_rm tp n M' a i → (∀ t, ¬ (8 * a ≤ t ∧ t < 8 * a + 8) → M' 105 t = M 105 t ∧ M' 106 t = M 106 t ∧ M' 107 t = M 107 t) → (∀ t, ¬ (1024 * a ≤ t ∧ t < 1024 * a + 1024) → M' 108 t = M 108 t) → AW l g RX10 cX10_rules 6 (some .int) false d 0 0 112 [some (.ref 99), some (.int (nI a)), some (.int (nI k)), some (.int v3), some (.int (nI i)), v5] [] (ZS m0 m1 md) M' (z_Qi Q) := by
  intro q
  induction q with
  | zero =>
    intro i v5 hi M' f h1 h2 h3
    have hi : i = k := by omega
    subst hi
    refine AW.iload 114 dX10_rules_112 rfl rfl ?_
    refine AW.iload_n 115 dX10_rules_114 rfl rfl ?_
    refine AW.icmpN_ge 118 231 dX10_rules_115 (by decide) rfl (by omega) (by omega) (fun b115 => ?_) (fun b115 => absurd b115 (by omega))
    refine AW.iload_n 232 dX10_rules_231 rfl rfl ?_
    refine AW.iret dX10_rules_232 .int rfl rfl rfl ⟨_, rfl, ?_⟩
    exact hQ M' f h1 h2 h3
  | succ q ih =>
    intro i v5 hi M' f h1 h2 h3
    obtain ⟨u1, u2, u3, u4⟩ := hru i (by omega)
    refine AW.iload 114 dX10_rules_112 rfl rfl ?_
    refine AW.iload_n 115 dX10_rules_114 rfl rfl ?_
    refine AW.icmpN_ge 118 231 dX10_rules_115 (by decide) rfl (by omega) (by omega) (fun b115 => absurd b115 (by omega)) (fun b115 => ?_)
    refine AW.aload_n 119 dX10_rules_118 rfl rfl ?_
    refine AW.getR 122 dX10_rules_119 fX10_26 rfl (zI rfl rfl) rfl rfl ?_
    refine AW.bipush 124 (nI 8) dX10_rules_122 (by decide) rfl ?_
    refine AW.iload_n 125 dX10_rules_124 rfl rfl ?_
    refine AW.imulN 126 dX10_rules_125 rfl ?_
    refine AW.iload 128 dX10_rules_126 rfl rfl ?_
    refine AW.iaddN 129 dX10_rules_128 rfl ?_
    refine AW.aload_n 130 dX10_rules_129 rfl rfl ?_
    refine AW.getR 133 dX10_rules_130 fX10_38 rfl (zI rfl rfl) rfl rfl ?_
    refine AW.iload 135 dX10_rules_133 rfl rfl ?_
    refine AW.iald 136 dX10_rules_135 (zA rfl rfl) rfl (by omega) (by decide) rfl ?_
    refine AW.topi (nI (pp_dig tp n (pp_st tp n i)).1) (by rw [f 109 (by decide) (by decide) (by decide) (by decide)]; exact u1) ?_
    refine AW.iast 137 dX10_rules_136 (zA rfl rfl) rfl (by omega) (by decide) rfl ?_
    refine AW.aload_n 138 dX10_rules_137 rfl rfl ?_
    refine AW.getR 141 dX10_rules_138 fX10_29 rfl (zI rfl rfl) rfl rfl ?_
    refine AW.bipush 143 (nI 8) dX10_rules_141 (by decide) rfl ?_
    refine AW.iload_n 144 dX10_rules_143 rfl rfl ?_
    refine AW.imulN 145 dX10_rules_144 rfl ?_
    refine AW.iload 147 dX10_rules_145 rfl rfl ?_
    refine AW.iaddN 148 dX10_rules_147 rfl ?_
    refine AW.aload_n 149 dX10_rules_148 rfl rfl ?_
    refine AW.getR 152 dX10_rules_149 fX10_41 rfl (zI rfl rfl) rfl rfl ?_
    refine AW.iload 154 dX10_rules_152 rfl rfl ?_
    refine AW.iald 155 dX10_rules_154 (zA rfl rfl) rfl (by omega) (by decide) rfl ?_
    refine AW.topi (nI (pp_c4 tp n (pp_st tp n i)).1) (by rw [z_st_ne (by decide), f 110 (by decide) (by decide) (by decide) (by decide)]; exact u2) ?_
    refine AW.iast 156 dX10_rules_155 (zA rfl rfl) rfl (by omega) (by decide) rfl ?_
    refine AW.aload_n 157 dX10_rules_156 rfl rfl ?_
    refine AW.getR 160 dX10_rules_157 fX10_32 rfl (zI rfl rfl) rfl rfl ?_
    refine AW.bipush 162 (nI 8) dX10_rules_160 (by decide) rfl ?_
    refine AW.iload_n 163 dX10_rules_162 rfl rfl ?_
    refine AW.imulN 164 dX10_rules_163 rfl ?_
    refine AW.iload 166 dX10_rules_164 rfl rfl ?_
    refine AW.iaddN 167 dX10_rules_166 rfl ?_
    refine AW.aload_n 168 dX10_rules_167 rfl rfl ?_
    refine AW.getR 171 dX10_rules_168 fX10_44 rfl (zI rfl rfl) rfl rfl ?_
    refine AW.iload 173 dX10_rules_171 rfl rfl ?_
    refine AW.iald 174 dX10_rules_173 (zA rfl rfl) rfl (by omega) (by decide) rfl ?_
    refine AW.topi ((pp_c6 tp n (pp_st tp n i)).1) (by rw [z_st_ne (by decide), z_st_ne (by decide), f 111 (by decide) (by decide) (by decide) (by decide)]; exact u3) ?_
    refine AW.iast 175 dX10_rules_174 (zA rfl rfl) rfl (by omega) (by decide) rfl ?_
    refine AW.iconst 176 (nI 0) dX10_rules_175 (by decide) rfl ?_
    refine AW.ist5 178 dX10_rules_176 (by decide) rfl rfl ?_
    refine L_X10_rules4 (M := z_st (z_st (z_st M' 105 (8 * a + i) (nI (pp_dig tp n (pp_st tp n i)).1)) 106 (8 * a + i) (nI (pp_c4 tp n (pp_st tp n i)).1)) 107 (8 * a + i) (pp_c6 tp n (pp_st tp n i)).1) ha (by omega) (B := fun j => (pp_c2 tp n (pp_st tp n i)).2 (j / 32) (j % 32)) (fun t ht => by rw [z_st_ne (by decide), z_st_ne (by decide), z_st_ne (by decide), f 112 (by decide) (by decide) (by decide) (by decide)]; exact u4 t ht) (fun M2 v5 f2 g2 g3 => ?_) 128 0 (by omega) _ (fun _ _ => rfl) (fun j hj => absurd hj (by omega)) (fun _ _ => rfl)
    refine AW.iinc4 228 _ dX10_rules_225 (z_inc1 _) (by decide) rfl rfl ?_
    refine AW.goto 112 dX10_rules_228 (by decide) ?_
    refine ih (i + 1) _ (by omega) M2 (fun c c1 c2 c3 c4 => by rw [f2 c c4, z_st_ne c3, z_st_ne c2, z_st_ne c1]; exact f c c1 c2 c3 c4) (fun j hj => ?_) (fun t ht => ?_) (fun t ht => ?_)
    · have e5 : M2 105 = upd (M' 105) (8 * a + i) (nI (pp_dig tp n (pp_st tp n i)).1) := by rw [f2 105 (by decide), z_st_ne (by decide), z_st_ne (by decide), z_st_at]
      have e6 : M2 106 = upd (M' 106) (8 * a + i) (nI (pp_c4 tp n (pp_st tp n i)).1) := by rw [f2 106 (by decide), z_st_ne (by decide), z_st_at, z_st_ne (by decide)]
      have e7 : M2 107 = upd (M' 107) (8 * a + i) (pp_c6 tp n (pp_st tp n i)).1 := by rw [f2 107 (by decide), z_st_at, z_st_ne (by decide), z_st_ne (by decide)]
      by_cases e : j = i
      · subst e; rw [e5, e6, e7, z_upd_at, z_upd_at, z_upd_at]; exact ⟨rfl, rfl, rfl, g2⟩
      · rw [e5, e6, e7, z_upd_ne (by omega), z_upd_ne (by omega), z_upd_ne (by omega)]
        obtain ⟨w1, w2, w3, w4⟩ := h1 j (by omega)
        refine ⟨w1, w2, w3, fun t ht => ?_⟩
        rw [g3 _ (by omega), z_st_ne (by decide), z_st_ne (by decide), z_st_ne (by decide)]; exact w4 t ht
    · rw [f2 105 (by decide), f2 106 (by decide), f2 107 (by decide), z_st_ne (by decide), z_st_ne (by decide), z_st_o (by omega), z_st_ne (by decide), z_st_o (by omega), z_st_ne (by decide), z_st_o (by omega), z_st_ne (by decide), z_st_ne (by decide)]; exact h2 t ht
    · rw [g3 t (by omega), z_st_ne (by decide), z_st_ne (by decide), z_st_ne (by decide)]; exact h3 t ht
theorem C_X10_rules (hT : g_tp M n tp) {m : Int32} {Q : Int32 → zS → zM → Prop} (hbad : ¬ (0 ≤ m.toInt ∧ m.toInt ≤ 1) → Q (-1) (ZS m0 m1 md) M)
    (hfail : 0 ≤ m.toInt ∧ m.toInt ≤ 1 → (pp_E tp n).1 = true → ∀ M', (∀ c, c ≠ 99 → ¬ (101 ≤ c ∧ c ≤ 103) → ¬ (109 ≤ c ∧ c ≤ 112) → M' c = M c) → (∀ j, j ≠ 1 → j ≠ 2 → j ≠ 3 → M' 99 j = M 99 j) → M' 99 1 = nI 0 → Q (pp_ans (pp_E tp n) (pp_K tp n).1) (ZS m0 m1 md) M')
    (hok : ∀ a, a < 2 → m = nI a → (pp_E tp n).1 = false → ∀ M', (∀ c, c ≠ 99 → ¬ (101 ≤ c ∧ c ≤ 112) → M' c = M c) → (∀ j, j ≠ 1 → j ≠ 2 → j ≠ 3 → M' 99 j = M 99 j) → M' 99 1 = nI 0 → M' 104 = upd (M 104) a (nI (pp_K tp n).1) → g_rm tp n M' a (pp_K tp n).1 → (∀ t, ¬ (8 * a ≤ t ∧ t < 8 * a + 8) → M' 105 t = M 105 t ∧ M' 106 t = M 106 t ∧ M' 107 t = M 107 t) → (∀ t, ¬ (1024 * a ≤ t ∧ t < 1024 * a + 1024) → M' 108 t = M 108 t) → Q (pp_ans (pp_E tp n) (pp_K tp n).1) (ZS m0 m1 md) M') :
    AMet l g yX10_rules cX10_rules 6 (some .int) (d + 5) 0 0 [.ref 99, .int m] (ZS m0 m1 md) M (z_Qi Q) := by
  have hK := pp_st_run (tp := tp) (n := n) 7 0 (by omega) (Nat.zero_le _)
  have K82 : ∀ (a : Nat) (M3 : zM), a < 2 → m = nI a → g_frL M M3 → g_rd M3 (pp_E tp n) → ((pp_E tp n).1 = false → g_ru tp n M3 (pp_K tp n).1) → AW l g RX10 cX10_rules 6 (some .int) false (d + 5) 0 0 82 [some (.ref 99), some (.int (nI a)), some (.int (nI (pp_K tp n).1)), some (.int (nI 0)), none, none] [] (ZS m0 m1 md) M3 (z_Qi Q) := by
    intro a M3 ha em F r3 hru
    have hm : 0 ≤ m.toInt ∧ m.toInt ≤ 1 := by rw [em, z_ti (by omega)]; omega
    have hE20 := Nat.le_trans (pp_end_le (tp := tp) hK.1) hT.2.1.1
    refine AW.aload_n 83 dX10_rules_82 rfl rfl ?_
    refine AW.iconst 84 (nI 0) dX10_rules_83 (by decide) rfl ?_
    refine AW.putI 87 .int dX10_rules_84 pX10_141 rfl (zI rfl rfl) rfl rfl rfl ?_
    refine AW.aload_n 88 dX10_rules_87 rfl rfl ?_
    refine AW.getI 91 dX10_rules_88 fX10_147 rfl (zI rfl rfl) rfl ?_
    refine AW.topi (z_bI (pp_E tp n).1) (by rw [z_st_o (by decide)]; exact r3.1) ?_
    refine AW.zif_eq 94 102 dX10_rules_91 (by decide) rfl rfl (fun b91 => ?_) (fun b91 => ?_)
    · skip
      refine AW.aload_n 103 dX10_rules_102 rfl rfl ?_
      refine AW.getR 106 dX10_rules_103 fX10_23 rfl (zI rfl rfl) rfl rfl ?_
      refine AW.iload_n 107 dX10_rules_106 rfl rfl ?_
      refine AW.iload_n 108 dX10_rules_107 rfl rfl ?_
      refine AW.iast 109 dX10_rules_108 (zA rfl rfl) rfl (by omega) (by decide) rfl ?_
      refine AW.iconst 110 (nI 0) dX10_rules_109 (by decide) rfl ?_
      refine AW.ist4 112 dX10_rules_110 (by decide) rfl rfl ?_
      have hE := z_bf b91
      have hr := hru hE
      refine L_X10_rules3 (M := z_st (z_st M3 99 1 (nI 0)) 104 a (nI (pp_K tp n).1)) (tp := tp) (n := n) ha hK.2.1 (fun i hi => by rw [z_st_ne (by decide), z_st_ne (by decide), z_st_ne (by decide), z_st_ne (by decide), z_st_ne (by decide), z_st_ne (by decide), z_st_ne (by decide), z_st_ne (by decide)]; exact hr i hi) (fun M' q1 q2 q3 q4 => ?_) (pp_K tp n).1 0 none (Nat.zero_add _) _ (fun _ _ _ _ _ => rfl) (fun i hi => absurd hi (by omega)) (fun _ _ => ⟨rfl, rfl, rfl⟩) (fun _ _ => rfl)
      have fin := hok a ha em hE M' (fun c c1 c2 => by rw [q1 c (by omega) (by omega) (by omega) (by omega), z_st_ne (by omega), z_st_ne c1]; exact F.1 c c1 (by omega) (by omega) (by omega) (by omega) (by omega) (by omega) (by omega)) (fun j j1 j2 j3 => by rw [q1 99 (by decide) (by decide) (by decide) (by decide), z_st_ne (by decide), z_st_o j1]; exact F.2 j j2 j3) (by rw [q1 99 (by decide) (by decide) (by decide) (by decide), z_st_ne (by decide), z_st_v]) (by rw [q1 104 (by decide) (by decide) (by decide) (by decide), z_st_at, z_st_ne (by decide), F.1 104 (by decide) (by decide) (by decide) (by decide) (by decide) (by decide) (by decide) (by decide)]) q2 (fun t ht => by rw [(q3 t ht).1, (q3 t ht).2.1, (q3 t ht).2.2, z_st_ne (by decide), z_st_ne (by decide), z_st_ne (by decide), z_st_ne (by decide), z_st_ne (by decide), z_st_ne (by decide), F.1 105 (by decide) (by decide) (by decide) (by decide) (by decide) (by decide) (by decide) (by decide), F.1 106 (by decide) (by decide) (by decide) (by decide) (by decide) (by decide) (by decide) (by decide), F.1 107 (by decide) (by decide) (by decide) (by decide) (by decide) (by decide) (by decide) (by decide)]; exact ⟨rfl, rfl, rfl⟩) (fun t ht => by rw [q4 t ht, z_st_ne (by decide), z_st_ne (by decide), F.1 108 (by decide) (by decide) (by decide) (by decide) (by decide) (by decide) (by decide) (by decide)])
      unfold pp_ans at fin
      rw [if_neg (by rw [hE]; exact Bool.false_ne_true)] at fin
      exact fin
    · skip
      refine AW.bipush 96 (-20) dX10_rules_94 (by decide) rfl ?_
      refine AW.aload_n 97 dX10_rules_96 rfl rfl ?_
      refine AW.getI 100 dX10_rules_97 fX10_144 rfl (zI rfl rfl) rfl ?_
      refine AW.topi (nI (pp_E tp n).2) (by rw [z_st_o (by decide)]; exact r3.2) ?_
      refine AW.isub 101 dX10_rules_100 rfl ?_
      refine AW.iret dX10_rules_101 .int rfl rfl rfl ⟨_, rfl, ?_⟩
      have fin := hfail hm (z_bt b91) (z_st M3 99 1 (nI 0)) (fun c c1 c2 c3 => by rw [z_st_ne c1]; exact F.1 c c1 (by omega) (by omega) (by omega) (by omega) (by omega) (by omega) (by omega)) (fun j j1 j2 j3 => by rw [z_st_o j1]; exact F.2 j j2 j3) (z_st_v _ _ _ _)
      unfold pp_ans at fin
      rw [if_pos (z_bt b91)] at fin
      exact fin
  have K59 : ∀ (a : Nat) (M2 : zM), a < 2 → m = nI a → g_frL M M2 → g_rd M2 (pp_K tp n).2 → ((pp_K tp n).2.1 = false → g_ru tp n M2 (pp_K tp n).1) → AW l g RX10 cX10_rules 6 (some .int) false (d + 5) 0 0 59 [some (.ref 99), some (.int (nI a)), some (.int (nI (pp_K tp n).1)), some (.int (nI 0)), none, none] [] (ZS m0 m1 md) M2 (z_Qi Q) := by
    intro a M2 ha em F r2 hru
    have K82a := fun M3 => K82 a M3 ha em
    have hKn := hK.1
    have eE : pp_E tp n = pp_end tp n (pp_K tp n).2 := rfl
    have hKn : (pp_K tp n).2.2 ≤ n := hKn
    cases hw : (pp_K tp n).2.1 with
    | true =>
      have e3 : M2 99 3 = nI 1 := by rw [r2.1, hw]; rfl
      have eE2 : pp_E tp n = (pp_K tp n).2 := by rw [eE]; unfold pp_end; rw [if_pos hw]
      have fin := K82a (z_st M2 99 3 (nI 1)) (F.tr (g_fr.L ((g_fr.rf M2).st3 _))) (by rw [eE2]; exact ⟨by rw [z_st_v, hw]; rfl, by rw [z_st_o (by decide)]; exact r2.2⟩) (fun z => by rw [eE2, hw] at z; exact Bool.noConfusion z)
      refine AW.aload_n 60 dX10_rules_59 rfl rfl ?_
      refine AW.aload_n 61 dX10_rules_60 rfl rfl ?_
      refine AW.getI 64 dX10_rules_61 fX10_147 rfl (zI rfl rfl) rfl ?_
      refine AW.topi (nI 1) e3 ?_
      refine AW.ifN_ne 67 74 dX10_rules_64 (by decide) rfl (by omega) (fun b64 => ?_) (fun b64 => absurd b64 (by omega))
      refine AW.iconst 75 (nI 1) dX10_rules_74 (by decide) rfl ?_
      refine AW.goto 79 dX10_rules_75 (by decide) ?_
      refine AW.putI 82 .boolean dX10_rules_79 pX10_147 rfl (zI rfl rfl) rfl rfl rfl ?_
      exact fin
    | false =>
      have e3 : M2 99 3 = nI 0 := by rw [r2.1, hw]; rfl
      have es : (pp_K tp n).2 = (false, (pp_K tp n).2.2) := by rw [← hw]
      have hcu := pp_cu_le hT.2.1 (pp_K tp n).2.2
      have fin : ∀ (M3 : zM) (b : Bool), g_fr M2 M3 → M3 99 2 = nI (pp_sk tp n (pp_K tp n).2.2) → ((b = true ∧ ¬ pp_cu tp n (pp_K tp n).2.2 = 0) ∨ (b = false ∧ pp_cu tp n (pp_K tp n).2.2 = 0)) → AW l g RX10 cX10_rules 6 (some .int) false (d + 5) 0 0 82 [some (.ref 99), some (.int (nI a)), some (.int (nI (pp_K tp n).1)), some (.int (nI 0)), none, none] [] (ZS m0 m1 md) (z_st M3 99 3 (z_bI b)) (z_Qi Q) := fun M3 b f3 q3 hb => by
        have eE2 : pp_E tp n = (b, pp_sk tp n (pp_K tp n).2.2) := by rw [eE, es]; exact pp_end_c hT.2.1 b hb
        refine K82a _ (F.tr (g_fr.L (f3.st3 _))) (by rw [eE2]; exact ⟨z_st_v _ _ _ _, by rw [z_st_o (by decide)]; exact q3⟩) (fun _ i hi => ?_)
        rw [z_st_ne (by decide), z_st_ne (by decide), z_st_ne (by decide), z_st_ne (by decide), f3.1 109 (by decide), f3.1 110 (by decide), f3.1 111 (by decide), f3.1 112 (by decide)]
        exact hru hw i hi
      refine AW.aload_n 60 dX10_rules_59 rfl rfl ?_
      refine AW.aload_n 61 dX10_rules_60 rfl rfl ?_
      refine AW.getI 64 dX10_rules_61 fX10_147 rfl (zI rfl rfl) rfl ?_
      refine AW.topi (nI 0) e3 ?_
      refine AW.ifN_ne 67 74 dX10_rules_64 (by decide) rfl (by omega) (fun b64 => absurd b64 (by omega)) (fun b64 => ?_)
      refine AW.aload_n 68 dX10_rules_67 rfl rfl ?_
      refine AW.cVi0 71 dX10_rules_68 kX10_151 (zI rfl rfl) (Nat.le_of_ble_eq_true rfl) rfl (C_X10_next (M := M2) (p := (pp_K tp n).2.2) (hT.ofL F) hKn r2.2 (fun M3 a1 a2 a3 => ?_))
      refine AW.ifN_eq 74 78 dX10_rules_71 (by decide) rfl (by omega) (fun b71 => ?_) (fun b71 => ?_)
      · skip
        refine AW.iconst 79 (nI 0) dX10_rules_78 (by decide) rfl ?_
        refine AW.putI 82 .boolean dX10_rules_79 pX10_147 rfl (zI rfl rfl) rfl rfl rfl ?_
        first | exact fin M3 true ⟨a1, fun j h _ => a2 j h⟩ a3 (Or.inl ⟨rfl, b71⟩) | exact fin M3 false ⟨a1, fun j h _ => a2 j h⟩ a3 (Or.inr ⟨rfl, b71⟩)
      · skip
        refine AW.iconst 75 (nI 1) dX10_rules_74 (by decide) rfl ?_
        refine AW.goto 79 dX10_rules_75 (by decide) ?_
        refine AW.putI 82 .boolean dX10_rules_79 pX10_147 rfl (zI rfl rfl) rfl rfl rfl ?_
        first | exact fin M3 true ⟨a1, fun j h _ => a2 j h⟩ a3 (Or.inl ⟨rfl, b71⟩) | exact fin M3 false ⟨a1, fun j h _ => a2 j h⟩ a3 (Or.inr ⟨rfl, b71⟩)
  refine AMet.of (ini := false) rfl (fun h => by first | rfl | cases h) (Nat.le_of_ble_eq_true rfl) ?_
  show AW l g RX10 cX10_rules 6 (some .int) false _ _ _ 0 [some (.ref 99), some (.int m), none, none, none, none] [] _ _ _
  refine AW.iload_n 1 dX10_rules_0 rfl rfl ?_
  refine AW.cSi1 4 dX10_rules_1 kX10_173 (Nat.le_of_ble_eq_true rfl) rfl (C_X10_isMachine (fun b1 => ?_) (fun b1 => ?_))
  · skip
    obtain ⟨a, ha, em, ha2⟩ := z_nI (v := m) (n := 1) (by omega) (by omega)
    subst em
    refine AW.if_ne 7 9 dX10_rules_4 (by decide) rfl (fun _ => ?_) (fun h => absurd h (by decide))
    refine AW.aload_n 10 dX10_rules_9 rfl rfl ?_
    refine AW.iconst 11 (nI 0) dX10_rules_10 (by decide) rfl ?_
    refine AW.putI 14 .int dX10_rules_11 pX10_144 rfl (zI rfl rfl) rfl rfl rfl ?_
    refine AW.aload_n 15 dX10_rules_14 rfl rfl ?_
    refine AW.iconst 16 (nI 0) dX10_rules_15 (by decide) rfl ?_
    refine AW.putI 19 .boolean dX10_rules_16 pX10_147 rfl (zI rfl rfl) rfl rfl rfl ?_
    refine AW.iconst 20 (nI 0) dX10_rules_19 (by decide) rfl ?_
    refine AW.istn2 21 dX10_rules_20 (by decide) rfl rfl ?_
    refine AW.iconst 22 (nI 1) dX10_rules_21 (by decide) rfl ?_
    refine AW.istn3 23 dX10_rules_22 (by decide) rfl rfl ?_
    have F0 : g_frL M (z_st (z_st M 99 2 (nI 0)) 99 3 (nI 0)) := ⟨fun c c1 _ _ _ _ _ _ _ => by rw [z_st_ne c1, z_st_ne c1], fun j j1 j2 => by rw [z_st_o j2, z_st_o j1]⟩
    exact L_X10_rules1 (M := M) hT (K := pp_K tp n) (fun M2 F r2 h2 => K59 a M2 (by omega) rfl F r2 h2) 7 0 (by omega) _ F0 ⟨by rw [z_st_v]; rfl, by rw [z_st_o (by decide), z_st_v]; rfl⟩ (Nat.zero_le _) (fun i hi => absurd hi (by omega)) rfl
  · skip
    refine AW.if_ne 7 9 dX10_rules_4 (by decide) rfl (fun h => absurd h (by decide)) (fun _ => ?_)
    refine AW.iconst 8 (-1) dX10_rules_7 (by decide) rfl ?_
    refine AW.iret dX10_rules_8 .int rfl rfl rfl ⟨_, rfl, ?_⟩
    exact hbad (by omega)
end MRULES
