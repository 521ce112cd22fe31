def g_frO (o : Nat) (M M' : zM) : Prop := (∀ c, c ≠ 99 → c ≠ 101 → c ≠ 102 → c ≠ 103 → M' c = M c) ∧ (∀ j, j ≠ 2 → j ≠ 3 → M' 99 j = M 99 j) ∧ ∀ j, j < o → M' 101 j = M 101 j ∧ M' 102 j = M 102 j ∧ M' 103 j = M 103 j
theorem g_frO.tr {o : Nat} {M M1 M2 : zM} (h : g_frO o M M1) (h2 : g_frO o M1 M2) : g_frO o M M2 := ⟨fun c a b e f => (h2.1 c a b e f).trans (h.1 c a b e f), fun j a b => (h2.2.1 j a b).trans (h.2.1 j a b), fun j hj => ⟨(h2.2.2 j hj).1.trans (h.2.2 j hj).1, (h2.2.2 j hj).2.1.trans (h.2.2 j hj).2.1, (h2.2.2 j hj).2.2.trans (h.2.2 j hj).2.2⟩⟩
theorem g_fr.O {o : Nat} {M M' : zM} (h : g_fr M M') : g_frO o M M' := ⟨fun c a _ _ _ => h.1 c a, h.2, fun j _ => ⟨by rw [h.1 101 (by decide)], by rw [h.1 102 (by decide)], by rw [h.1 103 (by decide)]⟩⟩
theorem g_tp.ofO {M M' : zM} {n o : Nat} {tp : Nat → Nat} (hT : g_tp M n tp) (h : g_frO o M M') : g_tp M' n tp := hT.fr (h.2.1 1 (by decide) (by decide)) (h.1 100 (by decide) (by decide) (by decide) (by decide))
/-- the loop of a test: at its head, behind a case, behind a test -/
abbrev g_at (l : Launch) (g : zG) (d m0 m1 md st x a : Nat) (du : Bool) (Q : Int32 → zS → zM → Prop) (pc o w : Nat) (M : zM) : Prop := ∀ v6 v7 : Option Value, AW l g RX10 cX10_test 8 (some .boolean) false (d + 3) 0 0 pc [some (.ref 99), some (.int (nI (32 * st + x))), some (.int (nI a)), some (.int (z_bI du)), some (.int (nI o)), some (.int (nI w)), v6, v7] [] (ZS m0 m1 md) M (z_Qi Q)
def g_RC (l : Launch) (g : zG) (d m0 m1 md st x a : Nat) (du : Bool) (Q : Int32 → zS → zM → Prop) (n : Nat) (tp : Nat → Nat) (o : Nat) (cl : pS → pS × pB) : Prop := ∀ (M : zM) (s : pS) (A : Bool), g_tp M n tp → g_rd M s → s.1 = false → s.2 ≤ n → M 102 o = z_bI A →
  (∀ M', g_frO o M M' → g_rd M' (cl s).1 → (cl s).1.1 = true → Q (nI 0) (ZS m0 m1 md) M') →
  (∀ M', g_frO o M M' → M' 101 o = M 101 o → g_rd M' (cl s).1 → (cl s).1.1 = false → M' 102 o = z_bI (A && (cl s).2 (4 * a + st) x) → g_at l g d m0 m1 md st x a du Q 20 o 0 M') → g_at l g d m0 m1 md st x a du Q 20 o 1 M
def g_RT (l : Launch) (g : zG) (d m0 m1 md st x a : Nat) (du : Bool) (Q : Int32 → zS → zM → Prop) (n : Nat) (tp : Nat → Nat) (o : Nat) (T : pS → pS × pB) : Prop := ∀ (M : zM) (s : pS), g_tp M n tp → g_rd M s → s.1 = false → s.2 ≤ n → M 101 o = nI 0 → M 102 o = nI 1 →
  (∀ M', g_frO o M M' → g_rd M' (T s).1 → (T s).1.1 = true → Q (nI 0) (ZS m0 m1 md) M') →
  (∀ (M' : zM) (u v : Bool), g_frO o M M' → g_rd M' (T s).1 → (T s).1.1 = false → M' 101 o = z_bI u → M' 102 o = z_bI v → (u || v) = (T s).2 (4 * a + st) x → g_at l g d m0 m1 md st x a du Q 210 o 0 M') → g_at l g d m0 m1 md st x a du Q 20 o 1 M
theorem z_bI_inj {a b : Bool} : (z_bI a).toInt = (z_bI b).toInt ↔ a = b := by cases a <;> cases b <;> decide
theorem z_ne1 {b : Bool} (h : ¬ (1 : Int) = (z_bI b).toInt) : true = (true && (true != b)) := by cases b <;> first | rfl | exact absurd (by decide) h
theorem z_ne0 {b : Bool} (h : ¬ (0 : Int) = (z_bI b).toInt) : true = (true && (false != b)) := by cases b <;> first | rfl | exact absurd (by decide) h
theorem z_eq1 {b : Bool} (h : (1 : Int) = (z_bI b).toInt) : false = (true && (true != b)) := by cases b <;> first | rfl | exact absurd h (by decide)
theorem z_eq0 {b : Bool} (h : (0 : Int) = (z_bI b).toInt) : false = (true && (false != b)) := by cases b <;> first | rfl | exact absurd h (by decide)
theorem z_nn {a b : Bool} (h : ¬ (z_bI a).toInt = (z_bI b).toInt) : true = (true && (a != b)) := by cases a <;> cases b <;> first | rfl | exact absurd rfl h
theorem z_nq {a b : Bool} (h : (z_bI a).toInt = (z_bI b).toInt) : false = (true && (a != b)) := by rw [z_bI_inj.mp h]; cases b <;> rfl
section MTEST
variable {l : Launch} {g : zG} {d m0 m1 md : Nat} {M : zM} {n : Nat} {tp : Nat → Nat} {s : pS} {st x a : Nat} {du : Bool} {Q : Int32 → zS → zM → Prop}
theorem L_test_bad {p o w : Nat} (h : g_rd M (true, p)) (hQ : Q (nI 0) (ZS m0 m1 md) M) : g_at l g d m0 m1 md st x a du Q 20 o w M := by
  intro v6 v7
  have e : M 99 3 = nI 1 := h.1
  refine AW.aload_n 21 dX10_test_20 rfl rfl ?_
  refine AW.getI 24 dX10_test_21 fX10_147 rfl (zI rfl rfl) rfl ?_
  refine AW.topi (nI 1) e ?_
  refine AW.ifN_ne 27 324 dX10_test_24 (by decide) rfl (by omega) (fun b24 => ?_) (fun b24 => absurd b24 (by omega))
  refine AW.iconst 325 (nI 0) dX10_test_324 (by decide) rfl ?_
  refine AW.iret dX10_test_325 .boolean rfl rfl rfl ⟨_, rfl, ?_⟩
  exact hQ
theorem L_test_pop {o : Nat} (ho : o < 5) (hT : g_tp M n tp) {s2 : pS} (hs : g_rd M s2) (hs1 : s2.1 = false) (hn : s2.2 ≤ n) {A b u v : Bool} (hA : M 102 o = z_bI A) (hb : M 103 o = z_bI b) (hu : M 101 (o + 1) = z_bI u) (hv : M 102 (o + 1) = z_bI v)
    (bad : ∀ M', g_frO o M M' → g_rd M' (pp_need tp n 41 s2) → (pp_need tp n 41 s2).1 = true → Q (nI 0) (ZS m0 m1 md) M')
    (good : ∀ M', g_frO o M M' → M' 101 o = M 101 o → g_rd M' (pp_need tp n 41 s2) → (pp_need tp n 41 s2).1 = false → M' 102 o = z_bI (A && ((u || v) != b)) → g_at l g d m0 m1 md st x a du Q 20 o 0 M') : g_at l g d m0 m1 md st x a du Q 210 (o + 1) 0 M := by
  intro v6 v7
  refine AW.iload 212 dX10_test_210 rfl rfl ?_
  refine AW.ifN_ne 215 239 dX10_test_212 (by decide) rfl (by omega) (fun b212 => ?_) (fun b212 => absurd b212 (by omega))
  refine AW.aload_n 240 dX10_test_239 rfl rfl ?_
  refine AW.aload_n 241 dX10_test_240 rfl rfl ?_
  refine AW.bipush 243 (nI 41) dX10_test_241 (by decide) rfl ?_
  refine AW.cVi1 246 dX10_test_243 kX10_162 (zI rfl rfl) (Nat.le_of_ble_eq_true rfl) rfl (C_X10_passes hT hs hn (by decide) (fun M1 => ?_) (fun M1 => ?_))
  · skip
    intro f1 r1 p1
    have en : pp_need tp n 41 s2 = (pp_pass tp n 41 s2).2 := by unfold pp_need; rw [if_pos p1]
    have nf : (pp_need tp n 41 s2).1 = false := by rw [en]; exact ((pp_pass_le (tp := tp) (c := 41) (by decide) hn).2.2.1).trans hs1
    have fin : ∀ (c : Bool) (v6 v7 : Option Value), c = (A && ((u || v) != b)) → AW l g RX10 cX10_test 8 (some .boolean) false (d + 3) 0 0 20 [some (.ref 99), some (.int (nI (32 * st + x))), some (.int (nI a)), some (.int (z_bI du)), some (.int (nI o)), some (.int (nI 0)), v6, v7] [] (ZS m0 m1 md) (z_st (z_st M1 99 3 (nI 0)) 102 o (z_bI c)) (z_Qi Q) := fun c v6 v7 hc => by
      refine good _ ⟨fun k k1 k2 k3 k4 => by rw [z_st_ne k3, z_st_ne k1]; exact f1.1 k k1, fun j j1 j2 => by rw [z_st_ne (by decide), z_st_o j2]; exact f1.2 j j1 j2, fun j hj => ⟨by rw [z_st_ne (by decide), z_st_ne (by decide), f1.1 101 (by decide)], by rw [z_st_o (by omega), z_st_ne (by decide), f1.1 102 (by decide)], by rw [z_st_ne (by decide), z_st_ne (by decide), f1.1 103 (by decide)]⟩⟩ (by rw [z_st_ne (by decide), z_st_ne (by decide), f1.1 101 (by decide)]) ⟨by rw [z_st_ne (by decide), z_st_v, nf]; rfl, by rw [z_st_ne (by decide), z_st_o (by decide), en]; exact r1.2⟩ nf (by rw [z_st_v, hc]) v6 v7
    refine AW.if_ne 249 253 dX10_test_246 (by decide) rfl (fun _ => ?_) (fun h => absurd h (by decide))
    refine AW.iconst 254 (nI 0) dX10_test_253 (by decide) rfl ?_
    refine AW.putI 257 .boolean dX10_test_254 pX10_147 rfl (zI rfl rfl) rfl rfl rfl ?_
    refine AW.aload_n 258 dX10_test_257 rfl rfl ?_
    refine AW.getR 261 dX10_test_258 fX10_13 rfl (zI rfl rfl) rfl rfl ?_
    refine AW.iload 263 dX10_test_261 rfl rfl ?_
    refine AW.bald 264 dX10_test_263 (zA rfl rfl) rfl (by omega) (by decide) rfl ?_
    refine AW.topi (z_bI u) (by rw [z_st_ne (by decide), f1.1 101 (by decide)]; exact hu) ?_
    refine AW.zif_ne 267 277 dX10_test_264 (by decide) rfl rfl (fun b264 => ?_) (fun b264 => ?_)
    · skip
      refine AW.iconst 278 (nI 1) dX10_test_277 (by decide) rfl ?_
      have hw : (u || v) = true := by first | (rw [z_bt b264]; rfl) | (rw [z_bf b264, z_bt b274]; rfl)
      refine AW.goto 282 dX10_test_278 (by decide) ?_
      refine AW.ist6 284 dX10_test_282 (by decide) rfl rfl ?_
      refine AW.iinc4 287 (nI o) dX10_test_284 (z_dec o) (by decide) rfl rfl ?_
      refine AW.aload_n 288 dX10_test_287 rfl rfl ?_
      refine AW.getR 291 dX10_test_288 fX10_17 rfl (zI rfl rfl) rfl rfl ?_
      refine AW.iload 293 dX10_test_291 rfl rfl ?_
      refine AW.aload_n 294 dX10_test_293 rfl rfl ?_
      refine AW.getR 297 dX10_test_294 fX10_17 rfl (zI rfl rfl) rfl rfl ?_
      refine AW.iload 299 dX10_test_297 rfl rfl ?_
      refine AW.bald 300 dX10_test_299 (zA rfl rfl) rfl (by omega) (by decide) rfl ?_
      refine AW.topi (z_bI A) (by rw [z_st_ne (by decide), f1.1 102 (by decide)]; exact hA) ?_
      refine AW.zif_eq 303 319 dX10_test_300 (by decide) rfl rfl (fun b300 => ?_) (fun b300 => ?_)
      · skip
        refine AW.iconst 320 (nI 0) dX10_test_319 (by decide) rfl ?_
        have hcv : false = (A && ((u || v) != b)) := by first | (rw [z_bf b300]; rfl) | (rw [z_bt b300, hw]; first | exact z_eq1 b312 | exact z_eq0 b312)
        refine AW.bast 321 dX10_test_320 (zA rfl rfl) rfl (by omega) (by decide) rfl rfl ?_
        refine AW.goto 20 dX10_test_321 (by decide) ?_
        first | exact fin true _ _ hcv | exact fin false _ _ hcv
      · skip
        refine AW.iload 305 dX10_test_303 rfl rfl ?_
        refine AW.aload_n 306 dX10_test_305 rfl rfl ?_
        refine AW.getR 309 dX10_test_306 fX10_20 rfl (zI rfl rfl) rfl rfl ?_
        refine AW.iload 311 dX10_test_309 rfl rfl ?_
        refine AW.bald 312 dX10_test_311 (zA rfl rfl) rfl (by omega) (by decide) rfl ?_
        refine AW.topi (z_bI b) (by rw [z_st_ne (by decide), f1.1 103 (by decide)]; exact hb) ?_
        refine AW.zicmp_eq 315 319 dX10_test_312 (by decide) rfl (by decide : (nI 1).toInt = 1) rfl (fun b312 => ?_) (fun b312 => ?_)
        · skip
          refine AW.iconst 320 (nI 0) dX10_test_319 (by decide) rfl ?_
          have hcv : false = (A && ((u || v) != b)) := by first | (rw [z_bf b300]; rfl) | (rw [z_bt b300, hw]; first | exact z_eq1 b312 | exact z_eq0 b312)
          refine AW.bast 321 dX10_test_320 (zA rfl rfl) rfl (by omega) (by decide) rfl rfl ?_
          refine AW.goto 20 dX10_test_321 (by decide) ?_
          first | exact fin true _ _ hcv | exact fin false _ _ hcv
        · skip
          refine AW.iconst 316 (nI 1) dX10_test_315 (by decide) rfl ?_
          have hcv : true = (A && ((u || v) != b)) := by rw [z_bt b300, hw]; first | exact z_ne1 b312 | exact z_ne0 b312
          refine AW.goto 320 dX10_test_316 (by decide) ?_
          refine AW.bast 321 dX10_test_320 (zA rfl rfl) rfl (by omega) (by decide) rfl rfl ?_
          refine AW.goto 20 dX10_test_321 (by decide) ?_
          first | exact fin true _ _ hcv | exact fin false _ _ hcv
    · skip
      refine AW.aload_n 268 dX10_test_267 rfl rfl ?_
      refine AW.getR 271 dX10_test_268 fX10_17 rfl (zI rfl rfl) rfl rfl ?_
      refine AW.iload 273 dX10_test_271 rfl rfl ?_
      refine AW.bald 274 dX10_test_273 (zA rfl rfl) rfl (by omega) (by decide) rfl ?_
      refine AW.topi (z_bI v) (by rw [z_st_ne (by decide), f1.1 102 (by decide)]; exact hv) ?_
      refine AW.zif_eq 277 281 dX10_test_274 (by decide) rfl rfl (fun b274 => ?_) (fun b274 => ?_)
      · skip
        refine AW.iconst 282 (nI 0) dX10_test_281 (by decide) rfl ?_
        have hw : (u || v) = false := by rw [z_bf b264, z_bf b274]; rfl
        refine AW.ist6 284 dX10_test_282 (by decide) rfl rfl ?_
        refine AW.iinc4 287 (nI o) dX10_test_284 (z_dec o) (by decide) rfl rfl ?_
        refine AW.aload_n 288 dX10_test_287 rfl rfl ?_
        refine AW.getR 291 dX10_test_288 fX10_17 rfl (zI rfl rfl) rfl rfl ?_
        refine AW.iload 293 dX10_test_291 rfl rfl ?_
        refine AW.aload_n 294 dX10_test_293 rfl rfl ?_
        refine AW.getR 297 dX10_test_294 fX10_17 rfl (zI rfl rfl) rfl rfl ?_
        refine AW.iload 299 dX10_test_297 rfl rfl ?_
        refine AW.bald 300 dX10_test_299 (zA rfl rfl) rfl (by omega) (by decide) rfl ?_
        refine AW.topi (z_bI A) (by rw [z_st_ne (by decide), f1.1 102 (by decide)]; exact hA) ?_
        refine AW.zif_eq 303 319 dX10_test_300 (by decide) rfl rfl (fun b300 => ?_) (fun b300 => ?_)
        · skip
          refine AW.iconst 320 (nI 0) dX10_test_319 (by decide) rfl ?_
          have hcv : false = (A && ((u || v) != b)) := by first | (rw [z_bf b300]; rfl) | (rw [z_bt b300, hw]; first | exact z_eq1 b312 | exact z_eq0 b312)
          refine AW.bast 321 dX10_test_320 (zA rfl rfl) rfl (by omega) (by decide) rfl rfl ?_
          refine AW.goto 20 dX10_test_321 (by decide) ?_
          first | exact fin true _ _ hcv | exact fin false _ _ hcv
        · skip
          refine AW.iload 305 dX10_test_303 rfl rfl ?_
          refine AW.aload_n 306 dX10_test_305 rfl rfl ?_
          refine AW.getR 309 dX10_test_306 fX10_20 rfl (zI rfl rfl) rfl rfl ?_
          refine AW.iload 311 dX10_test_309 rfl rfl ?_
          refine AW.bald 312 dX10_test_311 (zA rfl rfl) rfl (by omega) (by decide) rfl ?_
          refine AW.topi (z_bI b) (by rw [z_st_ne (by decide), f1.1 103 (by decide)]; exact hb) ?_
          refine AW.zicmp_eq 315 319 dX10_test_312 (by decide) rfl (by decide : (nI 0).toInt = 0) rfl (fun b312 => ?_) (fun b312 => ?_)
          · skip
            refine AW.iconst 320 (nI 0) dX10_test_319 (by decide) rfl ?_
            have hcv : false = (A && ((u || v) != b)) := by first | (rw [z_bf b300]; rfl) | (rw [z_bt b300, hw]; first | exact z_eq1 b312 | exact z_eq0 b312)
            refine AW.bast 321 dX10_test_320 (zA rfl rfl) rfl (by omega) (by decide) rfl rfl ?_
            refine AW.goto 20 dX10_test_321 (by decide) ?_
            first | exact fin true _ _ hcv | exact fin false _ _ hcv
          · skip
            refine AW.iconst 316 (nI 1) dX10_test_315 (by decide) rfl ?_
            have hcv : true = (A && ((u || v) != b)) := by rw [z_bt b300, hw]; first | exact z_ne1 b312 | exact z_ne0 b312
            refine AW.goto 320 dX10_test_316 (by decide) ?_
            refine AW.bast 321 dX10_test_320 (zA rfl rfl) rfl (by omega) (by decide) rfl rfl ?_
            refine AW.goto 20 dX10_test_321 (by decide) ?_
            first | exact fin true _ _ hcv | exact fin false _ _ hcv
      · skip
        refine AW.iconst 278 (nI 1) dX10_test_277 (by decide) rfl ?_
        have hw : (u || v) = true := by first | (rw [z_bt b264]; rfl) | (rw [z_bf b264, z_bt b274]; rfl)
        refine AW.goto 282 dX10_test_278 (by decide) ?_
        refine AW.ist6 284 dX10_test_282 (by decide) rfl rfl ?_
        refine AW.iinc4 287 (nI o) dX10_test_284 (z_dec o) (by decide) rfl rfl ?_
        refine AW.aload_n 288 dX10_test_287 rfl rfl ?_
        refine AW.getR 291 dX10_test_288 fX10_17 rfl (zI rfl rfl) rfl rfl ?_
        refine AW.iload 293 dX10_test_291 rfl rfl ?_
        refine AW.aload_n 294 dX10_test_293 rfl rfl ?_
        refine AW.getR 297 dX10_test_294 fX10_17 rfl (zI rfl rfl) rfl rfl ?_
        refine AW.iload 299 dX10_test_297 rfl rfl ?_
        refine AW.bald 300 dX10_test_299 (zA rfl rfl) rfl (by omega) (by decide) rfl ?_
        refine AW.topi (z_bI A) (by rw [z_st_ne (by decide), f1.1 102 (by decide)]; exact hA) ?_
        refine AW.zif_eq 303 319 dX10_test_300 (by decide) rfl rfl (fun b300 => ?_) (fun b300 => ?_)
        · skip
          refine AW.iconst 320 (nI 0) dX10_test_319 (by decide) rfl ?_
          have hcv : false = (A && ((u || v) != b)) := by first | (rw [z_bf b300]; rfl) | (rw [z_bt b300, hw]; first | exact z_eq1 b312 | exact z_eq0 b312)
          refine AW.bast 321 dX10_test_320 (zA rfl rfl) rfl (by omega) (by decide) rfl rfl ?_
          refine AW.goto 20 dX10_test_321 (by decide) ?_
          first | exact fin true _ _ hcv | exact fin false _ _ hcv
        · skip
          refine AW.iload 305 dX10_test_303 rfl rfl ?_
          refine AW.aload_n 306 dX10_test_305 rfl rfl ?_
          refine AW.getR 309 dX10_test_306 fX10_20 rfl (zI rfl rfl) rfl rfl ?_
          refine AW.iload 311 dX10_test_309 rfl rfl ?_
          refine AW.bald 312 dX10_test_311 (zA rfl rfl) rfl (by omega) (by decide) rfl ?_
          refine AW.topi (z_bI b) (by rw [z_st_ne (by decide), f1.1 103 (by decide)]; exact hb) ?_
          refine AW.zicmp_eq 315 319 dX10_test_312 (by decide) rfl (by decide : (nI 1).toInt = 1) rfl (fun b312 => ?_) (fun b312 => ?_)
          · skip
            refine AW.iconst 320 (nI 0) dX10_test_319 (by decide) rfl ?_
            have hcv : false = (A && ((u || v) != b)) := by first | (rw [z_bf b300]; rfl) | (rw [z_bt b300, hw]; first | exact z_eq1 b312 | exact z_eq0 b312)
            refine AW.bast 321 dX10_test_320 (zA rfl rfl) rfl (by omega) (by decide) rfl rfl ?_
            refine AW.goto 20 dX10_test_321 (by decide) ?_
            first | exact fin true _ _ hcv | exact fin false _ _ hcv
          · skip
            refine AW.iconst 316 (nI 1) dX10_test_315 (by decide) rfl ?_
            have hcv : true = (A && ((u || v) != b)) := by rw [z_bt b300, hw]; first | exact z_ne1 b312 | exact z_ne0 b312
            refine AW.goto 320 dX10_test_316 (by decide) ?_
            refine AW.bast 321 dX10_test_320 (zA rfl rfl) rfl (by omega) (by decide) rfl rfl ?_
            refine AW.goto 20 dX10_test_321 (by decide) ?_
            first | exact fin true _ _ hcv | exact fin false _ _ hcv
  · skip
    intro f1 r1 p1
    have en : pp_need tp n 41 s2 = (true, (pp_nrm tp n s2).2) := by unfold pp_need; rw [if_neg (by rw [p1]; exact Bool.false_ne_true)]
    have fin : ∀ (c : Bool) (v6 v7 : Option Value), c = (A && ((u || v) != b)) → AW l g RX10 cX10_test 8 (some .boolean) false (d + 3) 0 0 20 [some (.ref 99), some (.int (nI (32 * st + x))), some (.int (nI a)), some (.int (z_bI du)), some (.int (nI o)), some (.int (nI 0)), v6, v7] [] (ZS m0 m1 md) (z_st (z_st M1 99 3 (nI 1)) 102 o (z_bI c)) (z_Qi Q) := fun c v6 v7 hc => by
      have r9 : g_rd (z_st (z_st M1 99 3 (nI 1)) 102 o (z_bI c)) (true, (pp_nrm tp n s2).2) := ⟨by rw [z_st_ne (by decide), z_st_v]; rfl, by rw [z_st_ne (by decide), z_st_o (by decide)]; exact r1.2⟩
      exact L_test_bad r9 (bad _ ⟨fun k k1 k2 k3 k4 => by rw [z_st_ne k3, z_st_ne k1]; exact f1.1 k k1, fun j j1 j2 => by rw [z_st_ne (by decide), z_st_o j2]; exact f1.2 j j1 j2, fun j hj => ⟨by rw [z_st_ne (by decide), z_st_ne (by decide), f1.1 101 (by decide)], by rw [z_st_o (by omega), z_st_ne (by decide), f1.1 102 (by decide)], by rw [z_st_ne (by decide), z_st_ne (by decide), f1.1 103 (by decide)]⟩⟩ (by rw [en]; exact r9) (by rw [en])) v6 v7
    refine AW.if_ne 249 253 dX10_test_246 (by decide) rfl (fun h => absurd h (by decide)) (fun _ => ?_)
    refine AW.iconst 250 (nI 1) dX10_test_249 (by decide) rfl ?_
    refine AW.goto 254 dX10_test_250 (by decide) ?_
    refine AW.putI 257 .boolean dX10_test_254 pX10_147 rfl (zI rfl rfl) rfl rfl rfl ?_
    refine AW.aload_n 258 dX10_test_257 rfl rfl ?_
    refine AW.getR 261 dX10_test_258 fX10_13 rfl (zI rfl rfl) rfl rfl ?_
    refine AW.iload 263 dX10_test_261 rfl rfl ?_
    refine AW.bald 264 dX10_test_263 (zA rfl rfl) rfl (by omega) (by decide) rfl ?_
    refine AW.topi (z_bI u) (by rw [z_st_ne (by decide), f1.1 101 (by decide)]; exact hu) ?_
    refine AW.zif_ne 267 277 dX10_test_264 (by decide) rfl rfl (fun b264 => ?_) (fun b264 => ?_)
    · skip
      refine AW.iconst 278 (nI 1) dX10_test_277 (by decide) rfl ?_
      have hw : (u || v) = true := by first | (rw [z_bt b264]; rfl) | (rw [z_bf b264, z_bt b274]; rfl)
      refine AW.goto 282 dX10_test_278 (by decide) ?_
      refine AW.ist6 284 dX10_test_282 (by decide) rfl rfl ?_
      refine AW.iinc4 287 (nI o) dX10_test_284 (z_dec o) (by decide) rfl rfl ?_
      refine AW.aload_n 288 dX10_test_287 rfl rfl ?_
      refine AW.getR 291 dX10_test_288 fX10_17 rfl (zI rfl rfl) rfl rfl ?_
      refine AW.iload 293 dX10_test_291 rfl rfl ?_
      refine AW.aload_n 294 dX10_test_293 rfl rfl ?_
      refine AW.getR 297 dX10_test_294 fX10_17 rfl (zI rfl rfl) rfl rfl ?_
      refine AW.iload 299 dX10_test_297 rfl rfl ?_
      refine AW.bald 300 dX10_test_299 (zA rfl rfl) rfl (by omega) (by decide) rfl ?_
      refine AW.topi (z_bI A) (by rw [z_st_ne (by decide), f1.1 102 (by decide)]; exact hA) ?_
      refine AW.zif_eq 303 319 dX10_test_300 (by decide) rfl rfl (fun b300 => ?_) (fun b300 => ?_)
      · skip
        refine AW.iconst 320 (nI 0) dX10_test_319 (by decide) rfl ?_
        have hcv : false = (A && ((u || v) != b)) := by first | (rw [z_bf b300]; rfl) | (rw [z_bt b300, hw]; first | exact z_eq1 b312 | exact z_eq0 b312)
        refine AW.bast 321 dX10_test_320 (zA rfl rfl) rfl (by omega) (by decide) rfl rfl ?_
        refine AW.goto 20 dX10_test_321 (by decide) ?_
        first | exact fin true _ _ hcv | exact fin false _ _ hcv
      · skip
        refine AW.iload 305 dX10_test_303 rfl rfl ?_
        refine AW.aload_n 306 dX10_test_305 rfl rfl ?_
        refine AW.getR 309 dX10_test_306 fX10_20 rfl (zI rfl rfl) rfl rfl ?_
        refine AW.iload 311 dX10_test_309 rfl rfl ?_
        refine AW.bald 312 dX10_test_311 (zA rfl rfl) rfl (by omega) (by decide) rfl ?_
        refine AW.topi (z_bI b) (by rw [z_st_ne (by decide), f1.1 103 (by decide)]; exact hb) ?_
        refine AW.zicmp_eq 315 319 dX10_test_312 (by decide) rfl (by decide : (nI 1).toInt = 1) rfl (fun b312 => ?_) (fun b312 => ?_)
        · skip
          refine AW.iconst 320 (nI 0) dX10_test_319 (by decide) rfl ?_
          have hcv : false = (A && ((u || v) != b)) := by first | (rw [z_bf b300]; rfl) | (rw [z_bt b300, hw]; first | exact z_eq1 b312 | exact z_eq0 b312)
          refine AW.bast 321 dX10_test_320 (zA rfl rfl) rfl (by omega) (by decide) rfl rfl ?_
          refine AW.goto 20 dX10_test_321 (by decide) ?_
          first | exact fin true _ _ hcv | exact fin false _ _ hcv
        · skip
          refine AW.iconst 316 (nI 1) dX10_test_315 (by decide) rfl ?_
          have hcv : true = (A && ((u || v) != b)) := by rw [z_bt b300, hw]; first | exact z_ne1 b312 | exact z_ne0 b312
          refine AW.goto 320 dX10_test_316 (by decide) ?_
          refine AW.bast 321 dX10_test_320 (zA rfl rfl) rfl (by omega) (by decide) rfl rfl ?_
          refine AW.goto 20 dX10_test_321 (by decide) ?_
          first | exact fin true _ _ hcv | exact fin false _ _ hcv
    · skip
      refine AW.aload_n 268 dX10_test_267 rfl rfl ?_
      refine AW.getR 271 dX10_test_268 fX10_17 rfl (zI rfl rfl) rfl rfl ?_
      refine AW.iload 273 dX10_test_271 rfl rfl ?_
      refine AW.bald 274 dX10_test_273 (zA rfl rfl) rfl (by omega) (by decide) rfl ?_
      refine AW.topi (z_bI v) (by rw [z_st_ne (by decide), f1.1 102 (by decide)]; exact hv) ?_
      refine AW.zif_eq 277 281 dX10_test_274 (by decide) rfl rfl (fun b274 => ?_) (fun b274 => ?_)
      · skip
        refine AW.iconst 282 (nI 0) dX10_test_281 (by decide) rfl ?_
        have hw : (u || v) = false := by rw [z_bf b264, z_bf b274]; rfl
        refine AW.ist6 284 dX10_test_282 (by decide) rfl rfl ?_
        refine AW.iinc4 287 (nI o) dX10_test_284 (z_dec o) (by decide) rfl rfl ?_
        refine AW.aload_n 288 dX10_test_287 rfl rfl ?_
        refine AW.getR 291 dX10_test_288 fX10_17 rfl (zI rfl rfl) rfl rfl ?_
        refine AW.iload 293 dX10_test_291 rfl rfl ?_
        refine AW.aload_n 294 dX10_test_293 rfl rfl ?_
        refine AW.getR 297 dX10_test_294 fX10_17 rfl (zI rfl rfl) rfl rfl ?_
        refine AW.iload 299 dX10_test_297 rfl rfl ?_
        refine AW.bald 300 dX10_test_299 (zA rfl rfl) rfl (by omega) (by decide) rfl ?_
        refine AW.topi (z_bI A) (by rw [z_st_ne (by decide), f1.1 102 (by decide)]; exact hA) ?_
        refine AW.zif_eq 303 319 dX10_test_300 (by decide) rfl rfl (fun b300 => ?_) (fun b300 => ?_)
        · skip
          refine AW.iconst 320 (nI 0) dX10_test_319 (by decide) rfl ?_
          have hcv : false = (A && ((u || v) != b)) := by first | (rw [z_bf b300]; rfl) | (rw [z_bt b300, hw]; first | exact z_eq1 b312 | exact z_eq0 b312)
          refine AW.bast 321 dX10_test_320 (zA rfl rfl) rfl (by omega) (by decide) rfl rfl ?_
          refine AW.goto 20 dX10_test_321 (by decide) ?_
          first | exact fin true _ _ hcv | exact fin false _ _ hcv
        · skip
          refine AW.iload 305 dX10_test_303 rfl rfl ?_
          refine AW.aload_n 306 dX10_test_305 rfl rfl ?_
          refine AW.getR 309 dX10_test_306 fX10_20 rfl (zI rfl rfl) rfl rfl ?_
          refine AW.iload 311 dX10_test_309 rfl rfl ?_
          refine AW.bald 312 dX10_test_311 (zA rfl rfl) rfl (by omega) (by decide) rfl ?_
          refine AW.topi (z_bI b) (by rw [z_st_ne (by decide), f1.1 103 (by decide)]; exact hb) ?_
          refine AW.zicmp_eq 315 319 dX10_test_312 (by decide) rfl (by decide : (nI 0).toInt = 0) rfl (fun b312 => ?_) (fun b312 => ?_)
          · skip
            refine AW.iconst 320 (nI 0) dX10_test_319 (by decide) rfl ?_
            have hcv : false = (A && ((u || v) != b)) := by first | (rw [z_bf b300]; rfl) | (rw [z_bt b300, hw]; first | exact z_eq1 b312 | exact z_eq0 b312)
            refine AW.bast 321 dX10_test_320 (zA rfl rfl) rfl (by omega) (by decide) rfl rfl ?_
            refine AW.goto 20 dX10_test_321 (by decide) ?_
            first | exact fin true _ _ hcv | exact fin false _ _ hcv
          · skip
            refine AW.iconst 316 (nI 1) dX10_test_315 (by decide) rfl ?_
            have hcv : true = (A && ((u || v) != b)) := by rw [z_bt b300, hw]; first | exact z_ne1 b312 | exact z_ne0 b312
            refine AW.goto 320 dX10_test_316 (by decide) ?_
            refine AW.bast 321 dX10_test_320 (zA rfl rfl) rfl (by omega) (by decide) rfl rfl ?_
            refine AW.goto 20 dX10_test_321 (by decide) ?_
            first | exact fin true _ _ hcv | exact fin false _ _ hcv
      · skip
        refine AW.iconst 278 (nI 1) dX10_test_277 (by decide) rfl ?_
        have hw : (u || v) = true := by first | (rw [z_bt b264]; rfl) | (rw [z_bf b264, z_bt b274]; rfl)
        refine AW.goto 282 dX10_test_278 (by decide) ?_
        refine AW.ist6 284 dX10_test_282 (by decide) rfl rfl ?_
        refine AW.iinc4 287 (nI o) dX10_test_284 (z_dec o) (by decide) rfl rfl ?_
        refine AW.aload_n 288 dX10_test_287 rfl rfl ?_
        refine AW.getR 291 dX10_test_288 fX10_17 rfl (zI rfl rfl) rfl rfl ?_
        refine AW.iload 293 dX10_test_291 rfl rfl ?_
        refine AW.aload_n 294 dX10_test_293 rfl rfl ?_
        refine AW.getR 297 dX10_test_294 fX10_17 rfl (zI rfl rfl) rfl rfl ?_
        refine AW.iload 299 dX10_test_297 rfl rfl ?_
        refine AW.bald 300 dX10_test_299 (zA rfl rfl) rfl (by omega) (by decide) rfl ?_
        refine AW.topi (z_bI A) (by rw [z_st_ne (by decide), f1.1 102 (by decide)]; exact hA) ?_
        refine AW.zif_eq 303 319 dX10_test_300 (by decide) rfl rfl (fun b300 => ?_) (fun b300 => ?_)
        · skip
          refine AW.iconst 320 (nI 0) dX10_test_319 (by decide) rfl ?_
          have hcv : false = (A && ((u || v) != b)) := by first | (rw [z_bf b300]; rfl) | (rw [z_bt b300, hw]; first | exact z_eq1 b312 | exact z_eq0 b312)
          refine AW.bast 321 dX10_test_320 (zA rfl rfl) rfl (by omega) (by decide) rfl rfl ?_
          refine AW.goto 20 dX10_test_321 (by decide) ?_
          first | exact fin true _ _ hcv | exact fin false _ _ hcv
        · skip
          refine AW.iload 305 dX10_test_303 rfl rfl ?_
          refine AW.aload_n 306 dX10_test_305 rfl rfl ?_
          refine AW.getR 309 dX10_test_306 fX10_20 rfl (zI rfl rfl) rfl rfl ?_
          refine AW.iload 311 dX10_test_309 rfl rfl ?_
          refine AW.bald 312 dX10_test_311 (zA rfl rfl) rfl (by omega) (by decide) rfl ?_
          refine AW.topi (z_bI b) (by rw [z_st_ne (by decide), f1.1 103 (by decide)]; exact hb) ?_
          refine AW.zicmp_eq 315 319 dX10_test_312 (by decide) rfl (by decide : (nI 1).toInt = 1) rfl (fun b312 => ?_) (fun b312 => ?_)
          · skip
            refine AW.iconst 320 (nI 0) dX10_test_319 (by decide) rfl ?_
            have hcv : false = (A && ((u || v) != b)) := by first | (rw [z_bf b300]; rfl) | (rw [z_bt b300, hw]; first | exact z_eq1 b312 | exact z_eq0 b312)
            refine AW.bast 321 dX10_test_320 (zA rfl rfl) rfl (by omega) (by decide) rfl rfl ?_
            refine AW.goto 20 dX10_test_321 (by decide) ?_
            first | exact fin true _ _ hcv | exact fin false _ _ hcv
          · skip
            refine AW.iconst 316 (nI 1) dX10_test_315 (by decide) rfl ?_
            have hcv : true = (A && ((u || v) != b)) := by rw [z_bt b300, hw]; first | exact z_ne1 b312 | exact z_ne0 b312
            refine AW.goto 320 dX10_test_316 (by decide) ?_
            refine AW.bast 321 dX10_test_320 (zA rfl rfl) rfl (by omega) (by decide) rfl rfl ?_
            refine AW.goto 20 dX10_test_321 (by decide) ?_
            first | exact fin true _ _ hcv | exact fin false _ _ hcv
theorem L_test_40 (hst : st < 4) (hx : x < 32) (ha : a < 4) {o : Nat} (ho : o ≤ 5) {sub : Option (pS → pS × pB)} (hs0 : ¬ o < 5 → sub = none) (hs1 : o < 5 → ∃ T, sub = some T ∧ pp_good n T ∧ g_RT l g d m0 m1 md st x a du Q n tp (o + 1) T) (hT : g_tp M n tp) (hs : g_rd M s) (hsf : s.1 = false) (hn : s.2 ≤ n) {A b : Bool} (hA : M 102 o = z_bI A)
    (bad : ∀ M', g_frO o M M' → g_rd M' (pp_atom tp n du sub s).1 → (pp_atom tp n du sub s).1.1 = true → Q (nI 0) (ZS m0 m1 md) M')
    (good : ∀ M', g_frO o M M' → M' 101 o = M 101 o → g_rd M' (pp_atom tp n du sub s).1 → (pp_atom tp n du sub s).1.1 = false → M' 102 o = z_bI (A && ((pp_atom tp n du sub s).2 (4 * a + st) x != b)) → g_at l g d m0 m1 md st x a du Q 20 o 0 M') (v7 : Option Value) :
    AW l g RX10 cX10_test 8 (some .boolean) false (d + 3) 0 0 40 [some (.ref 99), some (.int (nI (32 * st + x))), some (.int (nI a)), some (.int (z_bI du)), some (.int (nI o)), some (.int (nI 1)), some (.int (z_bI b)), v7] [] (ZS m0 m1 md) M (z_Qi Q) := by
  obtain ⟨w, p⟩ := s
  cases hsf
  have hn : p ≤ n := hn
  have hn120 := hT.2.1.1
  have hsk := pp_sk_le (tp := tp) (n := n) (p := p) hn
  have hcu := pp_cu_le hT.2.1 p
  have cp := fun h => pp_cu_pos (tp := tp) (n := n) (p := p) h
  have py : ∀ c, pp_cu tp n p = c → pp_pass tp n c (false, p) = (true, (false, pp_sk tp n p + 1)) := fun c h => by unfold pp_pass; rw [if_neg Bool.false_ne_true, if_pos h]
  have pn : ∀ c, ¬ pp_cu tp n p = c → (pp_pass tp n c (false, p)).1 = false := fun c h => by unfold pp_pass; rw [if_neg Bool.false_ne_true, if_neg h]
  have enone : (¬ pp_cu tp n p = 40 ∨ ¬ o < 5) → pp_atom tp n du sub (false, p) = pp_atom tp n du none (false, p) := fun h => by
    by_cases h5 : o < 5
    · obtain ⟨T, eT, -, -⟩ := hs1 h5
      have h40 := pn 40 (by omega)
      rw [eT]
      unfold pp_atom
      simp only [h40, Bool.false_eq_true, if_false]
    · rw [hs0 h5]
  have easub : ∀ T, sub = some T → pp_cu tp n p = 40 → pp_atom tp n du sub (false, p) = (pp_need tp n 41 (T (false, pp_sk tp n p + 1)).1, (T (false, pp_sk tp n p + 1)).2) := fun T eT h => by
    have hnd : ¬ (du = true ∧ (pp_pass tp n 97 (false, p)).1 = true) := by rw [pn 97 (by omega)]; exact fun z => Bool.false_ne_true z.2
    rw [eT]
    unfold pp_atom
    simp only [pn 102 (by omega), pn 115 (by omega), pn 108 (by omega), pn 42 (by omega), if_neg hnd, py 40 h, Bool.false_eq_true, if_false, if_true]
  refine AW.aload_n 41 dX10_test_40 rfl rfl ?_
  refine AW.cVi0 44 dX10_test_41 kX10_151 (zI rfl rfl) (Nat.le_of_ble_eq_true rfl) rfl (C_X10_next (p := p) hT hn hs.2 (fun M1 a1 a2 a3 => ?_))
  have f1 : g_fr M M1 := ⟨a1, fun j h _ => a2 j h⟩
  refine AW.bipush 46 (nI 40) dX10_test_44 (by decide) rfl ?_
  refine AW.icmpN_ne 49 96 dX10_test_46 (by decide) rfl (by omega) (by omega) (fun b46 => ?_) (fun b46 => ?_)
  · skip
    have eA := enone (by first | exact Or.inl b46 | exact Or.inr (by omega))
    rw [eA] at bad good
    have r1 : g_rd M1 (pp_nrm tp n (false, p)) := ⟨by rw [a2 3 (by decide)]; exact hs.1, a3⟩
    have eN : pp_atom tp n du none (pp_nrm tp n (false, p)) = pp_atom tp n du none (false, p) := by unfold pp_atom; simp only [pp_pass_nrm (tp := tp) (n := n) (s := (false, p)) hn, pp_nrm_nrm (tp := tp) (n := n) (s := (false, p)) hn]
    refine AW.aload_n 97 dX10_test_96 rfl rfl ?_
    refine AW.iload_n 98 dX10_test_97 rfl rfl ?_
    refine AW.iload_n 99 dX10_test_98 rfl rfl ?_
    refine AW.iload_n 100 dX10_test_99 rfl rfl ?_
    refine AW.cVi3 103 dX10_test_100 kX10_166 (zI rfl rfl) (Nat.le_of_ble_eq_true rfl) rfl (C_X10_claim (M := M1) (s := pp_nrm tp n (false, p)) (du := du) hst hx ha (hT.of f1) r1 rfl hsk.2 (fun M2 rv f2 r2 h2 => ?_))
    rw [eN] at r2 h2
    refine AW.ist7 105 dX10_test_103 (by decide) rfl rfl ?_
    refine AW.aload_n 106 dX10_test_105 rfl rfl ?_
    refine AW.getR 109 dX10_test_106 fX10_17 rfl (zI rfl rfl) rfl rfl ?_
    refine AW.iload 111 dX10_test_109 rfl rfl ?_
    refine AW.aload_n 112 dX10_test_111 rfl rfl ?_
    refine AW.getR 115 dX10_test_112 fX10_17 rfl (zI rfl rfl) rfl rfl ?_
    refine AW.iload 117 dX10_test_115 rfl rfl ?_
    refine AW.bald 118 dX10_test_117 (zA rfl rfl) rfl (by omega) (by decide) rfl ?_
    refine AW.topi (z_bI A) (by rw [f2.1 102 (by decide), f1.1 102 (by decide)]; exact hA) ?_
    refine AW.zif_eq 121 132 dX10_test_118 (by decide) rfl rfl (fun b118 => ?_) (fun b118 => ?_)
    · skip
      refine AW.iconst 133 (nI 0) dX10_test_132 (by decide) rfl ?_
      have hcv : false = (A && (rv != b)) := by first | (rw [z_bf b118]; rfl) | (rw [z_bt b118]; exact z_nq b125)
      refine AW.bast 134 dX10_test_133 (zA rfl rfl) rfl (by omega) (by decide) rfl rfl ?_
      have F := (f1.tr f2).O (o := o)
      have fin0 : ∀ (c : Bool) (v6 v7 : Option Value), c = (A && (rv != b)) → AW l g RX10 cX10_test 8 (some .boolean) false (d + 3) 0 0 20 [some (.ref 99), some (.int (nI (32 * st + x))), some (.int (nI a)), some (.int (z_bI du)), some (.int (nI o)), some (.int (nI 0)), v6, v7] [] (ZS m0 m1 md) (z_st M2 102 o (z_bI c)) (z_Qi Q) := fun c v6 v7 hc => by
        have F2 : g_frO o M (z_st M2 102 o (z_bI c)) := F.tr ⟨fun k k1 k2 k3 k4 => z_st_ne k3, fun j j1 j2 => by rw [z_st_ne (by decide)], fun j hj => ⟨by rw [z_st_ne (by decide)], by rw [z_st_o (by omega)], by rw [z_st_ne (by decide)]⟩⟩
        have r9 : g_rd (z_st M2 102 o (z_bI c)) (pp_atom tp n du none (false, p)).1 := ⟨by rw [z_st_ne (by decide)]; exact r2.1, by rw [z_st_ne (by decide)]; exact r2.2⟩
        cases hb : (pp_atom tp n du none (false, p)).1.1 with
        | true =>
          have r10 : g_rd (z_st M2 102 o (z_bI c)) (true, (pp_atom tp n du none (false, p)).1.2) := by rw [← hb]; exact r9
          exact L_test_bad r10 (bad _ F2 r9 hb) v6 v7
        | false => exact good _ F2 (by rw [z_st_ne (by decide), f2.1 101 (by decide), f1.1 101 (by decide)]) r9 hb (by rw [z_st_v, hc, h2 hb]) v6 v7
      refine AW.iconst 135 (nI 0) dX10_test_134 (by decide) rfl ?_
      refine AW.ist5 137 dX10_test_135 (by decide) rfl rfl ?_
      refine AW.goto 20 dX10_test_137 (by decide) ?_
      first
      | exact fin _ _
      | exact fin0 true _ _ hcv
      | exact fin0 false _ _ hcv
    · skip
      refine AW.iload 123 dX10_test_121 rfl rfl ?_
      refine AW.iload 125 dX10_test_123 rfl rfl ?_
      refine AW.zicmp_eq 128 132 dX10_test_125 (by decide) rfl rfl rfl (fun b125 => ?_) (fun b125 => ?_)
      · skip
        refine AW.iconst 133 (nI 0) dX10_test_132 (by decide) rfl ?_
        have hcv : false = (A && (rv != b)) := by first | (rw [z_bf b118]; rfl) | (rw [z_bt b118]; exact z_nq b125)
        refine AW.bast 134 dX10_test_133 (zA rfl rfl) rfl (by omega) (by decide) rfl rfl ?_
        have F := (f1.tr f2).O (o := o)
        have fin0 : ∀ (c : Bool) (v6 v7 : Option Value), c = (A && (rv != b)) → AW l g RX10 cX10_test 8 (some .boolean) false (d + 3) 0 0 20 [some (.ref 99), some (.int (nI (32 * st + x))), some (.int (nI a)), some (.int (z_bI du)), some (.int (nI o)), some (.int (nI 0)), v6, v7] [] (ZS m0 m1 md) (z_st M2 102 o (z_bI c)) (z_Qi Q) := fun c v6 v7 hc => by
          have F2 : g_frO o M (z_st M2 102 o (z_bI c)) := F.tr ⟨fun k k1 k2 k3 k4 => z_st_ne k3, fun j j1 j2 => by rw [z_st_ne (by decide)], fun j hj => ⟨by rw [z_st_ne (by decide)], by rw [z_st_o (by omega)], by rw [z_st_ne (by decide)]⟩⟩
          have r9 : g_rd (z_st M2 102 o (z_bI c)) (pp_atom tp n du none (false, p)).1 := ⟨by rw [z_st_ne (by decide)]; exact r2.1, by rw [z_st_ne (by decide)]; exact r2.2⟩
          cases hb : (pp_atom tp n du none (false, p)).1.1 with
          | true =>
            have r10 : g_rd (z_st M2 102 o (z_bI c)) (true, (pp_atom tp n du none (false, p)).1.2) := by rw [← hb]; exact r9
            exact L_test_bad r10 (bad _ F2 r9 hb) v6 v7
          | false => exact good _ F2 (by rw [z_st_ne (by decide), f2.1 101 (by decide), f1.1 101 (by decide)]) r9 hb (by rw [z_st_v, hc, h2 hb]) v6 v7
        refine AW.iconst 135 (nI 0) dX10_test_134 (by decide) rfl ?_
        refine AW.ist5 137 dX10_test_135 (by decide) rfl rfl ?_
        refine AW.goto 20 dX10_test_137 (by decide) ?_
        first
        | exact fin _ _
        | exact fin0 true _ _ hcv
        | exact fin0 false _ _ hcv
      · skip
        refine AW.iconst 129 (nI 1) dX10_test_128 (by decide) rfl ?_
        have hcv : true = (A && (rv != b)) := by rw [z_bt b118]; exact z_nn b125
        refine AW.goto 133 dX10_test_129 (by decide) ?_
        refine AW.bast 134 dX10_test_133 (zA rfl rfl) rfl (by omega) (by decide) rfl rfl ?_
        have F := (f1.tr f2).O (o := o)
        have fin0 : ∀ (c : Bool) (v6 v7 : Option Value), c = (A && (rv != b)) → AW l g RX10 cX10_test 8 (some .boolean) false (d + 3) 0 0 20 [some (.ref 99), some (.int (nI (32 * st + x))), some (.int (nI a)), some (.int (z_bI du)), some (.int (nI o)), some (.int (nI 0)), v6, v7] [] (ZS m0 m1 md) (z_st M2 102 o (z_bI c)) (z_Qi Q) := fun c v6 v7 hc => by
          have F2 : g_frO o M (z_st M2 102 o (z_bI c)) := F.tr ⟨fun k k1 k2 k3 k4 => z_st_ne k3, fun j j1 j2 => by rw [z_st_ne (by decide)], fun j hj => ⟨by rw [z_st_ne (by decide)], by rw [z_st_o (by omega)], by rw [z_st_ne (by decide)]⟩⟩
          have r9 : g_rd (z_st M2 102 o (z_bI c)) (pp_atom tp n du none (false, p)).1 := ⟨by rw [z_st_ne (by decide)]; exact r2.1, by rw [z_st_ne (by decide)]; exact r2.2⟩
          cases hb : (pp_atom tp n du none (false, p)).1.1 with
          | true =>
            have r10 : g_rd (z_st M2 102 o (z_bI c)) (true, (pp_atom tp n du none (false, p)).1.2) := by rw [← hb]; exact r9
            exact L_test_bad r10 (bad _ F2 r9 hb) v6 v7
          | false => exact good _ F2 (by rw [z_st_ne (by decide), f2.1 101 (by decide), f1.1 101 (by decide)]) r9 hb (by rw [z_st_v, hc, h2 hb]) v6 v7
        refine AW.iconst 135 (nI 0) dX10_test_134 (by decide) rfl ?_
        refine AW.ist5 137 dX10_test_135 (by decide) rfl rfl ?_
        refine AW.goto 20 dX10_test_137 (by decide) ?_
        first
        | exact fin _ _
        | exact fin0 true _ _ hcv
        | exact fin0 false _ _ hcv
  · skip
    refine AW.iload 51 dX10_test_49 rfl rfl ?_
    refine AW.iconst 52 (nI 5) dX10_test_51 (by decide) rfl ?_
    refine AW.icmpN_ge 55 96 dX10_test_52 (by decide) rfl (by omega) (by omega) (fun b52 => ?_) (fun b52 => ?_)
    · skip
      have eA := enone (by first | exact Or.inl b46 | exact Or.inr (by omega))
      rw [eA] at bad good
      have r1 : g_rd M1 (pp_nrm tp n (false, p)) := ⟨by rw [a2 3 (by decide)]; exact hs.1, a3⟩
      have eN : pp_atom tp n du none (pp_nrm tp n (false, p)) = pp_atom tp n du none (false, p) := by unfold pp_atom; simp only [pp_pass_nrm (tp := tp) (n := n) (s := (false, p)) hn, pp_nrm_nrm (tp := tp) (n := n) (s := (false, p)) hn]
      refine AW.aload_n 97 dX10_test_96 rfl rfl ?_
      refine AW.iload_n 98 dX10_test_97 rfl rfl ?_
      refine AW.iload_n 99 dX10_test_98 rfl rfl ?_
      refine AW.iload_n 100 dX10_test_99 rfl rfl ?_
      refine AW.cVi3 103 dX10_test_100 kX10_166 (zI rfl rfl) (Nat.le_of_ble_eq_true rfl) rfl (C_X10_claim (M := M1) (s := pp_nrm tp n (false, p)) (du := du) hst hx ha (hT.of f1) r1 rfl hsk.2 (fun M2 rv f2 r2 h2 => ?_))
      rw [eN] at r2 h2
      refine AW.ist7 105 dX10_test_103 (by decide) rfl rfl ?_
      refine AW.aload_n 106 dX10_test_105 rfl rfl ?_
      refine AW.getR 109 dX10_test_106 fX10_17 rfl (zI rfl rfl) rfl rfl ?_
      refine AW.iload 111 dX10_test_109 rfl rfl ?_
      refine AW.aload_n 112 dX10_test_111 rfl rfl ?_
      refine AW.getR 115 dX10_test_112 fX10_17 rfl (zI rfl rfl) rfl rfl ?_
      refine AW.iload 117 dX10_test_115 rfl rfl ?_
      refine AW.bald 118 dX10_test_117 (zA rfl rfl) rfl (by omega) (by decide) rfl ?_
      refine AW.topi (z_bI A) (by rw [f2.1 102 (by decide), f1.1 102 (by decide)]; exact hA) ?_
      refine AW.zif_eq 121 132 dX10_test_118 (by decide) rfl rfl (fun b118 => ?_) (fun b118 => ?_)
      · skip
        refine AW.iconst 133 (nI 0) dX10_test_132 (by decide) rfl ?_
        have hcv : false = (A && (rv != b)) := by first | (rw [z_bf b118]; rfl) | (rw [z_bt b118]; exact z_nq b125)
        refine AW.bast 134 dX10_test_133 (zA rfl rfl) rfl (by omega) (by decide) rfl rfl ?_
        have F := (f1.tr f2).O (o := o)
        have fin0 : ∀ (c : Bool) (v6 v7 : Option Value), c = (A && (rv != b)) → AW l g RX10 cX10_test 8 (some .boolean) false (d + 3) 0 0 20 [some (.ref 99), some (.int (nI (32 * st + x))), some (.int (nI a)), some (.int (z_bI du)), some (.int (nI o)), some (.int (nI 0)), v6, v7] [] (ZS m0 m1 md) (z_st M2 102 o (z_bI c)) (z_Qi Q) := fun c v6 v7 hc => by
          have F2 : g_frO o M (z_st M2 102 o (z_bI c)) := F.tr ⟨fun k k1 k2 k3 k4 => z_st_ne k3, fun j j1 j2 => by rw [z_st_ne (by decide)], fun j hj => ⟨by rw [z_st_ne (by decide)], by rw [z_st_o (by omega)], by rw [z_st_ne (by decide)]⟩⟩
          have r9 : g_rd (z_st M2 102 o (z_bI c)) (pp_atom tp n du none (false, p)).1 := ⟨by rw [z_st_ne (by decide)]; exact r2.1, by rw [z_st_ne (by decide)]; exact r2.2⟩
          cases hb : (pp_atom tp n du none (false, p)).1.1 with
          | true =>
            have r10 : g_rd (z_st M2 102 o (z_bI c)) (true, (pp_atom tp n du none (false, p)).1.2) := by rw [← hb]; exact r9
            exact L_test_bad r10 (bad _ F2 r9 hb) v6 v7
          | false => exact good _ F2 (by rw [z_st_ne (by decide), f2.1 101 (by decide), f1.1 101 (by decide)]) r9 hb (by rw [z_st_v, hc, h2 hb]) v6 v7
        refine AW.iconst 135 (nI 0) dX10_test_134 (by decide) rfl ?_
        refine AW.ist5 137 dX10_test_135 (by decide) rfl rfl ?_
        refine AW.goto 20 dX10_test_137 (by decide) ?_
        first
        | exact fin _ _
        | exact fin0 true _ _ hcv
        | exact fin0 false _ _ hcv
      · skip
        refine AW.iload 123 dX10_test_121 rfl rfl ?_
        refine AW.iload 125 dX10_test_123 rfl rfl ?_
        refine AW.zicmp_eq 128 132 dX10_test_125 (by decide) rfl rfl rfl (fun b125 => ?_) (fun b125 => ?_)
        · skip
          refine AW.iconst 133 (nI 0) dX10_test_132 (by decide) rfl ?_
          have hcv : false = (A && (rv != b)) := by first | (rw [z_bf b118]; rfl) | (rw [z_bt b118]; exact z_nq b125)
          refine AW.bast 134 dX10_test_133 (zA rfl rfl) rfl (by omega) (by decide) rfl rfl ?_
          have F := (f1.tr f2).O (o := o)
          have fin0 : ∀ (c : Bool) (v6 v7 : Option Value), c = (A && (rv != b)) → AW l g RX10 cX10_test 8 (some .boolean) false (d + 3) 0 0 20 [some (.ref 99), some (.int (nI (32 * st + x))), some (.int (nI a)), some (.int (z_bI du)), some (.int (nI o)), some (.int (nI 0)), v6, v7] [] (ZS m0 m1 md) (z_st M2 102 o (z_bI c)) (z_Qi Q) := fun c v6 v7 hc => by
            have F2 : g_frO o M (z_st M2 102 o (z_bI c)) := F.tr ⟨fun k k1 k2 k3 k4 => z_st_ne k3, fun j j1 j2 => by rw [z_st_ne (by decide)], fun j hj => ⟨by rw [z_st_ne (by decide)], by rw [z_st_o (by omega)], by rw [z_st_ne (by decide)]⟩⟩
            have r9 : g_rd (z_st M2 102 o (z_bI c)) (pp_atom tp n du none (false, p)).1 := ⟨by rw [z_st_ne (by decide)]; exact r2.1, by rw [z_st_ne (by decide)]; exact r2.2⟩
            cases hb : (pp_atom tp n du none (false, p)).1.1 with
            | true =>
              have r10 : g_rd (z_st M2 102 o (z_bI c)) (true, (pp_atom tp n du none (false, p)).1.2) := by rw [← hb]; exact r9
              exact L_test_bad r10 (bad _ F2 r9 hb) v6 v7
            | false => exact good _ F2 (by rw [z_st_ne (by decide), f2.1 101 (by decide), f1.1 101 (by decide)]) r9 hb (by rw [z_st_v, hc, h2 hb]) v6 v7
          refine AW.iconst 135 (nI 0) dX10_test_134 (by decide) rfl ?_
          refine AW.ist5 137 dX10_test_135 (by decide) rfl rfl ?_
          refine AW.goto 20 dX10_test_137 (by decide) ?_
          first
          | exact fin _ _
          | exact fin0 true _ _ hcv
          | exact fin0 false _ _ hcv
        · skip
          refine AW.iconst 129 (nI 1) dX10_test_128 (by decide) rfl ?_
          have hcv : true = (A && (rv != b)) := by rw [z_bt b118]; exact z_nn b125
          refine AW.goto 133 dX10_test_129 (by decide) ?_
          refine AW.bast 134 dX10_test_133 (zA rfl rfl) rfl (by omega) (by decide) rfl rfl ?_
          have F := (f1.tr f2).O (o := o)
          have fin0 : ∀ (c : Bool) (v6 v7 : Option Value), c = (A && (rv != b)) → AW l g RX10 cX10_test 8 (some .boolean) false (d + 3) 0 0 20 [some (.ref 99), some (.int (nI (32 * st + x))), some (.int (nI a)), some (.int (z_bI du)), some (.int (nI o)), some (.int (nI 0)), v6, v7] [] (ZS m0 m1 md) (z_st M2 102 o (z_bI c)) (z_Qi Q) := fun c v6 v7 hc => by
            have F2 : g_frO o M (z_st M2 102 o (z_bI c)) := F.tr ⟨fun k k1 k2 k3 k4 => z_st_ne k3, fun j j1 j2 => by rw [z_st_ne (by decide)], fun j hj => ⟨by rw [z_st_ne (by decide)], by rw [z_st_o (by omega)], by rw [z_st_ne (by decide)]⟩⟩
            have r9 : g_rd (z_st M2 102 o (z_bI c)) (pp_atom tp n du none (false, p)).1 := ⟨by rw [z_st_ne (by decide)]; exact r2.1, by rw [z_st_ne (by decide)]; exact r2.2⟩
            cases hb : (pp_atom tp n du none (false, p)).1.1 with
            | true =>
              have r10 : g_rd (z_st M2 102 o (z_bI c)) (true, (pp_atom tp n du none (false, p)).1.2) := by rw [← hb]; exact r9
              exact L_test_bad r10 (bad _ F2 r9 hb) v6 v7
            | false => exact good _ F2 (by rw [z_st_ne (by decide), f2.1 101 (by decide), f1.1 101 (by decide)]) r9 hb (by rw [z_st_v, hc, h2 hb]) v6 v7
          refine AW.iconst 135 (nI 0) dX10_test_134 (by decide) rfl ?_
          refine AW.ist5 137 dX10_test_135 (by decide) rfl rfl ?_
          refine AW.goto 20 dX10_test_137 (by decide) ?_
          first
          | exact fin _ _
          | exact fin0 true _ _ hcv
          | exact fin0 false _ _ hcv
    · skip
      refine AW.aload_n 56 dX10_test_55 rfl rfl ?_
      refine AW.dup 57 dX10_test_56 rfl rfl ?_
      refine AW.getI 60 dX10_test_57 fX10_144 rfl (zI rfl rfl) rfl ?_
      refine AW.topi (nI (pp_sk tp n p)) a3 ?_
      refine AW.iconst 61 (nI 1) dX10_test_60 (by decide) rfl ?_
      refine AW.iaddN 62 dX10_test_61 rfl ?_
      refine AW.putI 65 .int dX10_test_62 pX10_144 rfl (zI rfl rfl) rfl rfl rfl ?_
      refine AW.aload_n 66 dX10_test_65 rfl rfl ?_
      refine AW.getR 69 dX10_test_66 fX10_20 rfl (zI rfl rfl) rfl rfl ?_
      refine AW.iload 71 dX10_test_69 rfl rfl ?_
      refine AW.iload 73 dX10_test_71 rfl rfl ?_
      refine AW.bast 74 dX10_test_73 (zA rfl rfl) rfl (by omega) (by decide) (by cases b <;> rfl) rfl ?_
      refine AW.iinc4 77 _ dX10_test_74 (z_inc1 _) (by decide) rfl rfl ?_
      refine AW.aload_n 78 dX10_test_77 rfl rfl ?_
      refine AW.getR 81 dX10_test_78 fX10_13 rfl (zI rfl rfl) rfl rfl ?_
      refine AW.iload 83 dX10_test_81 rfl rfl ?_
      refine AW.iconst 84 (nI 0) dX10_test_83 (by decide) rfl ?_
      refine AW.bast 85 dX10_test_84 (zA rfl rfl) rfl (by omega) (by decide) rfl rfl ?_
      refine AW.aload_n 86 dX10_test_85 rfl rfl ?_
      refine AW.getR 89 dX10_test_86 fX10_17 rfl (zI rfl rfl) rfl rfl ?_
      refine AW.iload 91 dX10_test_89 rfl rfl ?_
      refine AW.iconst 92 (nI 1) dX10_test_91 (by decide) rfl ?_
      refine AW.bast 93 dX10_test_92 (zA rfl rfl) rfl (by omega) (by decide) rfl rfl ?_
      obtain ⟨T, eT, gT, kT⟩ := hs1 (by omega)
      have eA := easub T eT (by omega)
      rw [eA] at bad good
      have hp := cp (by omega)
      have F : g_frO o M (z_st (z_st (z_st (z_st M1 99 2 (nI (pp_sk tp n p + 1))) 103 o (z_bI b)) 101 (o + 1) (nI 0)) 102 (o + 1) (nI 1)) := ⟨fun k k1 k2 k3 k4 => by rw [z_st_ne k3, z_st_ne k2, z_st_ne k4, z_st_ne k1]; exact f1.1 k k1, fun j j1 j2 => by rw [z_st_ne (by decide), z_st_ne (by decide), z_st_ne (by decide), z_st_o j1]; exact f1.2 j j1 j2, fun j hj => ⟨by rw [z_st_ne (by decide), z_st_o (by omega), z_st_ne (by decide), z_st_ne (by decide), f1.1 101 (by decide)], by rw [z_st_o (by omega), z_st_ne (by decide), z_st_ne (by decide), z_st_ne (by decide), f1.1 102 (by decide)], by rw [z_st_ne (by decide), z_st_ne (by decide), z_st_o (by omega), z_st_ne (by decide), f1.1 103 (by decide)]⟩⟩
      have K101 : z_st (z_st (z_st (z_st M1 99 2 (nI (pp_sk tp n p + 1))) 103 o (z_bI b)) 101 (o + 1) (nI 0)) 102 (o + 1) (nI 1) 101 o = M 101 o := by rw [z_st_ne (by decide), z_st_o (by omega), z_st_ne (by decide), z_st_ne (by decide), f1.1 101 (by decide)]
      have K102 : z_st (z_st (z_st (z_st M1 99 2 (nI (pp_sk tp n p + 1))) 103 o (z_bI b)) 101 (o + 1) (nI 0)) 102 (o + 1) (nI 1) 102 o = z_bI A := by rw [z_st_o (by omega), z_st_ne (by decide), z_st_ne (by decide), z_st_ne (by decide), f1.1 102 (by decide)]; exact hA
      have K103 : z_st (z_st (z_st (z_st M1 99 2 (nI (pp_sk tp n p + 1))) 103 o (z_bI b)) 101 (o + 1) (nI 0)) 102 (o + 1) (nI 1) 103 o = z_bI b := by rw [z_st_ne (by decide), z_st_ne (by decide), z_st_v]
      have L101 : z_st (z_st (z_st (z_st M1 99 2 (nI (pp_sk tp n p + 1))) 103 o (z_bI b)) 101 (o + 1) (nI 0)) 102 (o + 1) (nI 1) 101 (o + 1) = nI 0 := by rw [z_st_ne (by decide), z_st_v]
      have L102 : z_st (z_st (z_st (z_st M1 99 2 (nI (pp_sk tp n p + 1))) 103 o (z_bI b)) 101 (o + 1) (nI 0)) 102 (o + 1) (nI 1) 102 (o + 1) = nI 1 := z_st_v _ _ _ _
      have rd : g_rd (z_st (z_st (z_st (z_st M1 99 2 (nI (pp_sk tp n p + 1))) 103 o (z_bI b)) 101 (o + 1) (nI 0)) 102 (o + 1) (nI 1)) (false, pp_sk tp n p + 1) := ⟨by rw [z_st_ne (by decide), z_st_ne (by decide), z_st_ne (by decide), z_st_o (by decide), a2 3 (by decide)]; exact hs.1, by rw [z_st_ne (by decide), z_st_ne (by decide), z_st_ne (by decide), z_st_v]⟩
      generalize z_st (z_st (z_st (z_st M1 99 2 (nI (pp_sk tp n p + 1))) 103 o (z_bI b)) 101 (o + 1) (nI 0)) 102 (o + 1) (nI 1) = M9 at F K101 K102 K103 L101 L102 rd ⊢
      have lt : ∀ M' : zM, g_frO (o + 1) M9 M' → g_frO o M M' := fun M' q => F.tr ⟨q.1, q.2.1, fun j hj => q.2.2 j (by omega)⟩
      have gT2 := gT.2 (false, pp_sk tp n p + 1) hp
      have fin := kT M9 (false, pp_sk tp n p + 1) (hT.ofO F) rd rfl hp L101 L102 (fun M' q1 q2 q3 => bad M' (lt M' q1) (by rw [pp_need_f q3]; exact q2) (by rw [pp_need_f q3]; exact q3)) (fun M' u v q1 q2 q3 q4 q5 q6 => L_test_pop (by omega) (hT.ofO (lt M' q1)) q2 q3 gT2.1 (A := A) (b := b) (by rw [(q1.2.2 o (by omega)).2.1]; exact K102) (by rw [(q1.2.2 o (by omega)).2.2]; exact K103) q4 q5 (fun M'' y1 y2 y3 => bad M'' ((lt M' q1).tr y1) y2 y3) (fun M'' y1 y2 y3 y4 y5 => good M'' ((lt M' q1).tr y1) (by rw [y2, (q1.2.2 o (by omega)).1]; exact K101) y3 y4 (by rw [q6] at y5; exact y5)))
      refine AW.goto 137 dX10_test_93 (by decide) ?_
      refine AW.goto 20 dX10_test_137 (by decide) ?_
      first
      | exact fin _ _
      | exact fin0 true _ _ hcv
      | exact fin0 false _ _ hcv
theorem L_test_claim (hst : st < 4) (hx : x < 32) (ha : a < 4) {o : Nat} (ho : o ≤ 5) {sub : Option (pS → pS × pB)} (hs0 : ¬ o < 5 → sub = none) (hs1 : o < 5 → ∃ T, sub = some T ∧ pp_good n T ∧ g_RT l g d m0 m1 md st x a du Q n tp (o + 1) T) : g_RC l g d m0 m1 md st x a du Q n tp o (pp_cl tp n du sub) := by
  intro M s A hT hs hsf hn hA bad good v6 v7
  have e3 : M 99 3 = nI 0 := by rw [hs.1, hsf]; rfl
  have hp := pp_pass_le (tp := tp) (c := 33) (by decide) hn
  have fin := fun M1 (f1 : g_fr M M1) (r1 : g_rd M1 (pp_pass tp n 33 s).2) => L_test_40 (l := l) (g := g) (d := d) (m0 := m0) (m1 := m1) (md := md) (M := M1) (Q := Q) hst hx ha ho hs0 hs1 (hT.of f1) r1 (hp.2.2.1.trans hsf) hp.1 (A := A) (b := (pp_pass tp n 33 s).1) (by rw [f1.1 102 (by decide)]; exact hA) (fun M' q1 q2 q3 => bad M' ((f1.O).tr q1) q2 q3) (fun M' q1 q2 q3 q4 q5 => good M' ((f1.O).tr q1) (by rw [q2, f1.1 101 (by decide)]) q3 q4 q5)
  refine AW.aload_n 21 dX10_test_20 rfl rfl ?_
  refine AW.getI 24 dX10_test_21 fX10_147 rfl (zI rfl rfl) rfl ?_
  refine AW.topi (nI 0) e3 ?_
  refine AW.ifN_ne 27 324 dX10_test_24 (by decide) rfl (by omega) (fun b24 => absurd b24 (by omega)) (fun b24 => ?_)
  refine AW.iload 29 dX10_test_27 rfl rfl ?_
  refine AW.if_eq 32 140 dX10_test_29 (by decide) rfl (fun h => absurd h (by decide)) (fun _ => ?_)
  refine AW.aload_n 33 dX10_test_32 rfl rfl ?_
  refine AW.bipush 35 (nI 33) dX10_test_33 (by decide) rfl ?_
  refine AW.cVi1 38 dX10_test_35 kX10_162 (zI rfl rfl) (Nat.le_of_ble_eq_true rfl) rfl (C_X10_passes hT hs hn (by decide) (fun M1 => ?_) (fun M1 => ?_))
  · skip
    intro f1 r1 p1
    have fin2 := fun v7 => fin M1 f1 r1 v7
    rw [p1] at fin2
    refine AW.ist6 40 dX10_test_38 (by decide) rfl rfl ?_
    exact fin2 _
  · skip
    intro f1 r1 p1
    rw [← pp_pass_no p1] at r1
    have fin2 := fun v7 => fin M1 f1 r1 v7
    rw [p1] at fin2
    refine AW.ist6 40 dX10_test_38 (by decide) rfl rfl ?_
    exact fin2 _
end MTEST
