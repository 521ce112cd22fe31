theorem z_ortt {u v : Bool} (h : u = true) : nI 1 = z_bI (u || v) := by rw [h]; rfl
theorem z_orft {u v : Bool} (h : u = false) (h2 : v = true) : nI 1 = z_bI (u || v) := by rw [h, h2]; rfl
theorem z_orff {u v : Bool} (h : u = false) (h2 : v = false) : nI 0 = z_bI (u || v) := by rw [h, h2]; rfl
section MTEST2
variable {l : Launch} {g : zG} {d m0 m1 md : Nat} {M : zM} {n : Nat} {tp : Nat → Nat} {s : pS} {st x a : Nat} {du : Bool} {Q : Int32 → zS → zM → Prop}
theorem L_test_case {o : Nat} (ho : o ≤ 5) {cl : pS → pS × pB} (hg : pp_good n cl) (hC : g_RC l g d m0 m1 md st x a du Q n tp o cl) : ∀ (f : Nat) (M : zM) (s : pS) (A : pB), g_tp M n tp → g_rd M s → s.1 = false → s.2 ≤ n → (n < s.2 + f ∨ f = 120) → M 102 o = z_bI (A (4 * a + st) x) →
    (∀ M', g_frO o M M' → g_rd M' (pp_case tp n cl f s A).1 → (pp_case tp n cl f s A).1.1 = true → Q (nI 0) (ZS m0 m1 md) M') →
    (∀ M', g_frO o M M' → M' 101 o = M 101 o → g_rd M' (pp_case tp n cl f s A).1 → (pp_case tp n cl f s A).1.1 = false → M' 102 o = z_bI ((pp_case tp n cl f s A).2 (4 * a + st) x) → g_at l g d m0 m1 md st x a du Q 155 o 0 M') → g_at l g d m0 m1 md st x a du Q 20 o 1 M := by
  intro f
  induction f with
  | zero =>
    intro M s A hT hs hsf hn hf
    exact absurd hf (by omega)
  | succ f ih =>
    intro M s A hT hs hsf hn hf hA bad good
    have hn120 := hT.2.1.1
    have g1 := hg.2 s hn
    have g2 := pp_pass_le (tp := tp) (c := 38) (by decide) g1.1
    refine hC M s (A (4 * a + st) x) hT hs hsf hn hA (fun M' q1 q2 q3 => ?_) (fun M1 q1 q2 q3 q4 q5 => ?_)
    · have e : (pp_case tp n cl (f + 1) s A).1 = (cl s).1 := by unfold pp_case; rw [pp_pass_f q3, if_neg Bool.false_ne_true]
      rw [e] at bad
      exact bad M' q1 q2 q3
    · intro v6 v7
      have e3 : M1 99 3 = nI 0 := by rw [q3.1, q4]; rfl
      have g3 := g1.2.2 hsf q4
      unfold pp_case at bad good
      refine AW.aload_n 21 dX10_test_20 rfl rfl ?_
      refine AW.getI 24 dX10_test_21 fX10_147 rfl (zI rfl rfl) rfl ?_
      refine AW.topi (nI 0) e3 ?_
      refine AW.ifN_ne 27 324 dX10_test_24 (by decide) rfl (by omega) (fun b24 => absurd b24 (by omega)) (fun b24 => ?_)
      refine AW.iload 29 dX10_test_27 rfl rfl ?_
      refine AW.if_eq 32 140 dX10_test_29 (by decide) rfl (fun _ => ?_) (fun h => absurd h (by decide))
      refine AW.aload_n 141 dX10_test_140 rfl rfl ?_
      refine AW.bipush 143 (nI 38) dX10_test_141 (by decide) rfl ?_
      refine AW.cVi1 146 dX10_test_143 kX10_162 (zI rfl rfl) (Nat.le_of_ble_eq_true rfl) rfl (C_X10_passes (hT.ofO q1) q3 g1.1 (by decide) (fun M2 => ?_) (fun M2 => ?_))
      · skip
        intro f2 r2 p2
        rw [if_pos p2] at bad good
        have g4 := g2.2.2.2 p2
        have F : g_frO o M M2 := q1.tr f2.O
        refine AW.if_eq 149 155 dX10_test_146 (by decide) rfl (fun h => absurd h (by decide)) (fun _ => ?_)
        refine AW.iconst 150 (nI 1) dX10_test_149 (by decide) rfl ?_
        refine AW.ist5 152 dX10_test_150 (by decide) rfl rfl ?_
        refine AW.goto 20 dX10_test_152 (by decide) ?_
        exact ih M2 _ (fun i x => A i x && (cl s).2 i x) (hT.ofO F) r2 (g2.2.2.1.trans q4) g2.1 (by omega) (by rw [f2.1 102 (by decide)]; exact q5) (fun M' y1 y2 y3 => bad M' (F.tr y1) y2 y3) (fun M' y1 y2 y3 y4 y5 => good M' (F.tr y1) (by rw [y2, f2.1 101 (by decide)]; exact q2) y3 y4 y5) _ _
      · skip
        intro f2 r2 p2
        rw [if_neg (by rw [p2]; exact Bool.false_ne_true)] at bad good
        rw [← pp_pass_no p2] at r2
        have F : g_frO o M M2 := q1.tr f2.O
        refine AW.if_eq 149 155 dX10_test_146 (by decide) rfl (fun _ => ?_) (fun h => absurd h (by decide))
        exact good M2 F (by rw [f2.1 101 (by decide)]; exact q2) r2 (g2.2.2.1.trans q4) (by rw [f2.1 102 (by decide)]; exact q5) _ _
theorem L_test_test {o : Nat} (ho : o ≤ 5) {cl : pS → pS × pB} (hg : pp_good n cl) (hC : g_RC l g d m0 m1 md st x a du Q n tp o cl) : ∀ (f : Nat) (M : zM) (s : pS) (A : pB), g_tp M n tp → g_rd M s → s.1 = false → s.2 ≤ n → (n < s.2 + f ∨ f = 120) → M 101 o = z_bI (A (4 * a + st) x) → M 102 o = nI 1 →
    (∀ M', g_frO o M M' → g_rd M' (pp_test tp n cl f s A).1 → (pp_test tp n cl f s A).1.1 = true → Q (nI 0) (ZS m0 m1 md) M') →
    (∀ (M' : zM) (u v : Bool), g_frO o M M' → g_rd M' (pp_test tp n cl f s A).1 → (pp_test tp n cl f s A).1.1 = false → M' 101 o = z_bI u → M' 102 o = z_bI v → (u || v) = (pp_test tp n cl f s A).2 (4 * a + st) x → g_at l g d m0 m1 md st x a du Q 210 o 0 M') → g_at l g d m0 m1 md st x a du Q 20 o 1 M := by
  have hg0 := pp_case120 (tp := tp) hg
  intro f
  induction f with
  | zero =>
    intro M s A hT hs hsf hn hf
    exact absurd hf (by omega)
  | succ f ih =>
    intro M s A hT hs hsf hn hf h1 h2 bad good
    have hn120 := hT.2.1.1
    have g1 := hg0.2 s hn
    have g2 := pp_pass_le (tp := tp) (c := 124) (by decide) g1.1
    refine L_test_case ho hg hC 120 M s (fun _ _ => true) hT hs hsf hn (Or.inr rfl) h2 (fun M' q1 q2 q3 => ?_) (fun M1 q1 q2 q3 q4 q5 => ?_)
    · have e : (pp_test tp n cl (f + 1) s A).1 = (pp_case tp n cl 120 s (fun _ _ => true)).1 := by unfold pp_test; rw [pp_pass_f q3, if_neg Bool.false_ne_true]
      rw [e] at bad
      exact bad M' q1 q2 q3
    · intro v6 v7
      have g3 := g1.2.2 hsf q4
      unfold pp_test at bad good
      refine AW.aload_n 156 dX10_test_155 rfl rfl ?_
      refine AW.bipush 158 (nI 124) dX10_test_156 (by decide) rfl ?_
      refine AW.cVi1 161 dX10_test_158 kX10_162 (zI rfl rfl) (Nat.le_of_ble_eq_true rfl) rfl (C_X10_passes (hT.ofO q1) q3 g1.1 (by decide) (fun M2 => ?_) (fun M2 => ?_))
      · skip
        intro f2 r2 p2
        rw [if_pos p2] at bad good
        have g4 := g2.2.2.2 p2
        have F : g_frO o M M2 := q1.tr f2.O
        have fin : ∀ c : Int32, c = z_bI (A (4 * a + st) x || (pp_case tp n cl 120 s (fun _ _ => true)).2 (4 * a + st) x) → g_at l g d m0 m1 md st x a du Q 20 o 1 (z_st (z_st M2 101 o c) 102 o (nI 1)) := fun c hc => by
          have F2 : g_frO o M (z_st (z_st M2 101 o c) 102 o (nI 1)) := F.tr ⟨fun k k1 k2 k3 k4 => by rw [z_st_ne k3, z_st_ne k2], fun j j1 j2 => by rw [z_st_ne (by decide), z_st_ne (by decide)], fun j hj => ⟨by rw [z_st_ne (by decide), z_st_o (by omega)], by rw [z_st_o (by omega), z_st_ne (by decide)], by rw [z_st_ne (by decide), z_st_ne (by decide)]⟩⟩
          exact ih _ _ (fun i x => A i x || (pp_case tp n cl 120 s (fun _ _ => true)).2 i x) (hT.ofO F2) ⟨by rw [z_st_ne (by decide), z_st_ne (by decide)]; exact r2.1, by rw [z_st_ne (by decide), z_st_ne (by decide)]; exact r2.2⟩ (g2.2.2.1.trans q4) g2.1 (by omega) (by rw [z_st_ne (by decide), z_st_v]; exact hc) (z_st_v _ _ _ _) (fun M' y1 y2 y3 => bad M' (F2.tr y1) y2 y3) (fun M' u v y1 y2 y3 y4 y5 y6 => good M' u v (F2.tr y1) y2 y3 y4 y5 y6)
        refine AW.if_eq 164 210 dX10_test_161 (by decide) rfl (fun h => absurd h (by decide)) (fun _ => ?_)
        refine AW.aload_n 165 dX10_test_164 rfl rfl ?_
        refine AW.getR 168 dX10_test_165 fX10_13 rfl (zI rfl rfl) rfl rfl ?_
        refine AW.iload 170 dX10_test_168 rfl rfl ?_
        refine AW.aload_n 171 dX10_test_170 rfl rfl ?_
        refine AW.getR 174 dX10_test_171 fX10_13 rfl (zI rfl rfl) rfl rfl ?_
        refine AW.iload 176 dX10_test_174 rfl rfl ?_
        refine AW.bald 177 dX10_test_176 (zA rfl rfl) rfl (by omega) (by decide) rfl ?_
        refine AW.topi (z_bI (A (4 * a + st) x)) (by rw [f2.1 101 (by decide), q2]; exact h1) ?_
        refine AW.zif_ne 180 190 dX10_test_177 (by decide) rfl rfl (fun b177 => ?_) (fun b177 => ?_)
        · skip
          refine AW.iconst 191 (nI 1) dX10_test_190 (by decide) rfl ?_
          refine AW.goto 195 dX10_test_191 (by decide) ?_
          refine AW.bast 196 dX10_test_195 (zA rfl rfl) rfl (by omega) (by decide) rfl rfl ?_
          refine AW.aload_n 197 dX10_test_196 rfl rfl ?_
          refine AW.getR 200 dX10_test_197 fX10_17 rfl (zI rfl rfl) rfl rfl ?_
          refine AW.iload 202 dX10_test_200 rfl rfl ?_
          refine AW.iconst 203 (nI 1) dX10_test_202 (by decide) rfl ?_
          refine AW.bast 204 dX10_test_203 (zA rfl rfl) rfl (by omega) (by decide) rfl rfl ?_
          refine AW.iconst 205 (nI 1) dX10_test_204 (by decide) rfl ?_
          refine AW.ist5 207 dX10_test_205 (by decide) rfl rfl ?_
          refine AW.goto 20 dX10_test_207 (by decide) ?_
          exact fin _ (by first | exact z_ortt (z_bt b177) | exact z_orft (z_bf b177) (z_bt b187) | exact z_orff (z_bf b177) (z_bf b187)) _ _
        · skip
          refine AW.aload_n 181 dX10_test_180 rfl rfl ?_
          refine AW.getR 184 dX10_test_181 fX10_17 rfl (zI rfl rfl) rfl rfl ?_
          refine AW.iload 186 dX10_test_184 rfl rfl ?_
          refine AW.bald 187 dX10_test_186 (zA rfl rfl) rfl (by omega) (by decide) rfl ?_
          refine AW.topi (z_bI ((pp_case tp n cl 120 s (fun _ _ => true)).2 (4 * a + st) x)) (by rw [f2.1 102 (by decide)]; exact q5) ?_
          refine AW.zif_eq 190 194 dX10_test_187 (by decide) rfl rfl (fun b187 => ?_) (fun b187 => ?_)
          · skip
            refine AW.iconst 195 (nI 0) dX10_test_194 (by decide) rfl ?_
            refine AW.bast 196 dX10_test_195 (zA rfl rfl) rfl (by omega) (by decide) rfl rfl ?_
            refine AW.aload_n 197 dX10_test_196 rfl rfl ?_
            refine AW.getR 200 dX10_test_197 fX10_17 rfl (zI rfl rfl) rfl rfl ?_
            refine AW.iload 202 dX10_test_200 rfl rfl ?_
            refine AW.iconst 203 (nI 1) dX10_test_202 (by decide) rfl ?_
            refine AW.bast 204 dX10_test_203 (zA rfl rfl) rfl (by omega) (by decide) rfl rfl ?_
            refine AW.iconst 205 (nI 1) dX10_test_204 (by decide) rfl ?_
            refine AW.ist5 207 dX10_test_205 (by decide) rfl rfl ?_
            refine AW.goto 20 dX10_test_207 (by decide) ?_
            exact fin _ (by first | exact z_ortt (z_bt b177) | exact z_orft (z_bf b177) (z_bt b187) | exact z_orff (z_bf b177) (z_bf b187)) _ _
          · skip
            refine AW.iconst 191 (nI 1) dX10_test_190 (by decide) rfl ?_
            refine AW.goto 195 dX10_test_191 (by decide) ?_
            refine AW.bast 196 dX10_test_195 (zA rfl rfl) rfl (by omega) (by decide) rfl rfl ?_
            refine AW.aload_n 197 dX10_test_196 rfl rfl ?_
            refine AW.getR 200 dX10_test_197 fX10_17 rfl (zI rfl rfl) rfl rfl ?_
            refine AW.iload 202 dX10_test_200 rfl rfl ?_
            refine AW.iconst 203 (nI 1) dX10_test_202 (by decide) rfl ?_
            refine AW.bast 204 dX10_test_203 (zA rfl rfl) rfl (by omega) (by decide) rfl rfl ?_
            refine AW.iconst 205 (nI 1) dX10_test_204 (by decide) rfl ?_
            refine AW.ist5 207 dX10_test_205 (by decide) rfl rfl ?_
            refine AW.goto 20 dX10_test_207 (by decide) ?_
            exact fin _ (by first | exact z_ortt (z_bt b177) | exact z_orft (z_bf b177) (z_bt b187) | exact z_orff (z_bf b177) (z_bf b187)) _ _
      · skip
        intro f2 r2 p2
        rw [if_neg (by rw [p2]; exact Bool.false_ne_true)] at bad good
        rw [← pp_pass_no p2] at r2
        have F : g_frO o M M2 := q1.tr f2.O
        refine AW.if_eq 164 210 dX10_test_161 (by decide) rfl (fun _ => ?_) (fun h => absurd h (by decide))
        exact good M2 _ _ F r2 (g2.2.2.1.trans q4) (by rw [f2.1 101 (by decide), q2]; exact h1) (by rw [f2.1 102 (by decide)]; exact q5) rfl _ _
theorem C_X10_tests (hst : st < 4) (hx : x < 32) (ha : a < 4) : ∀ k o, o + k = 5 → g_RT l g d m0 m1 md st x a du Q n tp o (pp_T tp n du k)
  | 0, o, h => by
    have hc : g_RC l g d m0 m1 md st x a du Q n tp o (pp_claim tp n du 0) := L_test_claim hst hx ha (sub := none) (by omega) (fun _ => rfl) (fun h => absurd h (by omega))
    intro M s hT hs hsf hn h1 h2 bad good
    exact L_test_test (by omega) (pp_claim_good du 0) hc 120 M s (fun _ _ => false) hT hs hsf hn (Or.inr rfl) h1 h2 bad good
  | k + 1, o, h => by
    have hc : g_RC l g d m0 m1 md st x a du Q n tp o (pp_claim tp n du (k + 1)) := L_test_claim hst hx ha (sub := some (pp_T tp n du k)) (by omega) (fun h => absurd (show o < 5 by omega) h) (fun _ => ⟨_, rfl, pp_T_good du k, C_X10_tests hst hx ha k (o + 1) (by omega)⟩)
    intro M s hT hs hsf hn h1 h2 bad good
    exact L_test_test (by omega) (pp_claim_good du (k + 1)) hc 120 M s (fun _ _ => false) hT hs hsf hn (Or.inr rfl) h1 h2 bad good
theorem L_test_end (hT : g_tp M n tp) {u v r : Bool} (hu : M 101 0 = z_bI u) (hv : M 102 0 = z_bI v) (hr : (u || v) = r) (hQ : Q (z_bI r) (ZS m0 m1 md) M) : g_at l g d m0 m1 md st x a du Q 210 0 0 M := by
  intro v6 v7
  subst hr
  refine AW.iload 212 dX10_test_210 rfl rfl ?_
  refine AW.if_ne 215 239 dX10_test_212 (by decide) rfl (fun h => absurd h (by decide)) (fun _ => ?_)
  refine AW.aload_n 216 dX10_test_215 rfl rfl ?_
  refine AW.getR 219 dX10_test_216 fX10_13 rfl (zI rfl rfl) rfl rfl ?_
  refine AW.iconst 220 (nI 0) dX10_test_219 (by decide) rfl ?_
  refine AW.bald 221 dX10_test_220 (zA rfl rfl) rfl (by omega) (by decide) rfl ?_
  refine AW.topi (z_bI u) hu ?_
  refine AW.zif_ne 224 233 dX10_test_221 (by decide) rfl rfl (fun b221 => ?_) (fun b221 => ?_)
  · skip
    refine AW.iconst 234 (nI 1) dX10_test_233 (by decide) rfl ?_
    refine AW.goto 238 dX10_test_234 (by decide) ?_
    refine AW.iret dX10_test_238 .boolean rfl rfl rfl ⟨_, rfl, ?_⟩
    first | (rw [← z_ortt (z_bt b221)] at hQ; exact hQ) | (rw [← z_orft (z_bf b221) (z_bt b230)] at hQ; exact hQ) | (rw [← z_orff (z_bf b221) (z_bf b230)] at hQ; exact hQ)
  · skip
    refine AW.aload_n 225 dX10_test_224 rfl rfl ?_
    refine AW.getR 228 dX10_test_225 fX10_17 rfl (zI rfl rfl) rfl rfl ?_
    refine AW.iconst 229 (nI 0) dX10_test_228 (by decide) rfl ?_
    refine AW.bald 230 dX10_test_229 (zA rfl rfl) rfl (by omega) (by decide) rfl ?_
    refine AW.topi (z_bI v) hv ?_
    refine AW.zif_eq 233 237 dX10_test_230 (by decide) rfl rfl (fun b230 => ?_) (fun b230 => ?_)
    · skip
      refine AW.iconst 238 (nI 0) dX10_test_237 (by decide) rfl ?_
      refine AW.iret dX10_test_238 .boolean rfl rfl rfl ⟨_, rfl, ?_⟩
      first | (rw [← z_ortt (z_bt b221)] at hQ; exact hQ) | (rw [← z_orft (z_bf b221) (z_bt b230)] at hQ; exact hQ) | (rw [← z_orff (z_bf b221) (z_bf b230)] at hQ; exact hQ)
    · skip
      refine AW.iconst 234 (nI 1) dX10_test_233 (by decide) rfl ?_
      refine AW.goto 238 dX10_test_234 (by decide) ?_
      refine AW.iret dX10_test_238 .boolean rfl rfl rfl ⟨_, rfl, ?_⟩
      first | (rw [← z_ortt (z_bt b221)] at hQ; exact hQ) | (rw [← z_orft (z_bf b221) (z_bt b230)] at hQ; exact hQ) | (rw [← z_orff (z_bf b221) (z_bf b230)] at hQ; exact hQ)
theorem C_X10_test (hst : st < 4) (hx : x < 32) (ha : a < 4) (hT : g_tp M n tp) (hs : g_rd M s) (hsf : s.1 = false) (hn : s.2 ≤ n)
    (bad : ∀ M', g_frO 0 M M' → g_rd M' (pp_T tp n du 5 s).1 → (pp_T tp n du 5 s).1.1 = true → Q (nI 0) (ZS m0 m1 md) M')
    (good : ∀ M', g_frO 0 M M' → g_rd M' (pp_T tp n du 5 s).1 → (pp_T tp n du 5 s).1.1 = false → Q (z_bI ((pp_T tp n du 5 s).2 (4 * a + st) x)) (ZS m0 m1 md) M') :
    AMet l g yX10_test cX10_test 8 (some .boolean) (d + 3) 0 0 [.ref 99, .int (nI (32 * st + x)), .int (nI a), .int (z_bI du)] (ZS m0 m1 md) M (z_Qi Q) := by
  have F : g_frO 0 M (z_st (z_st M 101 0 (nI 0)) 102 0 (nI 1)) := ⟨fun k k1 k2 k3 k4 => by rw [z_st_ne k3, z_st_ne k2], fun j j1 j2 => by rw [z_st_ne (by decide), z_st_ne (by decide)], fun j hj => absurd hj (by omega)⟩
  have fin := C_X10_tests (l := l) (g := g) (d := d) (m0 := m0) (m1 := m1) (md := md) (n := n) (tp := tp) (du := du) (Q := Q) hst hx ha 5 0 rfl (z_st (z_st M 101 0 (nI 0)) 102 0 (nI 1)) s (hT.ofO F) ⟨by rw [z_st_ne (by decide), z_st_ne (by decide)]; exact hs.1, by rw [z_st_ne (by decide), z_st_ne (by decide)]; exact hs.2⟩ hsf hn (by rw [z_st_ne (by decide), z_st_v]) (z_st_v _ _ _ _) (fun M' y1 y2 y3 => bad M' (F.tr y1) y2 y3) (fun M' u v y1 y2 y3 y4 y5 y6 => L_test_end (hT.ofO (F.tr y1)) y4 y5 y6 (good M' (F.tr y1) y2 y3))
  refine AMet.of (ini := false) rfl (fun h => by first | rfl | cases h) (Nat.le_of_ble_eq_true rfl) ?_
  show AW l g RX10 cX10_test 8 (some .boolean) false _ _ _ 0 [some (.ref 99), some (.int (nI (32 * st + x))), some (.int (nI a)), some (.int (z_bI du)), none, none, none, none] [] _ _ _
  refine AW.iconst 1 (nI 0) dX10_test_0 (by decide) rfl ?_
  refine AW.ist4 3 dX10_test_1 (by decide) rfl rfl ?_
  refine AW.aload_n 4 dX10_test_3 rfl rfl ?_
  refine AW.getR 7 dX10_test_4 fX10_13 rfl (zI rfl rfl) rfl rfl ?_
  refine AW.iconst 8 (nI 0) dX10_test_7 (by decide) rfl ?_
  refine AW.iconst 9 (nI 0) dX10_test_8 (by decide) rfl ?_
  refine AW.bast 10 dX10_test_9 (zA rfl rfl) rfl (by omega) (by decide) rfl rfl ?_
  refine AW.aload_n 11 dX10_test_10 rfl rfl ?_
  refine AW.getR 14 dX10_test_11 fX10_17 rfl (zI rfl rfl) rfl rfl ?_
  refine AW.iconst 15 (nI 0) dX10_test_14 (by decide) rfl ?_
  refine AW.iconst 16 (nI 1) dX10_test_15 (by decide) rfl ?_
  refine AW.bast 17 dX10_test_16 (zA rfl rfl) rfl (by omega) (by decide) rfl rfl ?_
  refine AW.iconst 18 (nI 1) dX10_test_17 (by decide) rfl ?_
  refine AW.ist5 20 dX10_test_18 (by decide) rfl rfl ?_
  exact fin _ _
end MTEST2
