theorem pw_t0 {st x : Nat} (hs : st < 4) (hx : x < 32) : (nI (32 * st + x) &&& nI 1).toInt = 1 ↔ x.testBit 0 = true := by
  have : ∀ st, st < 4 → ∀ x, x < 32 → ((nI (32 * st + x) &&& nI 1).toInt = 1 ↔ x.testBit 0 = true) := by decide +kernel
  exact this st hs x hx
theorem pw_td {st x d : Nat} (hs : st < 4) (hx : x < 32) (hd : d < 4) : ((nI (32 * st + x) >>> (nI (d + 1) &&& 31)) &&& nI 1).toInt = 1 ↔ x.testBit (d + 1) = true := by
  have : ∀ st, st < 4 → ∀ x, x < 32 → ∀ d, d < 4 → (((nI (32 * st + x) >>> (nI (d + 1) &&& 31)) &&& nI 1).toInt = 1 ↔ x.testBit (d + 1) = true) := by decide +kernel
  exact this st hs x hx d hd
theorem pw_t5 {st x : Nat} (hs : st < 4) (hx : x < 32) : nI (32 * st + x) >>> (nI 5 &&& 31) = nI st := by
  have : ∀ st, st < 4 → ∀ x, x < 32 → nI (32 * st + x) >>> (nI 5 &&& 31) = nI st := by decide +kernel
  exact this st hs x hx
theorem z_bI_t {b : Bool} (h : b = true) : nI 1 = z_bI b := by rw [h]; rfl
theorem z_bI_f {b : Bool} (h : b = false) : nI 0 = z_bI b := by rw [h]; rfl
theorem z_bnt {b : Bool} (h : ¬ b = true) : b = false := by cases b <;> simp_all
section MCLAIM
variable {l : Launch} {g : zG} {d m0 m1 md : Nat} {M : zM} {n : Nat} {tp : Nat → Nat} {s : pS} {st x a : Nat} {du : Bool}
theorem L_X10_claim85 (hst : st < 4) (hx : x < 32) (ha : a < 4) (hT : g_tp M n tp) (hs : g_rd M s) (hn : s.2 ≤ n) {c : Nat} (hc : c ≤ 126) {v3 v5 : Int32} {Q : Int32 → zS → zM → Prop}
    (hl : c = 108 → Q (z_bI (x.testBit 0)) (ZS m0 m1 md) M) (h42 : c = 42 → Q (nI 1) (ZS m0 m1 md) M)
    (hd : ¬ c = 108 → ¬ c = 42 → ∀ M', g_fr M M' → g_rd M' (pp_dig tp n s).2 → Q (z_bI (if c = 102 then x.testBit ((pp_dig tp n s).1 + 1) else if c = 115 then decide (st = (pp_dig tp n s).1) else decide (a = (pp_dig tp n s).1))) (ZS m0 m1 md) M') :
    AW l g RX10 cX10_claim 7 (some .boolean) false (d + 2) 0 0 85 [some (.ref 99), some (.int (nI (32 * st + x))), some (.int (nI a)), some (.int v3), some (.int (nI c)), some (.int v5), none] [] (ZS m0 m1 md) M (z_Qi Q) := by
  have d4 := (pp_dig_le (tp := tp) hn).2.2.1
  have e0 := pw_t0 hst hx
  have ed := pw_td hst hx d4
  generalize hdg : (pp_dig tp n s).1 = dg at d4 ed hd
  refine AW.iload 87 dX10_claim_85 rfl rfl ?_
  refine AW.bipush 89 (nI 108) dX10_claim_87 (by decide) rfl ?_
  refine AW.icmpN_eq 92 99 dX10_claim_89 (by decide) rfl (by omega) (by omega) (fun b89 => ?_) (fun b89 => ?_)
  · skip
    refine AW.iload 101 dX10_claim_99 rfl rfl ?_
    refine AW.bipush 103 (nI 42) dX10_claim_101 (by decide) rfl ?_
    refine AW.icmpN_eq 106 113 dX10_claim_103 (by decide) rfl (by omega) (by omega) (fun b103 => ?_) (fun b103 => ?_)
    · skip
      refine AW.iconst 114 (nI 1) dX10_claim_113 (by decide) rfl ?_
      refine AW.goto 118 dX10_claim_114 (by decide) ?_
      refine AW.iret dX10_claim_118 .boolean rfl rfl rfl ⟨_, rfl, ?_⟩
      first
      | (exfalso; omega)
      | (have fin := h42 (by omega); exact fin)
      | (have fin := hl (by omega); rw [← z_bI_t (e0.mp b110)] at fin; exact fin)
      | (have fin := hl (by omega); rw [← z_bI_f (z_bnt (fun z => b110 (e0.mpr z)))] at fin; exact fin)
    · skip
      refine AW.iload_n 107 dX10_claim_106 rfl rfl ?_
      refine AW.iconst 108 (nI 1) dX10_claim_107 (by decide) rfl ?_
      refine AW.iand 109 dX10_claim_108 rfl ?_
      refine AW.iconst 110 (nI 1) dX10_claim_109 (by decide) rfl ?_
      refine AW.zicmp_ne 113 117 dX10_claim_110 (by decide) rfl rfl (by decide : (nI 1).toInt = 1) (fun b110 => ?_) (fun b110 => ?_)
      · skip
        refine AW.iconst 118 (nI 0) dX10_claim_117 (by decide) rfl ?_
        refine AW.iret dX10_claim_118 .boolean rfl rfl rfl ⟨_, rfl, ?_⟩
        first
        | (exfalso; omega)
        | (have fin := h42 (by omega); exact fin)
        | (have fin := hl (by omega); rw [← z_bI_t (e0.mp b110)] at fin; exact fin)
        | (have fin := hl (by omega); rw [← z_bI_f (z_bnt (fun z => b110 (e0.mpr z)))] at fin; exact fin)
      · skip
        refine AW.iconst 114 (nI 1) dX10_claim_113 (by decide) rfl ?_
        refine AW.goto 118 dX10_claim_114 (by decide) ?_
        refine AW.iret dX10_claim_118 .boolean rfl rfl rfl ⟨_, rfl, ?_⟩
        first
        | (exfalso; omega)
        | (have fin := h42 (by omega); exact fin)
        | (have fin := hl (by omega); rw [← z_bI_t (e0.mp b110)] at fin; exact fin)
        | (have fin := hl (by omega); rw [← z_bI_f (z_bnt (fun z => b110 (e0.mpr z)))] at fin; exact fin)
  · skip
    refine AW.iload 94 dX10_claim_92 rfl rfl ?_
    refine AW.bipush 96 (nI 42) dX10_claim_94 (by decide) rfl ?_
    refine AW.icmpN_ne 99 119 dX10_claim_96 (by decide) rfl (by omega) (by omega) (fun b96 => ?_) (fun b96 => ?_)
    · skip
      refine AW.aload_n 120 dX10_claim_119 rfl rfl ?_
      refine AW.cVi0 123 dX10_claim_120 kX10_159 (zI rfl rfl) (Nat.le_of_ble_eq_true rfl) rfl (C_X10_digit hT hs hn (fun M1 f1 r1 => ?_))
      refine AW.topi (nI dg) (by rw [hdg]) ?_
      refine AW.ist6 125 dX10_claim_123 (by decide) rfl rfl ?_
      refine AW.iload 127 dX10_claim_125 rfl rfl ?_
      refine AW.bipush 129 (nI 102) dX10_claim_127 (by decide) rfl ?_
      refine AW.icmpN_ne 132 152 dX10_claim_129 (by decide) rfl (by omega) (by omega) (fun b129 => ?_) (fun b129 => ?_)
      · skip
        refine AW.iload 154 dX10_claim_152 rfl rfl ?_
        refine AW.bipush 156 (nI 115) dX10_claim_154 (by decide) rfl ?_
        refine AW.icmpN_ne 159 175 dX10_claim_156 (by decide) rfl (by omega) (by omega) (fun b156 => ?_) (fun b156 => ?_)
        · skip
          refine AW.iload_n 176 dX10_claim_175 rfl rfl ?_
          refine AW.iload 178 dX10_claim_176 rfl rfl ?_
          refine AW.icmpN_ne 181 185 dX10_claim_178 (by decide) rfl (by omega) (by omega) (fun b178 => ?_) (fun b178 => ?_)
          · skip
            refine AW.iconst 186 (nI 0) dX10_claim_185 (by decide) rfl ?_
            refine AW.iret dX10_claim_186 .boolean rfl rfl rfl ⟨_, rfl, ?_⟩
            have fin := hd (by omega) (by omega) M1 f1 r1
            first
            | (exfalso; omega)
            | (rw [if_pos b129, ← z_bI_t (ed.mp b141)] at fin; exact fin)
            | (rw [if_pos b129, ← z_bI_f (z_bnt (fun z => b141 (ed.mpr z)))] at fin; exact fin)
            | (rw [if_neg b129, if_pos b156, ← z_bI_t (decide_eq_true b164)] at fin; exact fin)
            | (rw [if_neg b129, if_pos b156, ← z_bI_f (decide_eq_false b164)] at fin; exact fin)
            | (rw [if_neg b129, if_neg b156, ← z_bI_t (decide_eq_true b178)] at fin; exact fin)
            | (rw [if_neg b129, if_neg b156, ← z_bI_f (decide_eq_false b178)] at fin; exact fin)
          · skip
            refine AW.iconst 182 (nI 1) dX10_claim_181 (by decide) rfl ?_
            refine AW.goto 186 dX10_claim_182 (by decide) ?_
            refine AW.iret dX10_claim_186 .boolean rfl rfl rfl ⟨_, rfl, ?_⟩
            have fin := hd (by omega) (by omega) M1 f1 r1
            first
            | (exfalso; omega)
            | (rw [if_pos b129, ← z_bI_t (ed.mp b141)] at fin; exact fin)
            | (rw [if_pos b129, ← z_bI_f (z_bnt (fun z => b141 (ed.mpr z)))] at fin; exact fin)
            | (rw [if_neg b129, if_pos b156, ← z_bI_t (decide_eq_true b164)] at fin; exact fin)
            | (rw [if_neg b129, if_pos b156, ← z_bI_f (decide_eq_false b164)] at fin; exact fin)
            | (rw [if_neg b129, if_neg b156, ← z_bI_t (decide_eq_true b178)] at fin; exact fin)
            | (rw [if_neg b129, if_neg b156, ← z_bI_f (decide_eq_false b178)] at fin; exact fin)
        · skip
          refine AW.iload_n 160 dX10_claim_159 rfl rfl ?_
          refine AW.iconst 161 (nI 5) dX10_claim_160 (by decide) rfl ?_
          refine AW.ishr 162 dX10_claim_161 rfl ?_
          refine AW.topi (nI st) (pw_t5 hst hx) ?_
          refine AW.iload 164 dX10_claim_162 rfl rfl ?_
          refine AW.icmpN_ne 167 171 dX10_claim_164 (by decide) rfl (by omega) (by omega) (fun b164 => ?_) (fun b164 => ?_)
          · skip
            refine AW.iconst 172 (nI 0) dX10_claim_171 (by decide) rfl ?_
            refine AW.goto 186 dX10_claim_172 (by decide) ?_
            refine AW.iret dX10_claim_186 .boolean rfl rfl rfl ⟨_, rfl, ?_⟩
            have fin := hd (by omega) (by omega) M1 f1 r1
            first
            | (exfalso; omega)
            | (rw [if_pos b129, ← z_bI_t (ed.mp b141)] at fin; exact fin)
            | (rw [if_pos b129, ← z_bI_f (z_bnt (fun z => b141 (ed.mpr z)))] at fin; exact fin)
            | (rw [if_neg b129, if_pos b156, ← z_bI_t (decide_eq_true b164)] at fin; exact fin)
            | (rw [if_neg b129, if_pos b156, ← z_bI_f (decide_eq_false b164)] at fin; exact fin)
            | (rw [if_neg b129, if_neg b156, ← z_bI_t (decide_eq_true b178)] at fin; exact fin)
            | (rw [if_neg b129, if_neg b156, ← z_bI_f (decide_eq_false b178)] at fin; exact fin)
          · skip
            refine AW.iconst 168 (nI 1) dX10_claim_167 (by decide) rfl ?_
            refine AW.goto 186 dX10_claim_168 (by decide) ?_
            refine AW.iret dX10_claim_186 .boolean rfl rfl rfl ⟨_, rfl, ?_⟩
            have fin := hd (by omega) (by omega) M1 f1 r1
            first
            | (exfalso; omega)
            | (rw [if_pos b129, ← z_bI_t (ed.mp b141)] at fin; exact fin)
            | (rw [if_pos b129, ← z_bI_f (z_bnt (fun z => b141 (ed.mpr z)))] at fin; exact fin)
            | (rw [if_neg b129, if_pos b156, ← z_bI_t (decide_eq_true b164)] at fin; exact fin)
            | (rw [if_neg b129, if_pos b156, ← z_bI_f (decide_eq_false b164)] at fin; exact fin)
            | (rw [if_neg b129, if_neg b156, ← z_bI_t (decide_eq_true b178)] at fin; exact fin)
            | (rw [if_neg b129, if_neg b156, ← z_bI_f (decide_eq_false b178)] at fin; exact fin)
      · skip
        refine AW.iload_n 133 dX10_claim_132 rfl rfl ?_
        refine AW.iload 135 dX10_claim_133 rfl rfl ?_
        refine AW.iconst 136 (nI 1) dX10_claim_135 (by decide) rfl ?_
        refine AW.iaddN 137 dX10_claim_136 rfl ?_
        refine AW.ishr 138 dX10_claim_137 rfl ?_
        refine AW.iconst 139 (nI 1) dX10_claim_138 (by decide) rfl ?_
        refine AW.iand 140 dX10_claim_139 rfl ?_
        refine AW.iconst 141 (nI 1) dX10_claim_140 (by decide) rfl ?_
        refine AW.zicmp_ne 144 148 dX10_claim_141 (by decide) rfl rfl (by decide : (nI 1).toInt = 1) (fun b141 => ?_) (fun b141 => ?_)
        · skip
          refine AW.iconst 149 (nI 0) dX10_claim_148 (by decide) rfl ?_
          refine AW.goto 186 dX10_claim_149 (by decide) ?_
          refine AW.iret dX10_claim_186 .boolean rfl rfl rfl ⟨_, rfl, ?_⟩
          have fin := hd (by omega) (by omega) M1 f1 r1
          first
          | (exfalso; omega)
          | (rw [if_pos b129, ← z_bI_t (ed.mp b141)] at fin; exact fin)
          | (rw [if_pos b129, ← z_bI_f (z_bnt (fun z => b141 (ed.mpr z)))] at fin; exact fin)
          | (rw [if_neg b129, if_pos b156, ← z_bI_t (decide_eq_true b164)] at fin; exact fin)
          | (rw [if_neg b129, if_pos b156, ← z_bI_f (decide_eq_false b164)] at fin; exact fin)
          | (rw [if_neg b129, if_neg b156, ← z_bI_t (decide_eq_true b178)] at fin; exact fin)
          | (rw [if_neg b129, if_neg b156, ← z_bI_f (decide_eq_false b178)] at fin; exact fin)
        · skip
          refine AW.iconst 145 (nI 1) dX10_claim_144 (by decide) rfl ?_
          refine AW.goto 186 dX10_claim_145 (by decide) ?_
          refine AW.iret dX10_claim_186 .boolean rfl rfl rfl ⟨_, rfl, ?_⟩
          have fin := hd (by omega) (by omega) M1 f1 r1
          first
          | (exfalso; omega)
          | (rw [if_pos b129, ← z_bI_t (ed.mp b141)] at fin; exact fin)
          | (rw [if_pos b129, ← z_bI_f (z_bnt (fun z => b141 (ed.mpr z)))] at fin; exact fin)
          | (rw [if_neg b129, if_pos b156, ← z_bI_t (decide_eq_true b164)] at fin; exact fin)
          | (rw [if_neg b129, if_pos b156, ← z_bI_f (decide_eq_false b164)] at fin; exact fin)
          | (rw [if_neg b129, if_neg b156, ← z_bI_t (decide_eq_true b178)] at fin; exact fin)
          | (rw [if_neg b129, if_neg b156, ← z_bI_f (decide_eq_false b178)] at fin; exact fin)
    · skip
      refine AW.iload 101 dX10_claim_99 rfl rfl ?_
      refine AW.bipush 103 (nI 42) dX10_claim_101 (by decide) rfl ?_
      refine AW.icmpN_eq 106 113 dX10_claim_103 (by decide) rfl (by omega) (by omega) (fun b103 => ?_) (fun b103 => ?_)
      · skip
        refine AW.iconst 114 (nI 1) dX10_claim_113 (by decide) rfl ?_
        refine AW.goto 118 dX10_claim_114 (by decide) ?_
        refine AW.iret dX10_claim_118 .boolean rfl rfl rfl ⟨_, rfl, ?_⟩
        first
        | (exfalso; omega)
        | (have fin := h42 (by omega); exact fin)
        | (have fin := hl (by omega); rw [← z_bI_t (e0.mp b110)] at fin; exact fin)
        | (have fin := hl (by omega); rw [← z_bI_f (z_bnt (fun z => b110 (e0.mpr z)))] at fin; exact fin)
      · skip
        refine AW.iload_n 107 dX10_claim_106 rfl rfl ?_
        refine AW.iconst 108 (nI 1) dX10_claim_107 (by decide) rfl ?_
        refine AW.iand 109 dX10_claim_108 rfl ?_
        refine AW.iconst 110 (nI 1) dX10_claim_109 (by decide) rfl ?_
        refine AW.zicmp_ne 113 117 dX10_claim_110 (by decide) rfl rfl (by decide : (nI 1).toInt = 1) (fun b110 => ?_) (fun b110 => ?_)
        · skip
          refine AW.iconst 118 (nI 0) dX10_claim_117 (by decide) rfl ?_
          refine AW.iret dX10_claim_118 .boolean rfl rfl rfl ⟨_, rfl, ?_⟩
          first
          | (exfalso; omega)
          | (have fin := h42 (by omega); exact fin)
          | (have fin := hl (by omega); rw [← z_bI_t (e0.mp b110)] at fin; exact fin)
          | (have fin := hl (by omega); rw [← z_bI_f (z_bnt (fun z => b110 (e0.mpr z)))] at fin; exact fin)
        · skip
          refine AW.iconst 114 (nI 1) dX10_claim_113 (by decide) rfl ?_
          refine AW.goto 118 dX10_claim_114 (by decide) ?_
          refine AW.iret dX10_claim_118 .boolean rfl rfl rfl ⟨_, rfl, ?_⟩
          first
          | (exfalso; omega)
          | (have fin := h42 (by omega); exact fin)
          | (have fin := hl (by omega); rw [← z_bI_t (e0.mp b110)] at fin; exact fin)
          | (have fin := hl (by omega); rw [← z_bI_f (z_bnt (fun z => b110 (e0.mpr z)))] at fin; exact fin)
theorem C_X10_claim (hst : st < 4) (hx : x < 32) (ha : a < 4) (hT : g_tp M n tp) (hs : g_rd M s) (hs1 : s.1 = false) (hn : s.2 ≤ n) {Q : Int32 → zS → zM → Prop} (hQ : ∀ (M' : zM) (r : Bool), g_fr M M' → g_rd M' (pp_atom tp n du none s).1 → ((pp_atom tp n du none s).1.1 = false → r = (pp_atom tp n du none s).2 (4 * a + st) x) → Q (z_bI r) (ZS m0 m1 md) M') :
    AMet l g yX10_claim cX10_claim 7 (some .boolean) (d + 2) 0 0 [.ref 99, .int (nI (32 * st + x)), .int (nI a), .int (z_bI du)] (ZS m0 m1 md) M (z_Qi Q) := by
  obtain ⟨w, p⟩ := s
  cases hs1
  have hn : p ≤ n := hn
  have hn120 := hT.2.1.1
  have hsk := pp_sk_le (tp := tp) (n := n) (p := p) hn
  have hcu := pp_cu_le hT.2.1 p
  have py : ∀ c, pp_cu tp n p = c → pp_pass tp n c (false, p) = (true, (false, pp_sk tp n p + 1)) := fun c h => by unfold pp_pass; rw [if_neg Bool.false_ne_true, if_pos h]
  have pn : ∀ c, ¬ pp_cu tp n p = c → (pp_pass tp n c (false, p)).1 = false := fun c h => by unfold pp_pass; rw [if_neg Bool.false_ne_true, if_neg h]
  have cp := fun h => pp_cu_pos (tp := tp) (n := n) (p := p) h
  have i4 : (4 * a + st) % 4 = st ∧ (4 * a + st) / 4 = a := by omega
  have G : ∀ (v5 : Int32) M2, g_fr M M2 → g_rd M2 (false, pp_sk tp n p + 1) → (pp_cu tp n p = 102 ∨ pp_cu tp n p = 115 ∨ pp_cu tp n p = 108 ∨ pp_cu tp n p = 42 ∨ (pp_cu tp n p = 97 ∧ du = true)) → AW l g RX10 cX10_claim 7 (some .boolean) false (d + 2) 0 0 85 [some (.ref 99), some (.int (nI (32 * st + x))), some (.int (nI a)), some (.int (z_bI du)), some (.int (nI (pp_cu tp n p))), some (.int v5), none] [] (ZS m0 m1 md) M2 (z_Qi Q) := by
    intro v5 M2 f2 r2 hg
    have hp := cp (by omega)
    refine L_X10_claim85 hst hx ha (hT.of f2) r2 (by show pp_sk tp n p + 1 ≤ n; omega) hcu (fun h => ?_) (fun h => ?_) (fun h1 h2 M3 f3 r3 => ?_)
    · have e : pp_atom tp n du none (false, p) = ((false, pp_sk tp n p + 1), fun _ x => x.testBit 0) := by unfold pp_atom; simp only [pn 102 (by omega), pn 115 (by omega), py 108 h, Bool.false_eq_true, if_false, if_true]
      rw [e] at hQ
      exact hQ M2 _ f2 r2 (fun _ => rfl)
    · have e : pp_atom tp n du none (false, p) = ((false, pp_sk tp n p + 1), fun _ _ => true) := by unfold pp_atom; simp only [pn 102 (by omega), pn 115 (by omega), pn 108 (by omega), py 42 h, Bool.false_eq_true, if_false, if_true]
      rw [e] at hQ
      exact hQ M2 true f2 r2 (fun _ => rfl)
    · rcases hg with h | h | h | h | ⟨h, hd⟩
      · have e : pp_atom tp n du none (false, p) = ((pp_dig tp n (false, pp_sk tp n p + 1)).2, fun _ x => x.testBit ((pp_dig tp n (false, pp_sk tp n p + 1)).1 + 1)) := by unfold pp_atom; simp only [py 102 h, if_true]
        rw [e] at hQ
        rw [if_pos h]
        exact hQ M3 _ (f2.tr f3) r3 (fun _ => rfl)
      · have e : pp_atom tp n du none (false, p) = ((pp_dig tp n (false, pp_sk tp n p + 1)).2, fun i _ => decide (i % 4 = (pp_dig tp n (false, pp_sk tp n p + 1)).1)) := by unfold pp_atom; simp only [pn 102 (by omega), py 115 h, Bool.false_eq_true, if_false, if_true]
        rw [e] at hQ
        rw [if_neg (by omega), if_pos h]
        exact hQ M3 _ (f2.tr f3) r3 (fun _ => by show _ = decide ((4 * a + st) % 4 = _); rw [i4.1])
      · exact absurd h h1
      · exact absurd h h2
      · have e : pp_atom tp n du none (false, p) = ((pp_dig tp n (false, pp_sk tp n p + 1)).2, fun i _ => decide (i / 4 = (pp_dig tp n (false, pp_sk tp n p + 1)).1)) := by unfold pp_atom; simp only [pn 102 (by omega), pn 115 (by omega), pn 108 (by omega), pn 42 (by omega), py 97 h, hd, Bool.false_eq_true, if_false, if_true, and_self]
        rw [e] at hQ
        rw [if_neg (by omega), if_neg (by omega)]
        exact hQ M3 _ (f2.tr f3) r3 (fun _ => by show _ = decide ((4 * a + st) / 4 = _); rw [i4.2])
  have B : ∀ (v5 : Int32) M2, g_fr M M2 → g_rd M2 (true, pp_sk tp n p) → ¬ pp_cu tp n p = 102 → ¬ pp_cu tp n p = 115 → ¬ pp_cu tp n p = 108 → ¬ pp_cu tp n p = 42 → (¬ pp_cu tp n p = 97 ∨ du = false) → AW l g RX10 cX10_claim 7 (some .boolean) false (d + 2) 0 0 85 [some (.ref 99), some (.int (nI (32 * st + x))), some (.int (nI a)), some (.int (z_bI du)), some (.int (nI (pp_cu tp n p))), some (.int v5), none] [] (ZS m0 m1 md) M2 (z_Qi Q) := by
    intro v5 M2 f2 r2 k1 k2 k3 k4 k5
    have e : pp_atom tp n du none (false, p) = ((true, pp_sk tp n p), fun _ _ => false) := by
      have hnd : ¬ (du = true ∧ (pp_pass tp n 97 (false, p)).1 = true) := by
        rcases k5 with k5 | k5
        · rw [pn 97 k5]; exact fun z => Bool.false_ne_true z.2
        · rw [k5]; exact fun z => Bool.false_ne_true z.1
      unfold pp_atom
      simp only [pn 102 k1, pn 115 k2, pn 108 k3, pn 42 k4, if_neg hnd, Bool.false_eq_true, if_false]
      rfl
    rw [e] at hQ
    refine L_X10_claim85 hst hx ha (hT.of f2) r2 hsk.2 hcu (fun h => absurd h k3) (fun h => absurd h k4) (fun h1 h2 M3 f3 r3 => ?_)
    rw [pp_dig_f rfl] at r3
    exact hQ M3 _ (f2.tr f3) r3 (fun z => Bool.noConfusion (show true = false from z))
  refine AMet.of (ini := false) rfl (fun h => by first | rfl | cases h) (Nat.le_of_ble_eq_true rfl) ?_
  show AW l g RX10 cX10_claim 7 (some .boolean) false _ _ _ 0 [some (.ref 99), some (.int (nI (32 * st + x))), some (.int (nI a)), some (.int (z_bI du)), none, none, none] [] _ _ _
  refine AW.aload_n 1 dX10_claim_0 rfl rfl ?_
  refine AW.cVi0 4 dX10_claim_1 kX10_151 (zI rfl rfl) (Nat.le_of_ble_eq_true rfl) rfl (C_X10_next (p := p) hT hn hs.2 (fun M1 a1 a2 a3 => ?_))
  refine AW.ist4 6 dX10_claim_4 (by decide) rfl rfl ?_
  refine AW.iload 8 dX10_claim_6 rfl rfl ?_
  refine AW.bipush 10 (nI 102) dX10_claim_8 (by decide) rfl ?_
  refine AW.icmpN_eq 13 45 dX10_claim_10 (by decide) rfl (by omega) (by omega) (fun b10 => ?_) (fun b10 => ?_)
  · skip
    refine AW.iconst 46 (nI 1) dX10_claim_45 (by decide) rfl ?_
    refine AW.goto 50 dX10_claim_46 (by decide) ?_
    refine AW.ist5 52 dX10_claim_50 (by decide) rfl rfl ?_
    refine AW.aload_n 53 dX10_claim_52 rfl rfl ?_
    refine AW.iload 55 dX10_claim_53 rfl rfl ?_
    refine AW.if_ne 58 62 dX10_claim_55 (by decide) rfl (fun _ => ?_) (fun h => absurd h (by decide))
    refine AW.iconst 63 (nI 0) dX10_claim_62 (by decide) rfl ?_
    refine AW.putI 66 .boolean dX10_claim_63 pX10_147 rfl (zI rfl rfl) rfl rfl rfl ?_
    have fr := fun v => g_fr.st3 (M := M) ⟨a1, fun j h _ => a2 j h⟩ v
    refine AW.aload_n 67 dX10_claim_66 rfl rfl ?_
    refine AW.dup 68 dX10_claim_67 rfl rfl ?_
    refine AW.getI 71 dX10_claim_68 fX10_144 rfl (zI rfl rfl) rfl ?_
    refine AW.topi (nI (pp_sk tp n p)) (by rw [z_st_o (by decide)]; exact a3) ?_
    refine AW.iload 73 dX10_claim_71 rfl rfl ?_
    refine AW.if_eq 76 80 dX10_claim_73 (by decide) rfl (fun h => absurd h (by decide)) (fun _ => ?_)
    refine AW.iconst 77 (nI 1) dX10_claim_76 (by decide) rfl ?_
    refine AW.goto 81 dX10_claim_77 (by decide) ?_
    refine AW.iaddN 82 dX10_claim_81 rfl ?_
    refine AW.putI 85 .int dX10_claim_82 pX10_144 rfl (zI rfl rfl) rfl rfl rfl ?_
    first
    | exact G _ _ ((fr _).st2 _) ⟨by rw [z_st_o (by decide), z_st_v]; rfl, z_st_v _ _ _ _⟩ (by first | exact Or.inl b10 | exact Or.inr (Or.inl b17) | exact Or.inr (Or.inr (Or.inl b24)) | exact Or.inr (Or.inr (Or.inr (Or.inl b31))) | exact Or.inr (Or.inr (Or.inr (Or.inr ⟨b38, z_bt b42⟩))))
    | exact B _ _ ((fr _).st2 _) ⟨by rw [z_st_o (by decide), z_st_v]; rfl, z_st_v _ _ _ _⟩ b10 b17 b24 b31 (by first | exact Or.inl b38 | exact Or.inr (z_bf b42))
  · skip
    refine AW.iload 15 dX10_claim_13 rfl rfl ?_
    refine AW.bipush 17 (nI 115) dX10_claim_15 (by decide) rfl ?_
    refine AW.icmpN_eq 20 45 dX10_claim_17 (by decide) rfl (by omega) (by omega) (fun b17 => ?_) (fun b17 => ?_)
    · skip
      refine AW.iconst 46 (nI 1) dX10_claim_45 (by decide) rfl ?_
      refine AW.goto 50 dX10_claim_46 (by decide) ?_
      refine AW.ist5 52 dX10_claim_50 (by decide) rfl rfl ?_
      refine AW.aload_n 53 dX10_claim_52 rfl rfl ?_
      refine AW.iload 55 dX10_claim_53 rfl rfl ?_
      refine AW.if_ne 58 62 dX10_claim_55 (by decide) rfl (fun _ => ?_) (fun h => absurd h (by decide))
      refine AW.iconst 63 (nI 0) dX10_claim_62 (by decide) rfl ?_
      refine AW.putI 66 .boolean dX10_claim_63 pX10_147 rfl (zI rfl rfl) rfl rfl rfl ?_
      have fr := fun v => g_fr.st3 (M := M) ⟨a1, fun j h _ => a2 j h⟩ v
      refine AW.aload_n 67 dX10_claim_66 rfl rfl ?_
      refine AW.dup 68 dX10_claim_67 rfl rfl ?_
      refine AW.getI 71 dX10_claim_68 fX10_144 rfl (zI rfl rfl) rfl ?_
      refine AW.topi (nI (pp_sk tp n p)) (by rw [z_st_o (by decide)]; exact a3) ?_
      refine AW.iload 73 dX10_claim_71 rfl rfl ?_
      refine AW.if_eq 76 80 dX10_claim_73 (by decide) rfl (fun h => absurd h (by decide)) (fun _ => ?_)
      refine AW.iconst 77 (nI 1) dX10_claim_76 (by decide) rfl ?_
      refine AW.goto 81 dX10_claim_77 (by decide) ?_
      refine AW.iaddN 82 dX10_claim_81 rfl ?_
      refine AW.putI 85 .int dX10_claim_82 pX10_144 rfl (zI rfl rfl) rfl rfl rfl ?_
      first
      | exact G _ _ ((fr _).st2 _) ⟨by rw [z_st_o (by decide), z_st_v]; rfl, z_st_v _ _ _ _⟩ (by first | exact Or.inl b10 | exact Or.inr (Or.inl b17) | exact Or.inr (Or.inr (Or.inl b24)) | exact Or.inr (Or.inr (Or.inr (Or.inl b31))) | exact Or.inr (Or.inr (Or.inr (Or.inr ⟨b38, z_bt b42⟩))))
      | exact B _ _ ((fr _).st2 _) ⟨by rw [z_st_o (by decide), z_st_v]; rfl, z_st_v _ _ _ _⟩ b10 b17 b24 b31 (by first | exact Or.inl b38 | exact Or.inr (z_bf b42))
    · skip
      refine AW.iload 22 dX10_claim_20 rfl rfl ?_
      refine AW.bipush 24 (nI 108) dX10_claim_22 (by decide) rfl ?_
      refine AW.icmpN_eq 27 45 dX10_claim_24 (by decide) rfl (by omega) (by omega) (fun b24 => ?_) (fun b24 => ?_)
      · skip
        refine AW.iconst 46 (nI 1) dX10_claim_45 (by decide) rfl ?_
        refine AW.goto 50 dX10_claim_46 (by decide) ?_
        refine AW.ist5 52 dX10_claim_50 (by decide) rfl rfl ?_
        refine AW.aload_n 53 dX10_claim_52 rfl rfl ?_
        refine AW.iload 55 dX10_claim_53 rfl rfl ?_
        refine AW.if_ne 58 62 dX10_claim_55 (by decide) rfl (fun _ => ?_) (fun h => absurd h (by decide))
        refine AW.iconst 63 (nI 0) dX10_claim_62 (by decide) rfl ?_
        refine AW.putI 66 .boolean dX10_claim_63 pX10_147 rfl (zI rfl rfl) rfl rfl rfl ?_
        have fr := fun v => g_fr.st3 (M := M) ⟨a1, fun j h _ => a2 j h⟩ v
        refine AW.aload_n 67 dX10_claim_66 rfl rfl ?_
        refine AW.dup 68 dX10_claim_67 rfl rfl ?_
        refine AW.getI 71 dX10_claim_68 fX10_144 rfl (zI rfl rfl) rfl ?_
        refine AW.topi (nI (pp_sk tp n p)) (by rw [z_st_o (by decide)]; exact a3) ?_
        refine AW.iload 73 dX10_claim_71 rfl rfl ?_
        refine AW.if_eq 76 80 dX10_claim_73 (by decide) rfl (fun h => absurd h (by decide)) (fun _ => ?_)
        refine AW.iconst 77 (nI 1) dX10_claim_76 (by decide) rfl ?_
        refine AW.goto 81 dX10_claim_77 (by decide) ?_
        refine AW.iaddN 82 dX10_claim_81 rfl ?_
        refine AW.putI 85 .int dX10_claim_82 pX10_144 rfl (zI rfl rfl) rfl rfl rfl ?_
        first
        | exact G _ _ ((fr _).st2 _) ⟨by rw [z_st_o (by decide), z_st_v]; rfl, z_st_v _ _ _ _⟩ (by first | exact Or.inl b10 | exact Or.inr (Or.inl b17) | exact Or.inr (Or.inr (Or.inl b24)) | exact Or.inr (Or.inr (Or.inr (Or.inl b31))) | exact Or.inr (Or.inr (Or.inr (Or.inr ⟨b38, z_bt b42⟩))))
        | exact B _ _ ((fr _).st2 _) ⟨by rw [z_st_o (by decide), z_st_v]; rfl, z_st_v _ _ _ _⟩ b10 b17 b24 b31 (by first | exact Or.inl b38 | exact Or.inr (z_bf b42))
      · skip
        refine AW.iload 29 dX10_claim_27 rfl rfl ?_
        refine AW.bipush 31 (nI 42) dX10_claim_29 (by decide) rfl ?_
        refine AW.icmpN_eq 34 45 dX10_claim_31 (by decide) rfl (by omega) (by omega) (fun b31 => ?_) (fun b31 => ?_)
        · skip
          refine AW.iconst 46 (nI 1) dX10_claim_45 (by decide) rfl ?_
          refine AW.goto 50 dX10_claim_46 (by decide) ?_
          refine AW.ist5 52 dX10_claim_50 (by decide) rfl rfl ?_
          refine AW.aload_n 53 dX10_claim_52 rfl rfl ?_
          refine AW.iload 55 dX10_claim_53 rfl rfl ?_
          refine AW.if_ne 58 62 dX10_claim_55 (by decide) rfl (fun _ => ?_) (fun h => absurd h (by decide))
          refine AW.iconst 63 (nI 0) dX10_claim_62 (by decide) rfl ?_
          refine AW.putI 66 .boolean dX10_claim_63 pX10_147 rfl (zI rfl rfl) rfl rfl rfl ?_
          have fr := fun v => g_fr.st3 (M := M) ⟨a1, fun j h _ => a2 j h⟩ v
          refine AW.aload_n 67 dX10_claim_66 rfl rfl ?_
          refine AW.dup 68 dX10_claim_67 rfl rfl ?_
          refine AW.getI 71 dX10_claim_68 fX10_144 rfl (zI rfl rfl) rfl ?_
          refine AW.topi (nI (pp_sk tp n p)) (by rw [z_st_o (by decide)]; exact a3) ?_
          refine AW.iload 73 dX10_claim_71 rfl rfl ?_
          refine AW.if_eq 76 80 dX10_claim_73 (by decide) rfl (fun h => absurd h (by decide)) (fun _ => ?_)
          refine AW.iconst 77 (nI 1) dX10_claim_76 (by decide) rfl ?_
          refine AW.goto 81 dX10_claim_77 (by decide) ?_
          refine AW.iaddN 82 dX10_claim_81 rfl ?_
          refine AW.putI 85 .int dX10_claim_82 pX10_144 rfl (zI rfl rfl) rfl rfl rfl ?_
          first
          | exact G _ _ ((fr _).st2 _) ⟨by rw [z_st_o (by decide), z_st_v]; rfl, z_st_v _ _ _ _⟩ (by first | exact Or.inl b10 | exact Or.inr (Or.inl b17) | exact Or.inr (Or.inr (Or.inl b24)) | exact Or.inr (Or.inr (Or.inr (Or.inl b31))) | exact Or.inr (Or.inr (Or.inr (Or.inr ⟨b38, z_bt b42⟩))))
          | exact B _ _ ((fr _).st2 _) ⟨by rw [z_st_o (by decide), z_st_v]; rfl, z_st_v _ _ _ _⟩ b10 b17 b24 b31 (by first | exact Or.inl b38 | exact Or.inr (z_bf b42))
        · skip
          refine AW.iload 36 dX10_claim_34 rfl rfl ?_
          refine AW.bipush 38 (nI 97) dX10_claim_36 (by decide) rfl ?_
          refine AW.icmpN_ne 41 49 dX10_claim_38 (by decide) rfl (by omega) (by omega) (fun b38 => ?_) (fun b38 => ?_)
          · skip
            refine AW.iconst 50 (nI 0) dX10_claim_49 (by decide) rfl ?_
            refine AW.ist5 52 dX10_claim_50 (by decide) rfl rfl ?_
            refine AW.aload_n 53 dX10_claim_52 rfl rfl ?_
            refine AW.iload 55 dX10_claim_53 rfl rfl ?_
            refine AW.if_ne 58 62 dX10_claim_55 (by decide) rfl (fun h => absurd h (by decide)) (fun _ => ?_)
            refine AW.iconst 59 (nI 1) dX10_claim_58 (by decide) rfl ?_
            refine AW.goto 63 dX10_claim_59 (by decide) ?_
            refine AW.putI 66 .boolean dX10_claim_63 pX10_147 rfl (zI rfl rfl) rfl rfl rfl ?_
            have fr := fun v => g_fr.st3 (M := M) ⟨a1, fun j h _ => a2 j h⟩ v
            refine AW.aload_n 67 dX10_claim_66 rfl rfl ?_
            refine AW.dup 68 dX10_claim_67 rfl rfl ?_
            refine AW.getI 71 dX10_claim_68 fX10_144 rfl (zI rfl rfl) rfl ?_
            refine AW.topi (nI (pp_sk tp n p)) (by rw [z_st_o (by decide)]; exact a3) ?_
            refine AW.iload 73 dX10_claim_71 rfl rfl ?_
            refine AW.if_eq 76 80 dX10_claim_73 (by decide) rfl (fun _ => ?_) (fun h => absurd h (by decide))
            refine AW.iconst 81 (nI 0) dX10_claim_80 (by decide) rfl ?_
            refine AW.iaddN 82 dX10_claim_81 rfl ?_
            refine AW.putI 85 .int dX10_claim_82 pX10_144 rfl (zI rfl rfl) rfl rfl rfl ?_
            first
            | exact G _ _ ((fr _).st2 _) ⟨by rw [z_st_o (by decide), z_st_v]; rfl, z_st_v _ _ _ _⟩ (by first | exact Or.inl b10 | exact Or.inr (Or.inl b17) | exact Or.inr (Or.inr (Or.inl b24)) | exact Or.inr (Or.inr (Or.inr (Or.inl b31))) | exact Or.inr (Or.inr (Or.inr (Or.inr ⟨b38, z_bt b42⟩))))
            | exact B _ _ ((fr _).st2 _) ⟨by rw [z_st_o (by decide), z_st_v]; rfl, z_st_v _ _ _ _⟩ b10 b17 b24 b31 (by first | exact Or.inl b38 | exact Or.inr (z_bf b42))
          · skip
            refine AW.iload_n 42 dX10_claim_41 rfl rfl ?_
            refine AW.zif_eq 45 49 dX10_claim_42 (by decide) rfl rfl (fun b42 => ?_) (fun b42 => ?_)
            · skip
              refine AW.iconst 50 (nI 0) dX10_claim_49 (by decide) rfl ?_
              refine AW.ist5 52 dX10_claim_50 (by decide) rfl rfl ?_
              refine AW.aload_n 53 dX10_claim_52 rfl rfl ?_
              refine AW.iload 55 dX10_claim_53 rfl rfl ?_
              refine AW.if_ne 58 62 dX10_claim_55 (by decide) rfl (fun h => absurd h (by decide)) (fun _ => ?_)
              refine AW.iconst 59 (nI 1) dX10_claim_58 (by decide) rfl ?_
              refine AW.goto 63 dX10_claim_59 (by decide) ?_
              refine AW.putI 66 .boolean dX10_claim_63 pX10_147 rfl (zI rfl rfl) rfl rfl rfl ?_
              have fr := fun v => g_fr.st3 (M := M) ⟨a1, fun j h _ => a2 j h⟩ v
              refine AW.aload_n 67 dX10_claim_66 rfl rfl ?_
              refine AW.dup 68 dX10_claim_67 rfl rfl ?_
              refine AW.getI 71 dX10_claim_68 fX10_144 rfl (zI rfl rfl) rfl ?_
              refine AW.topi (nI (pp_sk tp n p)) (by rw [z_st_o (by decide)]; exact a3) ?_
              refine AW.iload 73 dX10_claim_71 rfl rfl ?_
              refine AW.if_eq 76 80 dX10_claim_73 (by decide) rfl (fun _ => ?_) (fun h => absurd h (by decide))
              refine AW.iconst 81 (nI 0) dX10_claim_80 (by decide) rfl ?_
              refine AW.iaddN 82 dX10_claim_81 rfl ?_
              refine AW.putI 85 .int dX10_claim_82 pX10_144 rfl (zI rfl rfl) rfl rfl rfl ?_
              first
              | exact G _ _ ((fr _).st2 _) ⟨by rw [z_st_o (by decide), z_st_v]; rfl, z_st_v _ _ _ _⟩ (by first | exact Or.inl b10 | exact Or.inr (Or.inl b17) | exact Or.inr (Or.inr (Or.inl b24)) | exact Or.inr (Or.inr (Or.inr (Or.inl b31))) | exact Or.inr (Or.inr (Or.inr (Or.inr ⟨b38, z_bt b42⟩))))
              | exact B _ _ ((fr _).st2 _) ⟨by rw [z_st_o (by decide), z_st_v]; rfl, z_st_v _ _ _ _⟩ b10 b17 b24 b31 (by first | exact Or.inl b38 | exact Or.inr (z_bf b42))
            · skip
              refine AW.iconst 46 (nI 1) dX10_claim_45 (by decide) rfl ?_
              refine AW.goto 50 dX10_claim_46 (by decide) ?_
              refine AW.ist5 52 dX10_claim_50 (by decide) rfl rfl ?_
              refine AW.aload_n 53 dX10_claim_52 rfl rfl ?_
              refine AW.iload 55 dX10_claim_53 rfl rfl ?_
              refine AW.if_ne 58 62 dX10_claim_55 (by decide) rfl (fun _ => ?_) (fun h => absurd h (by decide))
              refine AW.iconst 63 (nI 0) dX10_claim_62 (by decide) rfl ?_
              refine AW.putI 66 .boolean dX10_claim_63 pX10_147 rfl (zI rfl rfl) rfl rfl rfl ?_
              have fr := fun v => g_fr.st3 (M := M) ⟨a1, fun j h _ => a2 j h⟩ v
              refine AW.aload_n 67 dX10_claim_66 rfl rfl ?_
              refine AW.dup 68 dX10_claim_67 rfl rfl ?_
              refine AW.getI 71 dX10_claim_68 fX10_144 rfl (zI rfl rfl) rfl ?_
              refine AW.topi (nI (pp_sk tp n p)) (by rw [z_st_o (by decide)]; exact a3) ?_
              refine AW.iload 73 dX10_claim_71 rfl rfl ?_
              refine AW.if_eq 76 80 dX10_claim_73 (by decide) rfl (fun h => absurd h (by decide)) (fun _ => ?_)
              refine AW.iconst 77 (nI 1) dX10_claim_76 (by decide) rfl ?_
              refine AW.goto 81 dX10_claim_77 (by decide) ?_
              refine AW.iaddN 82 dX10_claim_81 rfl ?_
              refine AW.putI 85 .int dX10_claim_82 pX10_144 rfl (zI rfl rfl) rfl rfl rfl ?_
              first
              | exact G _ _ ((fr _).st2 _) ⟨by rw [z_st_o (by decide), z_st_v]; rfl, z_st_v _ _ _ _⟩ (by first | exact Or.inl b10 | exact Or.inr (Or.inl b17) | exact Or.inr (Or.inr (Or.inl b24)) | exact Or.inr (Or.inr (Or.inr (Or.inl b31))) | exact Or.inr (Or.inr (Or.inr (Or.inr ⟨b38, z_bt b42⟩))))
              | exact B _ _ ((fr _).st2 _) ⟨by rw [z_st_o (by decide), z_st_v]; rfl, z_st_v _ _ _ _⟩ b10 b17 b24 b31 (by first | exact Or.inl b38 | exact Or.inr (z_bf b42))
end MCLAIM
