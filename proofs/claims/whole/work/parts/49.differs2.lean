def z_dfP (T : Nat) (kd tk nb R A : Nat → Nat) (i : Nat) : Bool := decide (tk i < T ∧ ((kd i = 1 ∧ ¬ nb i = R (tk i)) ∨ (kd i = 2 ∧ ¬ nb i = A (tk i))))
def f_bk (M : zM) (L : Nat) (kd tk nb : Nat → Nat) : Prop := M 70 1 = nI L ∧ L ≤ 48 ∧ ∀ i, i < L → M 72 i = nI (kd i) ∧ M 73 i = nI (tk i) ∧ M 74 i = nI (nb i) ∧ kd i < 6 ∧ tk i < 12 ∧ nb i ≤ z_nm (kd i)
def z_oc (n : Nat) (H : Nat → Nat → Nat → Bool) (N : Nat → Int32) (sg lt : Nat → Nat) (pr : Nat → Bool) (t : Nat) : Nat := z_ch n H pr (z_ps n H N pr (fun t => 2 * sg t + lt t) t) (2 * sg t + lt t)
theorem z_nm_le (k : Nat) : z_nm k ≤ 99 := by unfold z_nm; split <;> omega
section DIFFERS2
variable {l : Launch} {g : zG} {d m0 m1 md : Nat} {M : zM} {L T n : Nat} {H : Nat → Nat → Nat → Bool} {A : Nat → Nat} {N : Nat → Int32} {sg lt kd tk nb R Ac : Nat → Nat}
theorem L_X10_differs2 (hT : M 99 16 = nI T) (hT2 : T ≤ 12) (hB : g_bk M L kd tk nb) (hR : ∀ t, t < T → M 119 t = nI (R t) ∧ M 120 t = nI (Ac t) ∧ R t ≤ 8 ∧ Ac t < 4) {Q : Int32 → zS → zM → Prop} :
    ∀ (q i : Nat) (v2 v3 : Option Value), i + q = L → Q (z_fnd (z_dfP T kd tk nb R Ac) i q) (ZS m0 m1 md) M → AW l g RX10 cX10_differs 4 (some .int) false d 0 0 85 [some (.ref 99), some (.int (nI i)), v2, v3] [] (ZS m0 m1 md) M (z_Qi Q) := by
  obtain ⟨b1, b2, b3⟩ := hB
  intro q
  induction q with
  | zero =>
    intro i v2 v3 hi hQ
    refine AW.iload_n 86 dX10_differs_85 rfl rfl ?_
    refine AW.aload_n 87 dX10_differs_86 rfl rfl ?_
    refine AW.getI 90 dX10_differs_87 fX10_209 rfl (zI rfl rfl) rfl ?_
    refine AW.topi (nI L) b1 ?_
    refine AW.icmpN_ge 93 184 dX10_differs_90 (by decide) rfl (by omega) (by omega) (fun b90 => ?_) (fun b90 => absurd b90 (by omega))
    refine AW.bipush 186 (-4) dX10_differs_184 (by decide) rfl ?_
    refine AW.iret dX10_differs_186 .int rfl rfl rfl ⟨_, rfl, ?_⟩
    exact hQ
  | succ q ih =>
    intro i v2 v3 hi hQ
    obtain ⟨k1, k2, k3, k4, k5, k6⟩ := b3 i (by omega)
    have k7 := z_nm_le (kd i)
    unfold z_fnd z_dfP at hQ
    refine AW.iload_n 86 dX10_differs_85 rfl rfl ?_
    refine AW.aload_n 87 dX10_differs_86 rfl rfl ?_
    refine AW.getI 90 dX10_differs_87 fX10_209 rfl (zI rfl rfl) rfl ?_
    refine AW.topi (nI L) b1 ?_
    refine AW.icmpN_ge 93 184 dX10_differs_90 (by decide) rfl (by omega) (by omega) (fun b90 => absurd b90 (by omega)) (fun b90 => ?_)
    refine AW.aload_n 94 dX10_differs_93 rfl rfl ?_
    refine AW.getR 97 dX10_differs_94 fX10_81 rfl (zI rfl rfl) rfl rfl ?_
    refine AW.iload_n 98 dX10_differs_97 rfl rfl ?_
    refine AW.iald 99 dX10_differs_98 (zA rfl rfl) rfl (by omega) (by decide) rfl ?_
    refine AW.topi (nI (tk i)) k2 ?_
    refine AW.istn2 100 dX10_differs_99 (by decide) rfl rfl ?_
    refine AW.aload_n 101 dX10_differs_100 rfl rfl ?_
    refine AW.getR 104 dX10_differs_101 fX10_78 rfl (zI rfl rfl) rfl rfl ?_
    refine AW.iload_n 105 dX10_differs_104 rfl rfl ?_
    refine AW.iald 106 dX10_differs_105 (zA rfl rfl) rfl (by omega) (by decide) rfl ?_
    refine AW.topi (nI (kd i)) k1 ?_
    refine AW.iconst 107 (nI 1) dX10_differs_106 (by decide) rfl ?_
    refine AW.icmpN_ne 110 137 dX10_differs_107 (by decide) rfl (by omega) (by omega) (fun b107 => ?_) (fun b107 => ?_)
    · skip
      refine AW.iconst 138 (nI 0) dX10_differs_137 (by decide) rfl ?_
      refine AW.istn3 139 dX10_differs_138 (by decide) rfl rfl ?_
      refine AW.iload_n 140 dX10_differs_139 rfl rfl ?_
      refine AW.if_ne 143 176 dX10_differs_140 (by decide) rfl (fun h => absurd h (by decide)) (fun _ => ?_)
      refine AW.aload_n 144 dX10_differs_143 rfl rfl ?_
      refine AW.getR 147 dX10_differs_144 fX10_78 rfl (zI rfl rfl) rfl rfl ?_
      refine AW.iload_n 148 dX10_differs_147 rfl rfl ?_
      refine AW.iald 149 dX10_differs_148 (zA rfl rfl) rfl (by omega) (by decide) rfl ?_
      refine AW.topi (nI (kd i)) k1 ?_
      refine AW.iconst 150 (nI 2) dX10_differs_149 (by decide) rfl ?_
      refine AW.icmpN_ne 153 178 dX10_differs_150 (by decide) rfl (by omega) (by omega) (fun b150 => ?_) (fun b150 => ?_)
      · skip
        refine AW.iinc1 181 _ dX10_differs_178 (z_inc1 _) (by decide) rfl rfl ?_
        refine AW.goto 85 dX10_differs_181 (by decide) ?_
        rw [if_neg (by intro z; have z2 := of_decide_eq_true z; omega)] at hQ
        exact ih (i + 1) _ _ (by omega) hQ
      · skip
        refine AW.iload_n 154 dX10_differs_153 rfl rfl ?_
        refine AW.aload_n 155 dX10_differs_154 rfl rfl ?_
        refine AW.getI 158 dX10_differs_155 fX10_50 rfl (zI rfl rfl) rfl ?_
        refine AW.topi (nI T) hT ?_
        refine AW.icmpN_ge 161 178 dX10_differs_158 (by decide) rfl (by omega) (by omega) (fun b158 => ?_) (fun b158 => ?_)
        · skip
          refine AW.iinc1 181 _ dX10_differs_178 (z_inc1 _) (by decide) rfl rfl ?_
          refine AW.goto 85 dX10_differs_181 (by decide) ?_
          rw [if_neg (by intro z; have z2 := of_decide_eq_true z; omega)] at hQ
          exact ih (i + 1) _ _ (by omega) hQ
        · skip
          refine AW.aload_n 162 dX10_differs_161 rfl rfl ?_
          refine AW.getR 165 dX10_differs_162 fX10_84 rfl (zI rfl rfl) rfl rfl ?_
          refine AW.iload_n 166 dX10_differs_165 rfl rfl ?_
          refine AW.iald 167 dX10_differs_166 (zA rfl rfl) rfl (by omega) (by decide) rfl ?_
          refine AW.topi (nI (nb i)) k3 ?_
          have r3 := (hR (tk i) (by omega)).2.2
          refine AW.aload_n 168 dX10_differs_167 rfl rfl ?_
          refine AW.getR 171 dX10_differs_168 fX10_75 rfl (zI rfl rfl) rfl rfl ?_
          refine AW.iload_n 172 dX10_differs_171 rfl rfl ?_
          refine AW.iald 173 dX10_differs_172 (zA rfl rfl) rfl (by omega) (by decide) rfl ?_
          refine AW.topi (nI (Ac (tk i))) (hR (tk i) (by omega)).2.1 ?_
          refine AW.icmpN_eq 176 178 dX10_differs_173 (by decide) rfl (by omega) (by omega) (fun b173 => ?_) (fun b173 => ?_)
          · skip
            refine AW.iinc1 181 _ dX10_differs_178 (z_inc1 _) (by decide) rfl rfl ?_
            refine AW.goto 85 dX10_differs_181 (by decide) ?_
            rw [if_neg (by intro z; have z2 := of_decide_eq_true z; omega)] at hQ
            exact ih (i + 1) _ _ (by omega) hQ
          · skip
            refine AW.iload_n 177 dX10_differs_176 rfl rfl ?_
            refine AW.iret dX10_differs_177 .int rfl rfl rfl ⟨_, rfl, ?_⟩
            rw [if_pos (by apply decide_eq_true; omega)] at hQ
            exact hQ
    · skip
      refine AW.iload_n 111 dX10_differs_110 rfl rfl ?_
      refine AW.aload_n 112 dX10_differs_111 rfl rfl ?_
      refine AW.getI 115 dX10_differs_112 fX10_50 rfl (zI rfl rfl) rfl ?_
      refine AW.topi (nI T) hT ?_
      refine AW.icmpN_ge 118 137 dX10_differs_115 (by decide) rfl (by omega) (by omega) (fun b115 => ?_) (fun b115 => ?_)
      · skip
        refine AW.iconst 138 (nI 0) dX10_differs_137 (by decide) rfl ?_
        refine AW.istn3 139 dX10_differs_138 (by decide) rfl rfl ?_
        refine AW.iload_n 140 dX10_differs_139 rfl rfl ?_
        refine AW.if_ne 143 176 dX10_differs_140 (by decide) rfl (fun h => absurd h (by decide)) (fun _ => ?_)
        refine AW.aload_n 144 dX10_differs_143 rfl rfl ?_
        refine AW.getR 147 dX10_differs_144 fX10_78 rfl (zI rfl rfl) rfl rfl ?_
        refine AW.iload_n 148 dX10_differs_147 rfl rfl ?_
        refine AW.iald 149 dX10_differs_148 (zA rfl rfl) rfl (by omega) (by decide) rfl ?_
        refine AW.topi (nI (kd i)) k1 ?_
        refine AW.iconst 150 (nI 2) dX10_differs_149 (by decide) rfl ?_
        refine AW.icmpN_ne 153 178 dX10_differs_150 (by decide) rfl (by omega) (by omega) (fun b150 => ?_) (fun b150 => ?_)
        · skip
          refine AW.iinc1 181 _ dX10_differs_178 (z_inc1 _) (by decide) rfl rfl ?_
          refine AW.goto 85 dX10_differs_181 (by decide) ?_
          rw [if_neg (by intro z; have z2 := of_decide_eq_true z; omega)] at hQ
          exact ih (i + 1) _ _ (by omega) hQ
        · skip
          refine AW.iload_n 154 dX10_differs_153 rfl rfl ?_
          refine AW.aload_n 155 dX10_differs_154 rfl rfl ?_
          refine AW.getI 158 dX10_differs_155 fX10_50 rfl (zI rfl rfl) rfl ?_
          refine AW.topi (nI T) hT ?_
          refine AW.icmpN_ge 161 178 dX10_differs_158 (by decide) rfl (by omega) (by omega) (fun b158 => ?_) (fun b158 => ?_)
          · skip
            refine AW.iinc1 181 _ dX10_differs_178 (z_inc1 _) (by decide) rfl rfl ?_
            refine AW.goto 85 dX10_differs_181 (by decide) ?_
            rw [if_neg (by intro z; have z2 := of_decide_eq_true z; omega)] at hQ
            exact ih (i + 1) _ _ (by omega) hQ
          · skip
            refine AW.aload_n 162 dX10_differs_161 rfl rfl ?_
            refine AW.getR 165 dX10_differs_162 fX10_84 rfl (zI rfl rfl) rfl rfl ?_
            refine AW.iload_n 166 dX10_differs_165 rfl rfl ?_
            refine AW.iald 167 dX10_differs_166 (zA rfl rfl) rfl (by omega) (by decide) rfl ?_
            refine AW.topi (nI (nb i)) k3 ?_
            have r3 := (hR (tk i) (by omega)).2.2
            refine AW.aload_n 168 dX10_differs_167 rfl rfl ?_
            refine AW.getR 171 dX10_differs_168 fX10_75 rfl (zI rfl rfl) rfl rfl ?_
            refine AW.iload_n 172 dX10_differs_171 rfl rfl ?_
            refine AW.iald 173 dX10_differs_172 (zA rfl rfl) rfl (by omega) (by decide) rfl ?_
            refine AW.topi (nI (Ac (tk i))) (hR (tk i) (by omega)).2.1 ?_
            refine AW.icmpN_eq 176 178 dX10_differs_173 (by decide) rfl (by omega) (by omega) (fun b173 => ?_) (fun b173 => ?_)
            · skip
              refine AW.iinc1 181 _ dX10_differs_178 (z_inc1 _) (by decide) rfl rfl ?_
              refine AW.goto 85 dX10_differs_181 (by decide) ?_
              rw [if_neg (by intro z; have z2 := of_decide_eq_true z; omega)] at hQ
              exact ih (i + 1) _ _ (by omega) hQ
            · skip
              refine AW.iload_n 177 dX10_differs_176 rfl rfl ?_
              refine AW.iret dX10_differs_177 .int rfl rfl rfl ⟨_, rfl, ?_⟩
              rw [if_pos (by apply decide_eq_true; omega)] at hQ
              exact hQ
      · skip
        refine AW.aload_n 119 dX10_differs_118 rfl rfl ?_
        refine AW.getR 122 dX10_differs_119 fX10_84 rfl (zI rfl rfl) rfl rfl ?_
        refine AW.iload_n 123 dX10_differs_122 rfl rfl ?_
        refine AW.iald 124 dX10_differs_123 (zA rfl rfl) rfl (by omega) (by decide) rfl ?_
        refine AW.topi (nI (nb i)) k3 ?_
        have r3 := (hR (tk i) (by omega)).2.2
        refine AW.aload_n 125 dX10_differs_124 rfl rfl ?_
        refine AW.getR 128 dX10_differs_125 fX10_72 rfl (zI rfl rfl) rfl rfl ?_
        refine AW.iload_n 129 dX10_differs_128 rfl rfl ?_
        refine AW.iald 130 dX10_differs_129 (zA rfl rfl) rfl (by omega) (by decide) rfl ?_
        refine AW.topi (nI (R (tk i))) (hR (tk i) (by omega)).1 ?_
        refine AW.icmpN_eq 133 137 dX10_differs_130 (by decide) rfl (by omega) (by omega) (fun b130 => ?_) (fun b130 => ?_)
        · skip
          refine AW.iconst 138 (nI 0) dX10_differs_137 (by decide) rfl ?_
          refine AW.istn3 139 dX10_differs_138 (by decide) rfl rfl ?_
          refine AW.iload_n 140 dX10_differs_139 rfl rfl ?_
          refine AW.if_ne 143 176 dX10_differs_140 (by decide) rfl (fun h => absurd h (by decide)) (fun _ => ?_)
          refine AW.aload_n 144 dX10_differs_143 rfl rfl ?_
          refine AW.getR 147 dX10_differs_144 fX10_78 rfl (zI rfl rfl) rfl rfl ?_
          refine AW.iload_n 148 dX10_differs_147 rfl rfl ?_
          refine AW.iald 149 dX10_differs_148 (zA rfl rfl) rfl (by omega) (by decide) rfl ?_
          refine AW.topi (nI (kd i)) k1 ?_
          refine AW.iconst 150 (nI 2) dX10_differs_149 (by decide) rfl ?_
          refine AW.icmpN_ne 153 178 dX10_differs_150 (by decide) rfl (by omega) (by omega) (fun b150 => ?_) (fun b150 => ?_)
          · skip
            refine AW.iinc1 181 _ dX10_differs_178 (z_inc1 _) (by decide) rfl rfl ?_
            refine AW.goto 85 dX10_differs_181 (by decide) ?_
            rw [if_neg (by intro z; have z2 := of_decide_eq_true z; omega)] at hQ
            exact ih (i + 1) _ _ (by omega) hQ
          · skip
            refine AW.iload_n 154 dX10_differs_153 rfl rfl ?_
            refine AW.aload_n 155 dX10_differs_154 rfl rfl ?_
            refine AW.getI 158 dX10_differs_155 fX10_50 rfl (zI rfl rfl) rfl ?_
            refine AW.topi (nI T) hT ?_
            refine AW.icmpN_ge 161 178 dX10_differs_158 (by decide) rfl (by omega) (by omega) (fun b158 => ?_) (fun b158 => ?_)
            · skip
              refine AW.iinc1 181 _ dX10_differs_178 (z_inc1 _) (by decide) rfl rfl ?_
              refine AW.goto 85 dX10_differs_181 (by decide) ?_
              rw [if_neg (by intro z; have z2 := of_decide_eq_true z; omega)] at hQ
              exact ih (i + 1) _ _ (by omega) hQ
            · skip
              refine AW.aload_n 162 dX10_differs_161 rfl rfl ?_
              refine AW.getR 165 dX10_differs_162 fX10_84 rfl (zI rfl rfl) rfl rfl ?_
              refine AW.iload_n 166 dX10_differs_165 rfl rfl ?_
              refine AW.iald 167 dX10_differs_166 (zA rfl rfl) rfl (by omega) (by decide) rfl ?_
              refine AW.topi (nI (nb i)) k3 ?_
              have r3 := (hR (tk i) (by omega)).2.2
              refine AW.aload_n 168 dX10_differs_167 rfl rfl ?_
              refine AW.getR 171 dX10_differs_168 fX10_75 rfl (zI rfl rfl) rfl rfl ?_
              refine AW.iload_n 172 dX10_differs_171 rfl rfl ?_
              refine AW.iald 173 dX10_differs_172 (zA rfl rfl) rfl (by omega) (by decide) rfl ?_
              refine AW.topi (nI (Ac (tk i))) (hR (tk i) (by omega)).2.1 ?_
              refine AW.icmpN_eq 176 178 dX10_differs_173 (by decide) rfl (by omega) (by omega) (fun b173 => ?_) (fun b173 => ?_)
              · skip
                refine AW.iinc1 181 _ dX10_differs_178 (z_inc1 _) (by decide) rfl rfl ?_
                refine AW.goto 85 dX10_differs_181 (by decide) ?_
                rw [if_neg (by intro z; have z2 := of_decide_eq_true z; omega)] at hQ
                exact ih (i + 1) _ _ (by omega) hQ
              · skip
                refine AW.iload_n 177 dX10_differs_176 rfl rfl ?_
                refine AW.iret dX10_differs_177 .int rfl rfl rfl ⟨_, rfl, ?_⟩
                rw [if_pos (by apply decide_eq_true; omega)] at hQ
                exact hQ
        · skip
          refine AW.iconst 134 (nI 1) dX10_differs_133 (by decide) rfl ?_
          refine AW.goto 138 dX10_differs_134 (by decide) ?_
          refine AW.istn3 139 dX10_differs_138 (by decide) rfl rfl ?_
          refine AW.iload_n 140 dX10_differs_139 rfl rfl ?_
          refine AW.if_ne 143 176 dX10_differs_140 (by decide) rfl (fun _ => ?_) (fun h => absurd h (by decide))
          refine AW.iload_n 177 dX10_differs_176 rfl rfl ?_
          refine AW.iret dX10_differs_177 .int rfl rfl rfl ⟨_, rfl, ?_⟩
          rw [if_pos (by apply decide_eq_true; omega)] at hQ
          exact hQ
theorem C_X10_differs (hT : M 99 16 = nI T) (hT2 : T ≤ 12) (hG : g_mach M 0 n H A N) (hB : g_bk M L kd tk nb) (hW : ∀ t, t < 12 → M 113 t = nI (sg t) ∧ M 114 t = nI (lt t) ∧ sg t < 16 ∧ lt t < 2) {Q : Int32 → zS → zM → Prop}
    (hgo : ∀ M', (∀ c, c ≠ 116 → c ≠ 117 → c ≠ 118 → c ≠ 119 → c ≠ 120 → M' c = M c) → Q (z_fnd (z_dfP T kd tk nb (z_oc n H N (z_see kd tk nb 0 L sg) (z_see kd tk nb 3 L lt) (fun _ => true)) (z_oa n H A N (z_see kd tk nb 0 L sg) (z_see kd tk nb 3 L lt) (fun _ => true))) 0 L) (ZS m0 m1 md) M') : AMet l g yX10_differs cX10_differs 4 (some .int) (d + 2) 0 0 [.ref 99] (ZS m0 m1 md) M (z_Qi Q) := by
  have hb48 := hB.2.1
  have h8 := hG.2.1
  refine AMet.of (ini := false) rfl (fun h => by first | rfl | cases h) (Nat.le_of_ble_eq_true rfl) ?_
  show AW l g RX10 cX10_differs 4 (some .int) false _ _ _ 0 [some (.ref 99), none, none, none] [] _ _ _
  refine AW.aload_n 1 dX10_differs_0 rfl rfl ?_
  refine AW.cVv0 4 dX10_differs_1 kX10_200 (zI rfl rfl) (Nat.le_of_ble_eq_true rfl) rfl (C_X10_lays (fun M1 h1 h2 => ?_))
  have fB : ∀ M9 : zM, (∀ c, c ≠ 116 → c ≠ 117 → c ≠ 118 → c ≠ 119 → c ≠ 120 → M9 c = M c) → g_bk M9 L kd tk nb := fun M9 f9 => by unfold g_bk; rw [f9 99 (by decide) (by decide) (by decide) (by decide) (by decide), f9 121 (by decide) (by decide) (by decide) (by decide) (by decide), f9 122 (by decide) (by decide) (by decide) (by decide) (by decide), f9 123 (by decide) (by decide) (by decide) (by decide) (by decide)]; exact hB
  have hB1 := fB M1 (fun c c1 c2 _ _ _ => h1 c c1 c2)
  refine AW.aload_n 5 dX10_differs_4 rfl rfl ?_
  refine AW.getI 8 dX10_differs_5 fX10_209 rfl (zI rfl rfl) rfl ?_
  refine AW.topi (nI L) hB1.1 ?_
  refine AW.iconst 9 (nI 1) dX10_differs_8 (by decide) rfl ?_
  refine AW.isub 10 dX10_differs_9 rfl ?_
  refine AW.topi (z_pm L) (z_pm_sub (by omega)) ?_
  refine AW.istn1 11 dX10_differs_10 (by decide) rfl rfl ?_
  refine L_X10_differs1 (M := M1) hB1 (S := z_see kd tk nb 0 L sg) (U := z_see kd tk nb 3 L lt) (fun M2 k1 k2 => ?_) L (Nat.le_refl _) M1 sg lt (fun _ _ _ => rfl) (fun t ht => ⟨by rw [(h2 t ht).1]; exact (hW t ht).1, by rw [(h2 t ht).2]; exact (hW t ht).2.1, (hW t ht).2.2⟩) rfl rfl
  have q0 : M2 99 16 = nI T := by rw [k1 99 (by decide) (by decide), h1 99 (by decide) (by decide)]; exact hT
  have hG2 := g_mach_frame (M' := M2) (fun c c1 c2 => by rw [k1 c (by omega) (by omega)]; exact h1 c (by omega) (by omega)) hG
  refine AW.aload_n 78 dX10_differs_77 rfl rfl ?_
  refine AW.iconst 79 (nI 0) dX10_differs_78 (by decide) rfl ?_
  refine AW.iconst 80 (nI 0) dX10_differs_79 (by decide) rfl ?_
  refine AW.cVv2 83 dX10_differs_80 kX10_203 (zI rfl rfl) (Nat.le_of_ble_eq_true rfl) rfl (C_X10_plays (M := M2) q0 hT2 (by decide) hG2 hp0 (sg := z_see kd tk nb 0 L sg) (lt := z_see kd tk nb 3 L lt) (fun t ht => k2 t (by omega)) (fun M3 j1 j2 => ?_))
  refine AW.iconst 84 (nI 0) dX10_differs_83 (by decide) rfl ?_
  refine AW.istn1 85 dX10_differs_84 (by decide) rfl rfl ?_
  refine L_X10_differs2 (M := M3) (T := T) (by rw [j1 99 (by decide) (by decide) (by decide)]; exact q0) hT2 (fB M3 (fun c c1 c2 c3 c4 c5 => by rw [j1 c c3 c4 c5, k1 c c1 c2]; exact h1 c c1 c2)) (R := z_oc n H N (z_see kd tk nb 0 L sg) (z_see kd tk nb 3 L lt) (fun _ => true)) (Ac := z_oa n H A N (z_see kd tk nb 0 L sg) (z_see kd tk nb 3 L lt) (fun _ => true)) (fun t ht => ⟨(j2 t ht).2.1, (j2 t ht).2.2, z_fst_lt _ h8, z_act_lt (fun r hr => (hG.2.2 r hr).1) _⟩) L 0 _ _ (by omega) (hgo M3 (fun c c1 c2 c3 c4 c5 => by rw [j1 c c3 c4 c5, k1 c c1 c2]; exact h1 c c1 c2))
theorem L_X9_seeByBook (hB : f_bk M L kd tk nb) {S U : Nat → Nat} {Q : zS → zM → Prop}
    (hQ : ∀ M', (∀ c, c ≠ 65 → c ≠ 66 → M' c = M c) → (∀ t, t < 12 → M' 65 t = nI (S t) ∧ M' 66 t = nI (U t) ∧ S t < 16 ∧ U t < 2) → Q (ZS m0 m1 md) M') :
    ∀ j, j ≤ L → ∀ (v2 : Option Value) (M' : zM) (s u : Nat → Nat), (∀ c, c ≠ 65 → c ≠ 66 → M' c = M c) → (∀ t, t < 12 → M' 65 t = nI (s t) ∧ M' 66 t = nI (u t) ∧ s t < 16 ∧ u t < 2) → z_see kd tk nb 0 j s = S → z_see kd tk nb 3 j u = U → AW l g RX9 cX9_seeByBook 3 none false d 0 0 10 [some (.ref 0), some (.int (z_pm j)), v2] [] (ZS m0 m1 md) M' (z_Qv Q) := by
  intro j
  induction j with
  | zero =>
    intro hj v2 M' s u f h1 e1 e2
    subst e1
    subst e2
    show AW l g RX9 cX9_seeByBook 3 none false d 0 0 10 [some (.ref 0), some (.int (-1)), v2] [] (ZS m0 m1 md) M' (z_Qv Q)
    refine AW.iload_n 11 dX9_seeByBook_10 rfl rfl ?_
    refine AW.if_lt 14 104 dX9_seeByBook_11 (by decide) rfl (fun _ => ?_) (fun h => absurd h (by decide))
    refine AW.vret dX9_seeByBook_104 rfl rfl ⟨rfl, ?_⟩
    exact hQ M' f h1
  | succ j ih =>
    intro hj v2 M' s u f h1 e1 e2
    obtain ⟨b1, b2, b3⟩ := hB
    obtain ⟨k1, k2, k3, k4, k5, k6⟩ := b3 j (by omega)
    have q1 : M' 72 j = nI (kd j) := by rw [f 72 (by decide) (by decide)]; exact k1
    have q2 : M' 73 j = nI (tk j) := by rw [f 73 (by decide) (by decide)]; exact k2
    have q3 : M' 74 j = nI (nb j) := by rw [f 74 (by decide) (by decide)]; exact k3
    have qd := z_pm_dec (n := j) (by omega)
    rw [z_see] at e1 e2
    have fin1 : ∀ v, kd j = 0 → AW l g RX9 cX9_seeByBook 3 none false d 0 0 10 [some (.ref 0), some (.int (z_pm j)), v] [] (ZS m0 m1 md) (z_st M' 65 (tk j) (nI (nb j))) (z_Qv Q) := fun v h0 => by
      rw [if_pos h0] at e1
      rw [if_neg (by omega)] at e2
      rw [h0] at k6
      refine ih (by omega) v _ _ _ (fun c c1 c2 => by rw [z_st_ne c1]; exact f c c1 c2) (fun t ht => ?_) e1 e2
      rw [z_st_at, z_st_ne (by decide)]
      by_cases h : t = tk j
      · subst h
        simp only [upd, if_true]
        exact ⟨trivial, (h1 _ ht).2.1, Nat.lt_succ_of_le k6, (h1 _ ht).2.2.2⟩
      · simp only [upd, if_neg h]; exact h1 t ht
    have fin2 : ∀ v, kd j = 3 → AW l g RX9 cX9_seeByBook 3 none false d 0 0 10 [some (.ref 0), some (.int (z_pm j)), v] [] (ZS m0 m1 md) (z_st M' 66 (tk j) (nI (nb j))) (z_Qv Q) := fun v h0 => by
      rw [if_neg (by omega)] at e1
      rw [if_pos h0] at e2
      rw [h0] at k6
      refine ih (by omega) v _ _ _ (fun c c1 c2 => by rw [z_st_ne c2]; exact f c c1 c2) (fun t ht => ?_) e1 e2
      rw [z_st_at, z_st_ne (by decide)]
      by_cases h : t = tk j
      · subst h
        simp only [upd, if_true]
        exact ⟨(h1 _ ht).1, trivial, (h1 _ ht).2.2.1, Nat.lt_succ_of_le k6⟩
      · simp only [upd, if_neg h]; exact h1 t ht
    have fin3 : ∀ v, ¬ kd j = 0 → ¬ kd j = 3 → AW l g RX9 cX9_seeByBook 3 none false d 0 0 10 [some (.ref 0), some (.int (z_pm j)), v] [] (ZS m0 m1 md) M' (z_Qv Q) := fun v h0 h3 => by
      rw [if_neg h0] at e1
      rw [if_neg h3] at e2
      exact ih (by omega) v M' s u f h1 e1 e2
    show AW l g RX9 cX9_seeByBook 3 none false d 0 0 10 [some (.ref 0), some (.int (nI j)), v2] [] (ZS m0 m1 md) M' (z_Qv Q)
    refine AW.iload_n 11 dX9_seeByBook_10 rfl rfl ?_
    refine AW.ifN_lt 14 104 dX9_seeByBook_11 (by decide) rfl (by omega) (fun b11 => absurd b11 (by omega)) (fun b11 => ?_)
    refine AW.aload_n 15 dX9_seeByBook_14 rfl rfl ?_
    refine AW.getR 18 dX9_seeByBook_15 fX9_53 rfl (zI rfl rfl) rfl rfl ?_
    refine AW.getR 21 dX9_seeByBook_18 fX9_198 rfl (zI rfl rfl) rfl rfl ?_
    refine AW.iconst 22 (nI 1) dX9_seeByBook_21 (by decide) rfl ?_
    refine AW.aald 23 dX9_seeByBook_22 (zA rfl rfl) (by decide) rfl (by omega) (by decide) rfl rfl ?_
    refine AW.iload_n 24 dX9_seeByBook_23 rfl rfl ?_
    refine AW.iald 25 dX9_seeByBook_24 (zA rfl rfl) rfl (by omega) (by decide) rfl ?_
    refine AW.topi (nI (tk j)) q2 ?_
    refine AW.istn2 26 dX9_seeByBook_25 (by decide) rfl rfl ?_
    refine AW.aload_n 27 dX9_seeByBook_26 rfl rfl ?_
    refine AW.getR 30 dX9_seeByBook_27 fX9_53 rfl (zI rfl rfl) rfl rfl ?_
    refine AW.getR 33 dX9_seeByBook_30 fX9_198 rfl (zI rfl rfl) rfl rfl ?_
    refine AW.iconst 34 (nI 0) dX9_seeByBook_33 (by decide) rfl ?_
    refine AW.aald 35 dX9_seeByBook_34 (zA rfl rfl) (by decide) rfl (by omega) (by decide) rfl rfl ?_
    refine AW.iload_n 36 dX9_seeByBook_35 rfl rfl ?_
    refine AW.iald 37 dX9_seeByBook_36 (zA rfl rfl) rfl (by omega) (by decide) rfl ?_
    refine AW.topi (nI (kd j)) q1 ?_
    refine AW.ifN_ne 40 63 dX9_seeByBook_37 (by decide) rfl (by omega) (fun b37 => ?_) (fun b37 => ?_)
    · skip
      refine AW.aload_n 64 dX9_seeByBook_63 rfl rfl ?_
      refine AW.getR 67 dX9_seeByBook_64 fX9_53 rfl (zI rfl rfl) rfl rfl ?_
      refine AW.getR 70 dX9_seeByBook_67 fX9_198 rfl (zI rfl rfl) rfl rfl ?_
      refine AW.iconst 71 (nI 0) dX9_seeByBook_70 (by decide) rfl ?_
      refine AW.aald 72 dX9_seeByBook_71 (zA rfl rfl) (by decide) rfl (by omega) (by decide) rfl rfl ?_
      refine AW.iload_n 73 dX9_seeByBook_72 rfl rfl ?_
      refine AW.iald 74 dX9_seeByBook_73 (zA rfl rfl) rfl (by omega) (by decide) rfl ?_
      refine AW.topi (nI (kd j)) q1 ?_
      refine AW.iconst 75 (nI 3) dX9_seeByBook_74 (by decide) rfl ?_
      refine AW.icmpN_ne 78 98 dX9_seeByBook_75 (by decide) rfl (by omega) (by omega) (fun b75 => ?_) (fun b75 => ?_)
      · skip
        refine AW.iinc1 101 (z_pm j) dX9_seeByBook_98 qd (by decide) rfl rfl ?_
        refine AW.goto 10 dX9_seeByBook_101 (by decide) ?_
        first | exact fin1 _ b37 | exact fin2 _ (by omega) | exact fin3 _ b37 (by omega)
      · skip
        refine AW.aload_n 79 dX9_seeByBook_78 rfl rfl ?_
        refine AW.getR 82 dX9_seeByBook_79 fX9_46 rfl (zI rfl rfl) rfl rfl ?_
        refine AW.getR 85 dX9_seeByBook_82 fX9_180 rfl (zI rfl rfl) rfl rfl ?_
        refine AW.iload_n 86 dX9_seeByBook_85 rfl rfl ?_
        refine AW.aload_n 87 dX9_seeByBook_86 rfl rfl ?_
        refine AW.getR 90 dX9_seeByBook_87 fX9_53 rfl (zI rfl rfl) rfl rfl ?_
        refine AW.getR 93 dX9_seeByBook_90 fX9_198 rfl (zI rfl rfl) rfl rfl ?_
        refine AW.iconst 94 (nI 2) dX9_seeByBook_93 (by decide) rfl ?_
        refine AW.aald 95 dX9_seeByBook_94 (zA rfl rfl) (by decide) rfl (by omega) (by decide) rfl rfl ?_
        refine AW.iload_n 96 dX9_seeByBook_95 rfl rfl ?_
        refine AW.iald 97 dX9_seeByBook_96 (zA rfl rfl) rfl (by omega) (by decide) rfl ?_
        refine AW.topi (nI (nb j)) q3 ?_
        refine AW.iast 98 dX9_seeByBook_97 (zA rfl rfl) rfl (by omega) (by decide) rfl ?_
        refine AW.iinc1 101 (z_pm j) dX9_seeByBook_98 qd (by decide) rfl rfl ?_
        refine AW.goto 10 dX9_seeByBook_101 (by decide) ?_
        first | exact fin1 _ b37 | exact fin2 _ (by omega) | exact fin3 _ b37 (by omega)
    · skip
      refine AW.aload_n 41 dX9_seeByBook_40 rfl rfl ?_
      refine AW.getR 44 dX9_seeByBook_41 fX9_46 rfl (zI rfl rfl) rfl rfl ?_
      refine AW.getR 47 dX9_seeByBook_44 fX9_174 rfl (zI rfl rfl) rfl rfl ?_
      refine AW.iload_n 48 dX9_seeByBook_47 rfl rfl ?_
      refine AW.aload_n 49 dX9_seeByBook_48 rfl rfl ?_
      refine AW.getR 52 dX9_seeByBook_49 fX9_53 rfl (zI rfl rfl) rfl rfl ?_
      refine AW.getR 55 dX9_seeByBook_52 fX9_198 rfl (zI rfl rfl) rfl rfl ?_
      refine AW.iconst 56 (nI 2) dX9_seeByBook_55 (by decide) rfl ?_
      refine AW.aald 57 dX9_seeByBook_56 (zA rfl rfl) (by decide) rfl (by omega) (by decide) rfl rfl ?_
      refine AW.iload_n 58 dX9_seeByBook_57 rfl rfl ?_
      refine AW.iald 59 dX9_seeByBook_58 (zA rfl rfl) rfl (by omega) (by decide) rfl ?_
      refine AW.topi (nI (nb j)) q3 ?_
      refine AW.iast 60 dX9_seeByBook_59 (zA rfl rfl) rfl (by omega) (by decide) rfl ?_
      refine AW.goto 98 dX9_seeByBook_60 (by decide) ?_
      refine AW.iinc1 101 (z_pm j) dX9_seeByBook_98 qd (by decide) rfl rfl ?_
      refine AW.goto 10 dX9_seeByBook_101 (by decide) ?_
      first | exact fin1 _ b37 | exact fin2 _ (by omega) | exact fin3 _ b37 (by omega)
theorem C_X9_seeByBook (hB : f_bk M L kd tk nb) (hs : ∀ t, t < 12 → M 65 t = nI (sg t) ∧ M 66 t = nI (lt t) ∧ sg t < 16 ∧ lt t < 2) {Q : zS → zM → Prop}
    (hQ : ∀ M', (∀ c, c ≠ 65 → c ≠ 66 → M' c = M c) → (∀ t, t < 12 → M' 65 t = nI (z_see kd tk nb 0 L sg t) ∧ M' 66 t = nI (z_see kd tk nb 3 L lt t) ∧ z_see kd tk nb 0 L sg t < 16 ∧ z_see kd tk nb 3 L lt t < 2) → Q (ZS m0 m1 md) M') : AMet l g yX9_seeByBook cX9_seeByBook 3 none d 0 0 [.ref 0] (ZS m0 m1 md) M (z_Qv Q) := by
  have hb48 := hB.2.1
  refine AMet.of (ini := false) rfl (fun h => by first | rfl | cases h) (Nat.le_of_ble_eq_true rfl) ?_
  show AW l g RX9 cX9_seeByBook 3 none false _ _ _ 0 [some (.ref 0), none, none] [] _ _ _
  refine AW.aload_n 1 dX9_seeByBook_0 rfl rfl ?_
  refine AW.getR 4 dX9_seeByBook_1 fX9_53 rfl (zI rfl rfl) rfl rfl ?_
  refine AW.getI 7 dX9_seeByBook_4 fX9_173 rfl (zI rfl rfl) rfl ?_
  refine AW.topi (nI L) hB.1 ?_
  refine AW.iconst 8 (nI 1) dX9_seeByBook_7 (by decide) rfl ?_
  refine AW.isub 9 dX9_seeByBook_8 rfl ?_
  refine AW.topi (z_pm L) (z_pm_sub (by omega)) ?_
  refine AW.istn1 10 dX9_seeByBook_9 (by decide) rfl rfl ?_
  exact L_X9_seeByBook hB hQ L (Nat.le_refl _) _ M sg lt (fun _ _ _ => rfl) hs rfl rfl
theorem C_X9_isUnlikePlayed {k t m : Nat} {r a : Nat} (hk : k < 6) (ht : t < 12) (hm : m ≤ 99) (h1 : M 68 t = nI r) (h2 : M 69 t = nI a) (hr : r ≤ 8) (ha : a < 4) {Q : Int32 → zS → zM → Prop} (hy : ((k = 1 ∧ ¬ m = r) ∨ (k = 2 ∧ ¬ m = a)) → Q (nI 1) (ZS m0 m1 md) M) (hn : ¬ ((k = 1 ∧ ¬ m = r) ∨ (k = 2 ∧ ¬ m = a)) → Q (nI 0) (ZS m0 m1 md) M) : AMet l g yX9_isUnlikePlayed cX9_isUnlikePlayed 4 (some .boolean) d 0 0 [.ref 0, .int (nI k), .int (nI t), .int (nI m)] (ZS m0 m1 md) M (z_Qi Q) := by
  refine AMet.of (ini := false) rfl (fun h => by first | rfl | cases h) (Nat.le_of_ble_eq_true rfl) ?_
  show AW l g RX9 cX9_isUnlikePlayed 4 (some .boolean) false _ _ _ 0 [some (.ref 0), some (.int (nI k)), some (.int (nI t)), some (.int (nI m))] [] _ _ _
  refine AW.iload_n 1 dX9_isUnlikePlayed_0 rfl rfl ?_
  refine AW.iconst 2 (nI 1) dX9_isUnlikePlayed_1 (by decide) rfl ?_
  refine AW.icmpN_ne 5 18 dX9_isUnlikePlayed_2 (by decide) rfl (by omega) (by omega) (fun b2 => ?_) (fun b2 => ?_)
  · skip
    refine AW.iload_n 19 dX9_isUnlikePlayed_18 rfl rfl ?_
    refine AW.iconst 20 (nI 2) dX9_isUnlikePlayed_19 (by decide) rfl ?_
    refine AW.icmpN_ne 23 40 dX9_isUnlikePlayed_20 (by decide) rfl (by omega) (by omega) (fun b20 => ?_) (fun b20 => ?_)
    · skip
      refine AW.iconst 41 (nI 0) dX9_isUnlikePlayed_40 (by decide) rfl ?_
      refine AW.iret dX9_isUnlikePlayed_41 .boolean rfl rfl rfl ⟨_, rfl, ?_⟩
      first | exact hy (by omega) | exact hn (by omega)
    · skip
      refine AW.iload_n 24 dX9_isUnlikePlayed_23 rfl rfl ?_
      refine AW.aload_n 25 dX9_isUnlikePlayed_24 rfl rfl ?_
      refine AW.getR 28 dX9_isUnlikePlayed_25 fX9_46 rfl (zI rfl rfl) rfl rfl ?_
      refine AW.getR 31 dX9_isUnlikePlayed_28 fX9_169 rfl (zI rfl rfl) rfl rfl ?_
      refine AW.iload_n 32 dX9_isUnlikePlayed_31 rfl rfl ?_
      refine AW.iald 33 dX9_isUnlikePlayed_32 (zA rfl rfl) rfl (by omega) (by decide) rfl ?_
      refine AW.topi (nI a) h2 ?_
      refine AW.icmpN_eq 36 40 dX9_isUnlikePlayed_33 (by decide) rfl (by omega) (by omega) (fun b33 => ?_) (fun b33 => ?_)
      · skip
        refine AW.iconst 41 (nI 0) dX9_isUnlikePlayed_40 (by decide) rfl ?_
        refine AW.iret dX9_isUnlikePlayed_41 .boolean rfl rfl rfl ⟨_, rfl, ?_⟩
        first | exact hy (by omega) | exact hn (by omega)
      · skip
        refine AW.iconst 37 (nI 1) dX9_isUnlikePlayed_36 (by decide) rfl ?_
        refine AW.goto 41 dX9_isUnlikePlayed_37 (by decide) ?_
        refine AW.iret dX9_isUnlikePlayed_41 .boolean rfl rfl rfl ⟨_, rfl, ?_⟩
        first | exact hy (by omega) | exact hn (by omega)
  · skip
    refine AW.iload_n 6 dX9_isUnlikePlayed_5 rfl rfl ?_
    refine AW.aload_n 7 dX9_isUnlikePlayed_6 rfl rfl ?_
    refine AW.getR 10 dX9_isUnlikePlayed_7 fX9_46 rfl (zI rfl rfl) rfl rfl ?_
    refine AW.getR 13 dX9_isUnlikePlayed_10 fX9_166 rfl (zI rfl rfl) rfl rfl ?_
    refine AW.iload_n 14 dX9_isUnlikePlayed_13 rfl rfl ?_
    refine AW.iald 15 dX9_isUnlikePlayed_14 (zA rfl rfl) rfl (by omega) (by decide) rfl ?_
    refine AW.topi (nI r) h1 ?_
    refine AW.icmpN_ne 18 36 dX9_isUnlikePlayed_15 (by decide) rfl (by omega) (by omega) (fun b15 => ?_) (fun b15 => ?_)
    · skip
      refine AW.iconst 37 (nI 1) dX9_isUnlikePlayed_36 (by decide) rfl ?_
      refine AW.goto 41 dX9_isUnlikePlayed_37 (by decide) ?_
      refine AW.iret dX9_isUnlikePlayed_41 .boolean rfl rfl rfl ⟨_, rfl, ?_⟩
      first | exact hy (by omega) | exact hn (by omega)
    · skip
      refine AW.iload_n 19 dX9_isUnlikePlayed_18 rfl rfl ?_
      refine AW.iconst 20 (nI 2) dX9_isUnlikePlayed_19 (by decide) rfl ?_
      refine AW.icmpN_ne 23 40 dX9_isUnlikePlayed_20 (by decide) rfl (by omega) (by omega) (fun b20 => ?_) (fun b20 => ?_)
      · skip
        refine AW.iconst 41 (nI 0) dX9_isUnlikePlayed_40 (by decide) rfl ?_
        refine AW.iret dX9_isUnlikePlayed_41 .boolean rfl rfl rfl ⟨_, rfl, ?_⟩
        first | exact hy (by omega) | exact hn (by omega)
      · skip
        refine AW.iload_n 24 dX9_isUnlikePlayed_23 rfl rfl ?_
        refine AW.aload_n 25 dX9_isUnlikePlayed_24 rfl rfl ?_
        refine AW.getR 28 dX9_isUnlikePlayed_25 fX9_46 rfl (zI rfl rfl) rfl rfl ?_
        refine AW.getR 31 dX9_isUnlikePlayed_28 fX9_169 rfl (zI rfl rfl) rfl rfl ?_
        refine AW.iload_n 32 dX9_isUnlikePlayed_31 rfl rfl ?_
        refine AW.iald 33 dX9_isUnlikePlayed_32 (zA rfl rfl) rfl (by omega) (by decide) rfl ?_
        refine AW.topi (nI a) h2 ?_
        refine AW.icmpN_eq 36 40 dX9_isUnlikePlayed_33 (by decide) rfl (by omega) (by omega) (fun b33 => ?_) (fun b33 => ?_)
        · skip
          refine AW.iconst 41 (nI 0) dX9_isUnlikePlayed_40 (by decide) rfl ?_
          refine AW.iret dX9_isUnlikePlayed_41 .boolean rfl rfl rfl ⟨_, rfl, ?_⟩
          first | exact hy (by omega) | exact hn (by omega)
        · skip
          refine AW.iconst 37 (nI 1) dX9_isUnlikePlayed_36 (by decide) rfl ?_
          refine AW.goto 41 dX9_isUnlikePlayed_37 (by decide) ?_
          refine AW.iret dX9_isUnlikePlayed_41 .boolean rfl rfl rfl ⟨_, rfl, ?_⟩
          first | exact hy (by omega) | exact hn (by omega)
theorem L_X9_differs (hT : M 59 1 = nI T) (hT2 : T ≤ 12) (hB : f_bk M L kd tk nb) (hR : ∀ t, t < T → M 68 t = nI (R t) ∧ M 69 t = nI (Ac t) ∧ R t ≤ 8 ∧ Ac t < 4) {Q : Int32 → zS → zM → Prop} :
    ∀ (q i : Nat) (v2 : Option Value), i + q = L → Q (z_fnd (z_dfP T kd tk nb R Ac) i q) (ZS m0 m1 md) M → AW l g RX9 cX9_differs 3 (some .int) false (d + 1) 0 0 40 [some (.ref 0), some (.int (nI i)), v2] [] (ZS m0 m1 md) M (z_Qi Q) := by
  obtain ⟨b1, b2, b3⟩ := hB
  intro q
  induction q with
  | zero =>
    intro i v2 hi hQ
    refine AW.iload_n 41 dX9_differs_40 rfl rfl ?_
    refine AW.aload_n 42 dX9_differs_41 rfl rfl ?_
    refine AW.getR 45 dX9_differs_42 fX9_53 rfl (zI rfl rfl) rfl rfl ?_
    refine AW.getI 48 dX9_differs_45 fX9_173 rfl (zI rfl rfl) rfl ?_
    refine AW.topi (nI L) b1 ?_
    refine AW.icmpN_ge 51 112 dX9_differs_48 (by decide) rfl (by omega) (by omega) (fun b48 => ?_) (fun b48 => absurd b48 (by omega))
    refine AW.bipush 114 (-4) dX9_differs_112 (by decide) rfl ?_
    refine AW.iret dX9_differs_114 .int rfl rfl rfl ⟨_, rfl, ?_⟩
    exact hQ
  | succ q ih =>
    intro i v2 hi hQ
    obtain ⟨k1, k2, k3, k4, k5, k6⟩ := b3 i (by omega)
    have k7 := z_nm_le (kd i)
    unfold z_fnd z_dfP at hQ
    refine AW.iload_n 41 dX9_differs_40 rfl rfl ?_
    refine AW.aload_n 42 dX9_differs_41 rfl rfl ?_
    refine AW.getR 45 dX9_differs_42 fX9_53 rfl (zI rfl rfl) rfl rfl ?_
    refine AW.getI 48 dX9_differs_45 fX9_173 rfl (zI rfl rfl) rfl ?_
    refine AW.topi (nI L) b1 ?_
    refine AW.icmpN_ge 51 112 dX9_differs_48 (by decide) rfl (by omega) (by omega) (fun b48 => absurd b48 (by omega)) (fun b48 => ?_)
    refine AW.aload_n 52 dX9_differs_51 rfl rfl ?_
    refine AW.getR 55 dX9_differs_52 fX9_53 rfl (zI rfl rfl) rfl rfl ?_
    refine AW.getR 58 dX9_differs_55 fX9_198 rfl (zI rfl rfl) rfl rfl ?_
    refine AW.iconst 59 (nI 1) dX9_differs_58 (by decide) rfl ?_
    refine AW.aald 60 dX9_differs_59 (zA rfl rfl) (by decide) rfl (by omega) (by decide) rfl rfl ?_
    refine AW.iload_n 61 dX9_differs_60 rfl rfl ?_
    refine AW.iald 62 dX9_differs_61 (zA rfl rfl) rfl (by omega) (by decide) rfl ?_
    refine AW.topi (nI (tk i)) k2 ?_
    refine AW.istn2 63 dX9_differs_62 (by decide) rfl rfl ?_
    refine AW.iload_n 64 dX9_differs_63 rfl rfl ?_
    refine AW.aload_n 65 dX9_differs_64 rfl rfl ?_
    refine AW.getR 68 dX9_differs_65 fX9_39 rfl (zI rfl rfl) rfl rfl ?_
    refine AW.getI 71 dX9_differs_68 fX9_133 rfl (zI rfl rfl) rfl ?_
    refine AW.topi (nI T) hT ?_
    refine AW.icmpN_ge 74 106 dX9_differs_71 (by decide) rfl (by omega) (by omega) (fun b71 => ?_) (fun b71 => ?_)
    · skip
      refine AW.iinc1 109 _ dX9_differs_106 (z_inc1 _) (by decide) rfl rfl ?_
      refine AW.goto 40 dX9_differs_109 (by decide) ?_
      rw [if_neg (by intro z; have z2 := of_decide_eq_true z; omega)] at hQ
      exact ih (i + 1) _ (by omega) hQ
    · skip
      refine AW.aload_n 75 dX9_differs_74 rfl rfl ?_
      refine AW.aload_n 76 dX9_differs_75 rfl rfl ?_
      refine AW.getR 79 dX9_differs_76 fX9_53 rfl (zI rfl rfl) rfl rfl ?_
      refine AW.getR 82 dX9_differs_79 fX9_198 rfl (zI rfl rfl) rfl rfl ?_
      refine AW.iconst 83 (nI 0) dX9_differs_82 (by decide) rfl ?_
      refine AW.aald 84 dX9_differs_83 (zA rfl rfl) (by decide) rfl (by omega) (by decide) rfl rfl ?_
      refine AW.iload_n 85 dX9_differs_84 rfl rfl ?_
      refine AW.iald 86 dX9_differs_85 (zA rfl rfl) rfl (by omega) (by decide) rfl ?_
      refine AW.topi (nI (kd i)) k1 ?_
      refine AW.iload_n 87 dX9_differs_86 rfl rfl ?_
      refine AW.aload_n 88 dX9_differs_87 rfl rfl ?_
      refine AW.getR 91 dX9_differs_88 fX9_53 rfl (zI rfl rfl) rfl rfl ?_
      refine AW.getR 94 dX9_differs_91 fX9_198 rfl (zI rfl rfl) rfl rfl ?_
      refine AW.iconst 95 (nI 2) dX9_differs_94 (by decide) rfl ?_
      refine AW.aald 96 dX9_differs_95 (zA rfl rfl) (by decide) rfl (by omega) (by decide) rfl rfl ?_
      refine AW.iload_n 97 dX9_differs_96 rfl rfl ?_
      refine AW.iald 98 dX9_differs_97 (zA rfl rfl) rfl (by omega) (by decide) rfl ?_
      refine AW.topi (nI (nb i)) k3 ?_
      refine AW.cVi3 101 dX9_differs_98 kX9_240 (zI rfl rfl) (Nat.le_of_ble_eq_true rfl) rfl (C_X9_isUnlikePlayed (k := kd i) (t := tk i) (m := nb i) k4 k5 (by omega) (hR (tk i) (by omega)).1 (hR (tk i) (by omega)).2.1 (hR (tk i) (by omega)).2.2.1 (hR (tk i) (by omega)).2.2.2 (fun b98 => ?_) (fun b98 => ?_))
      · skip
        refine AW.if_eq 104 106 dX9_differs_101 (by decide) rfl (fun h => absurd h (by decide)) (fun _ => ?_)
        refine AW.iload_n 105 dX9_differs_104 rfl rfl ?_
        refine AW.iret dX9_differs_105 .int rfl rfl rfl ⟨_, rfl, ?_⟩
        rw [if_pos (by apply decide_eq_true; omega)] at hQ
        exact hQ
      · skip
        refine AW.if_eq 104 106 dX9_differs_101 (by decide) rfl (fun _ => ?_) (fun h => absurd h (by decide))
        refine AW.iinc1 109 _ dX9_differs_106 (z_inc1 _) (by decide) rfl rfl ?_
        refine AW.goto 40 dX9_differs_109 (by decide) ?_
        rw [if_neg (by intro z; have z2 := of_decide_eq_true z; omega)] at hQ
        exact ih (i + 1) _ (by omega) hQ
theorem C_X9_differs (hT : M 59 1 = nI T) (hT2 : T ≤ 12) (hb0 : zMb m0) (hF : f_mach M m0 n H A N) (hB : f_bk M L kd tk nb) (hW : ∀ t, t < 12 → M 61 t = nI (sg t) ∧ M 62 t = nI (lt t) ∧ sg t < 16 ∧ lt t < 2) {Q : Int32 → zS → zM → Prop}
    (hgo : ∀ M', (∀ c, c ≠ 65 → c ≠ 66 → c ≠ 67 → c ≠ 68 → c ≠ 69 → M' c = M c) → Q (z_fnd (z_dfP T kd tk nb (z_oc n H N (z_see kd tk nb 0 L sg) (z_see kd tk nb 3 L lt) (fun _ => true)) (z_oa n H A N (z_see kd tk nb 0 L sg) (z_see kd tk nb 3 L lt) (fun _ => true))) 0 L) (ZS m0 m1 md) M') : AMet l g yX9_differs cX9_differs 3 (some .int) (d + 2) 0 0 [.ref 0] (ZS m0 m1 md) M (z_Qi Q) := by
  have hb48 := hB.2.1
  have h8 := hF.2.1
  have hbl := zMb_lt hb0
  have fB : ∀ M9 : zM, (∀ c, c ≠ 65 → c ≠ 66 → c ≠ 67 → c ≠ 68 → c ≠ 69 → M9 c = M c) → f_bk M9 L kd tk nb := fun M9 f9 => by unfold f_bk; rw [f9 70 (by decide) (by decide) (by decide) (by decide) (by decide), f9 72 (by decide) (by decide) (by decide) (by decide) (by decide), f9 73 (by decide) (by decide) (by decide) (by decide) (by decide), f9 74 (by decide) (by decide) (by decide) (by decide) (by decide)]; exact hB
  refine AMet.of (ini := false) rfl (fun h => by first | rfl | cases h) (Nat.le_of_ble_eq_true rfl) ?_
  show AW l g RX9 cX9_differs 3 (some .int) false _ _ _ 0 [some (.ref 0), none, none] [] _ _ _
  refine AW.aload_n 1 dX9_differs_0 rfl rfl ?_
  refine AW.getR 4 dX9_differs_1 fX9_46 rfl (zI rfl rfl) rfl rfl ?_
  refine AW.aload_n 5 dX9_differs_4 rfl rfl ?_
  refine AW.getR 8 dX9_differs_5 fX9_39 rfl (zI rfl rfl) rfl rfl ?_
  refine AW.cVv1 11 dX9_differs_8 kX9_229 (zI rfl rfl) (Nat.le_of_ble_eq_true rfl) rfl (C_X3_look (fun M1 h1 h2 => ?_))
  refine AW.aload_n 12 dX9_differs_11 rfl rfl ?_
  refine AW.cVv0 15 dX9_differs_12 kX9_233 (zI rfl rfl) (Nat.le_of_ble_eq_true rfl) rfl (C_X9_seeByBook (M := M1) (fB M1 (fun c c1 c2 _ _ _ => h1 c c1 c2)) (sg := sg) (lt := lt) (fun t ht => ⟨by rw [(h2 t ht).1]; exact (hW t ht).1, by rw [(h2 t ht).2]; exact (hW t ht).2.1, (hW t ht).2.2⟩) (fun M2 k1 k2 => ?_))
  have q0 : M2 59 1 = nI T := by rw [k1 59 (by decide) (by decide), h1 59 (by decide) (by decide)]; exact hT
  refine AW.aload_n 16 dX9_differs_15 rfl rfl ?_
  refine AW.getR 19 dX9_differs_16 fX9_46 rfl (zI rfl rfl) rfl rfl ?_
  refine AW.aload_n 20 dX9_differs_19 rfl rfl ?_
  refine AW.getR 23 dX9_differs_20 fX9_28 rfl (zI rfl rfl) rfl rfl ?_
  refine AW.iconst 24 (nI 0) dX9_differs_23 (by decide) rfl ?_
  refine AW.aald 25 dX9_differs_24 (zA rfl rfl) (by decide) rfl (by omega) (by decide) rfl rfl ?_
  refine AW.sipush 28 (nI 255) dX9_differs_25 (by decide) rfl ?_
  refine AW.aload_n 29 dX9_differs_28 rfl rfl ?_
  refine AW.getR 32 dX9_differs_29 fX9_39 rfl (zI rfl rfl) rfl rfl ?_
  refine AW.getI 35 dX9_differs_32 fX9_133 rfl (zI rfl rfl) rfl ?_
  refine AW.topi (nI T) q0 ?_
  refine AW.cVv3 38 dX9_differs_35 kX9_236 (zI rfl rfl) (Nat.le_of_ble_eq_true rfl) rfl (C_X3_run (M := M2) hT2 hb0 (f_mach_frame hb0 (fun c c1 c2 => by rw [k1 c (by omega) (by omega)]; exact h1 c (by omega) (by omega)) hF) hp255 (sg := z_see kd tk nb 0 L sg) (lt := z_see kd tk nb 3 L lt) (fun t ht => k2 t (by omega)) (fun M3 j1 j2 => ?_))
  refine AW.iconst 39 (nI 0) dX9_differs_38 (by decide) rfl ?_
  refine AW.istn1 40 dX9_differs_39 (by decide) rfl rfl ?_
  refine L_X9_differs (M := M3) (T := T) (by rw [j1 59 (by decide) (by decide) (by decide)]; exact q0) hT2 (fB M3 (fun c c1 c2 c3 c4 c5 => by rw [j1 c c3 c4 c5, k1 c c1 c2]; exact h1 c c1 c2)) (R := z_oc n H N (z_see kd tk nb 0 L sg) (z_see kd tk nb 3 L lt) (fun _ => true)) (Ac := z_oa n H A N (z_see kd tk nb 0 L sg) (z_see kd tk nb 3 L lt) (fun _ => true)) (fun t ht => ⟨(j2 t ht).2.1, (j2 t ht).2.2, z_fst_lt _ h8, z_act_lt (fun r hr => (hF.2.2 r hr).1) _⟩) L 0 _ (by omega) (hgo M3 (fun c c1 c2 c3 c4 c5 => by rw [j1 c c3 c4 c5, k1 c c1 c2]; exact h1 c c1 c2))
end DIFFERS2
