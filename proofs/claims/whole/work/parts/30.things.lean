def z_tl (k : Int) : Int := if k = 2 then 0 else 11
def z_nl (k : Int) : Int := if k = 0 then 3 else if k = 1 then 0 else 7
def z_tg (k t n : Int32) : Prop := 0 ≤ k.toInt ∧ k.toInt ≤ 2 ∧ 0 ≤ t.toInt ∧ t.toInt ≤ z_tl k.toInt ∧ 0 ≤ n.toInt ∧ n.toInt ≤ z_nl k.toInt
def z_th (M : zM) (c0 c1 c2 : Nat) (k t n : Int32) (i : Nat) : Prop := (M c0 i).toInt = k.toInt ∧ (M c1 i).toInt = t.toInt ∧ (M c2 i).toInt = n.toInt
section THINGS
variable {l : Launch} {g : zG} {d m0 m1 md : Nat} {M : zM} {t : Nat}
theorem L_X10_thing (ht : M 99 34 = nI t) (ht2 : t ≤ 6) {k b n : Int32} {Q : Int32 → zS → zM → Prop} (hh : (∃ i, i < t ∧ z_th M 127 128 129 k b n i) → Q (-2) (ZS m0 m1 md) M) (hQ : (¬ ∃ i, i < t ∧ z_th M 127 128 129 k b n i) → AW l g RX10 cX10_thing 6 (some .int) false d 0 0 132 [some (.ref 99), some (.int k), some (.int b), some (.int n), some (.int (nI 1)), some (.int (nI t))] [] (ZS m0 m1 md) M (z_Qi Q)) :
    ∀ (q i : Nat), i + q = t → (∀ j, j < i → ¬ z_th M 127 128 129 k b n j) → AW l g RX10 cX10_thing 6 (some .int) false d 0 0 81 [some (.ref 99), some (.int k), some (.int b), some (.int n), some (.int (nI 1)), some (.int (nI i))] [] (ZS m0 m1 md) M (z_Qi Q) := by
  intro q
  induction q with
  | zero =>
    intro i hi hn
    have hi : i = t := by omega
    subst hi
    refine AW.iload 83 dX10_thing_81 rfl rfl ?_
    refine AW.aload_n 84 dX10_thing_83 rfl rfl ?_
    refine AW.getI 87 dX10_thing_84 fX10_244 rfl (zI rfl rfl) rfl ?_
    refine AW.topi (nI i) ht ?_
    refine AW.icmpN_ge 90 132 dX10_thing_87 (by decide) rfl (by omega) (by omega) (fun b87 => ?_) (fun b87 => absurd b87 (by omega))
    exact hQ (fun z => by obtain ⟨j, h1, h2⟩ := z; exact hn j h1 h2)
  | succ q ih =>
    intro i hi hn
    have nx : ¬ z_th M 127 128 129 k b n i → ∀ j, j < i + 1 → ¬ z_th M 127 128 129 k b n j := fun h j hj => by
      rcases Nat.lt_or_ge j i with q | q
      · exact hn j q
      · have : j = i := by omega
        subst this; exact h
    refine AW.iload 83 dX10_thing_81 rfl rfl ?_
    refine AW.aload_n 84 dX10_thing_83 rfl rfl ?_
    refine AW.getI 87 dX10_thing_84 fX10_244 rfl (zI rfl rfl) rfl ?_
    refine AW.topi (nI t) ht ?_
    refine AW.icmpN_ge 90 132 dX10_thing_87 (by decide) rfl (by omega) (by omega) (fun b87 => absurd b87 (by omega)) (fun b87 => ?_)
    refine AW.aload_n 91 dX10_thing_90 rfl rfl ?_
    refine AW.getR 94 dX10_thing_91 fX10_99 rfl (zI rfl rfl) rfl rfl ?_
    refine AW.iload 96 dX10_thing_94 rfl rfl ?_
    refine AW.iald 97 dX10_thing_96 (zA rfl rfl) rfl (by omega) (by decide) rfl ?_
    refine AW.iload_n 98 dX10_thing_97 rfl rfl ?_
    refine AW.zicmp_ne 101 126 dX10_thing_98 (by decide) rfl rfl rfl (fun b98 => ?_) (fun b98 => ?_)
    · skip
      refine AW.iinc5 129 _ dX10_thing_126 (z_inc1 _) (by decide) rfl rfl ?_
      refine AW.goto 81 dX10_thing_129 (by decide) ?_
      exact ih (i + 1) (by omega) (nx (fun z => by unfold z_th at z; first | exact b98 z.1 | exact b109 z.2.1 | exact b120 z.2.2))
    · skip
      refine AW.aload_n 102 dX10_thing_101 rfl rfl ?_
      refine AW.getR 105 dX10_thing_102 fX10_102 rfl (zI rfl rfl) rfl rfl ?_
      refine AW.iload 107 dX10_thing_105 rfl rfl ?_
      refine AW.iald 108 dX10_thing_107 (zA rfl rfl) rfl (by omega) (by decide) rfl ?_
      refine AW.iload_n 109 dX10_thing_108 rfl rfl ?_
      refine AW.zicmp_ne 112 126 dX10_thing_109 (by decide) rfl rfl rfl (fun b109 => ?_) (fun b109 => ?_)
      · skip
        refine AW.iinc5 129 _ dX10_thing_126 (z_inc1 _) (by decide) rfl rfl ?_
        refine AW.goto 81 dX10_thing_129 (by decide) ?_
        exact ih (i + 1) (by omega) (nx (fun z => by unfold z_th at z; first | exact b98 z.1 | exact b109 z.2.1 | exact b120 z.2.2))
      · skip
        refine AW.aload_n 113 dX10_thing_112 rfl rfl ?_
        refine AW.getR 116 dX10_thing_113 fX10_105 rfl (zI rfl rfl) rfl rfl ?_
        refine AW.iload 118 dX10_thing_116 rfl rfl ?_
        refine AW.iald 119 dX10_thing_118 (zA rfl rfl) rfl (by omega) (by decide) rfl ?_
        refine AW.iload_n 120 dX10_thing_119 rfl rfl ?_
        refine AW.zicmp_ne 123 126 dX10_thing_120 (by decide) rfl rfl rfl (fun b120 => ?_) (fun b120 => ?_)
        · skip
          refine AW.iinc5 129 _ dX10_thing_126 (z_inc1 _) (by decide) rfl rfl ?_
          refine AW.goto 81 dX10_thing_129 (by decide) ?_
          exact ih (i + 1) (by omega) (nx (fun z => by unfold z_th at z; first | exact b98 z.1 | exact b109 z.2.1 | exact b120 z.2.2))
        · skip
          refine AW.bipush 125 (-2) dX10_thing_123 (by decide) rfl ?_
          refine AW.iret dX10_thing_125 .int rfl rfl rfl ⟨_, rfl, ?_⟩
          exact hh ⟨i, by omega, b98, b109, b120⟩
theorem C_X10_thing (ht : M 99 34 = nI t) (ht2 : t ≤ 6) {k b n : Int32} {Q : Int32 → zS → zM → Prop} (hbad : ¬ z_tg k b n → Q (-1) (ZS m0 m1 md) M) (hh : z_tg k b n → (∃ i, i < t ∧ z_th M 127 128 129 k b n i) → Q (-2) (ZS m0 m1 md) M) (hfull : z_tg k b n → (¬ ∃ i, i < t ∧ z_th M 127 128 129 k b n i) → t = 6 → Q (-3) (ZS m0 m1 md) M) (hok : z_tg k b n → (¬ ∃ i, i < t ∧ z_th M 127 128 129 k b n i) → t < 6 → Q (nI t) (ZS m0 m1 md) (z_st (z_st (z_st (z_st M 127 t k) 128 t b) 129 t n) 99 34 (nI (t + 1)))) : AMet l g yX10_thing cX10_thing 6 (some .int) (d + 1) 0 0 [.ref 99, .int k, .int b, .int n] (ZS m0 m1 md) M (z_Qi Q) := by
  refine AMet.of (ini := false) rfl (fun h => by first | rfl | cases h) (Nat.le_of_ble_eq_true rfl) ?_
  show AW l g RX10 cX10_thing 6 (some .int) false _ _ _ 0 [some (.ref 99), some (.int k), some (.int b), some (.int n), none, none] [] _ _ _
  refine AW.iload_n 1 dX10_thing_0 rfl rfl ?_
  refine AW.i2l 2 dX10_thing_1 rfl ?_
  refine AW.lconst 3 (lN 0) dX10_thing_2 rfl rfl ?_
  refine AW.ldc2 6 (lN 2) dX10_thing_3 qX10_180 rfl ?_
  refine AW.cSi3 9 dX10_thing_6 kX10_131 (Nat.le_of_ble_eq_true rfl) rfl (C_in (Int32.toInt_toInt64 _) (z_lN (by decide)) (z_lN (by decide)) (fun b6 => ?_) (fun b6 => ?_))
  · skip
    refine AW.if_eq 12 68 dX10_thing_9 (by decide) rfl (fun h => absurd h (by decide)) (fun _ => ?_)
    refine AW.iload_n 13 dX10_thing_12 rfl rfl ?_
    refine AW.i2l 14 dX10_thing_13 rfl ?_
    refine AW.lconst 15 (lN 0) dX10_thing_14 rfl rfl ?_
    refine AW.iload_n 16 dX10_thing_15 rfl rfl ?_
    refine AW.iconst 17 (nI 2) dX10_thing_16 (by decide) rfl ?_
    refine AW.zicmp_ne 20 24 dX10_thing_17 (by decide) rfl rfl (by decide : (nI 2).toInt = 2) (fun b17 => ?_) (fun b17 => ?_)
    · skip
      refine AW.ldc2 27 (lN 11) dX10_thing_24 qX10_220 rfl ?_
      refine AW.cSi3 30 dX10_thing_27 kX10_131 (Nat.le_of_ble_eq_true rfl) rfl (C_in (Int32.toInt_toInt64 _) (z_lN (by decide)) (z_lN (by decide)) (fun b27 => ?_) (fun b27 => ?_))
      · skip
        refine AW.if_eq 33 68 dX10_thing_30 (by decide) rfl (fun h => absurd h (by decide)) (fun _ => ?_)
        refine AW.iload_n 34 dX10_thing_33 rfl rfl ?_
        refine AW.i2l 35 dX10_thing_34 rfl ?_
        refine AW.lconst 36 (lN 0) dX10_thing_35 rfl rfl ?_
        refine AW.iload_n 37 dX10_thing_36 rfl rfl ?_
        refine AW.zif_ne 40 46 dX10_thing_37 (by decide) rfl rfl (fun b37 => ?_) (fun b37 => ?_)
        · skip
          refine AW.iload_n 47 dX10_thing_46 rfl rfl ?_
          refine AW.iconst 48 (nI 1) dX10_thing_47 (by decide) rfl ?_
          refine AW.zicmp_ne 51 55 dX10_thing_48 (by decide) rfl rfl (by decide : (nI 1).toInt = 1) (fun b48 => ?_) (fun b48 => ?_)
          · skip
            refine AW.ldc2 58 (lN 7) dX10_thing_55 qX10_254 rfl ?_
            refine AW.cSi3 61 dX10_thing_58 kX10_131 (Nat.le_of_ble_eq_true rfl) rfl (C_in (Int32.toInt_toInt64 _) (z_lN (by decide)) (z_lN (by decide)) (fun b58 => ?_) (fun b58 => ?_))
            · skip
              refine AW.if_eq 64 68 dX10_thing_61 (by decide) rfl (fun h => absurd h (by decide)) (fun _ => ?_)
              refine AW.iconst 65 (nI 1) dX10_thing_64 (by decide) rfl ?_
              refine AW.goto 69 dX10_thing_65 (by decide) ?_
              refine AW.ist4 71 dX10_thing_69 (by decide) rfl rfl ?_
              refine AW.iload 73 dX10_thing_71 rfl rfl ?_
              refine AW.if_ne 76 78 dX10_thing_73 (by decide) rfl (fun _ => ?_) (fun h => absurd h (by decide))
              refine AW.iconst 79 (nI 0) dX10_thing_78 (by decide) rfl ?_
              refine AW.ist5 81 dX10_thing_79 (by decide) rfl rfl ?_
              have hg : z_tg k b n := by
                unfold z_tg z_tl z_nl; (repeat' split) <;> omega
              refine L_X10_thing ht ht2 (fun z => hh hg z) (fun z => ?_) t 0 (by omega) (fun j hj => absurd hj (by omega))
              refine AW.aload_n 133 dX10_thing_132 rfl rfl ?_
              refine AW.getI 136 dX10_thing_133 fX10_244 rfl (zI rfl rfl) rfl ?_
              refine AW.topi (nI t) ht ?_
              refine AW.bipush 138 (nI 6) dX10_thing_136 (by decide) rfl ?_
              refine AW.icmpN_ne 141 144 dX10_thing_138 (by decide) rfl (by omega) (by omega) (fun b138 => ?_) (fun b138 => ?_)
              · skip
                refine AW.aload_n 145 dX10_thing_144 rfl rfl ?_
                refine AW.getR 148 dX10_thing_145 fX10_99 rfl (zI rfl rfl) rfl rfl ?_
                refine AW.aload_n 149 dX10_thing_148 rfl rfl ?_
                refine AW.getI 152 dX10_thing_149 fX10_244 rfl (zI rfl rfl) rfl ?_
                refine AW.topi (nI t) ht ?_
                refine AW.iload_n 153 dX10_thing_152 rfl rfl ?_
                refine AW.iast 154 dX10_thing_153 (zA rfl rfl) rfl (by omega) (by decide) rfl ?_
                refine AW.aload_n 155 dX10_thing_154 rfl rfl ?_
                refine AW.getR 158 dX10_thing_155 fX10_102 rfl (zI rfl rfl) rfl rfl ?_
                refine AW.aload_n 159 dX10_thing_158 rfl rfl ?_
                refine AW.getI 162 dX10_thing_159 fX10_244 rfl (zI rfl rfl) rfl ?_
                refine AW.topi (nI t) ht ?_
                refine AW.iload_n 163 dX10_thing_162 rfl rfl ?_
                refine AW.iast 164 dX10_thing_163 (zA rfl rfl) rfl (by omega) (by decide) rfl ?_
                refine AW.aload_n 165 dX10_thing_164 rfl rfl ?_
                refine AW.getR 168 dX10_thing_165 fX10_105 rfl (zI rfl rfl) rfl rfl ?_
                refine AW.aload_n 169 dX10_thing_168 rfl rfl ?_
                refine AW.getI 172 dX10_thing_169 fX10_244 rfl (zI rfl rfl) rfl ?_
                refine AW.topi (nI t) ht ?_
                refine AW.iload_n 173 dX10_thing_172 rfl rfl ?_
                refine AW.iast 174 dX10_thing_173 (zA rfl rfl) rfl (by omega) (by decide) rfl ?_
                refine AW.aload_n 175 dX10_thing_174 rfl rfl ?_
                refine AW.dup 176 dX10_thing_175 rfl rfl ?_
                refine AW.getI 179 dX10_thing_176 fX10_244 rfl (zI rfl rfl) rfl ?_
                refine AW.topi (nI t) ht ?_
                refine AW.iconst 180 (nI 1) dX10_thing_179 (by decide) rfl ?_
                refine AW.iaddN 181 dX10_thing_180 rfl ?_
                refine AW.putI 184 .int dX10_thing_181 pX10_244 rfl (zI rfl rfl) rfl rfl rfl ?_
                refine AW.aload_n 185 dX10_thing_184 rfl rfl ?_
                refine AW.getI 188 dX10_thing_185 fX10_244 rfl (zI rfl rfl) rfl ?_
                refine AW.topi (nI (t + 1)) (by rw [z_st_at]; rfl) ?_
                refine AW.iconst 189 (nI 1) dX10_thing_188 (by decide) rfl ?_
                refine AW.isubN 190 dX10_thing_189 (by omega) rfl ?_
                refine AW.iret dX10_thing_190 .int rfl rfl rfl ⟨_, rfl, ?_⟩
                exact hok hg z (by omega)
              · skip
                refine AW.bipush 143 (-3) dX10_thing_141 (by decide) rfl ?_
                refine AW.iret dX10_thing_143 .int rfl rfl rfl ⟨_, rfl, ?_⟩
                exact hfull hg z (by omega)
            · skip
              refine AW.if_eq 64 68 dX10_thing_61 (by decide) rfl (fun _ => ?_) (fun h => absurd h (by decide))
              refine AW.iconst 69 (nI 0) dX10_thing_68 (by decide) rfl ?_
              refine AW.ist4 71 dX10_thing_69 (by decide) rfl rfl ?_
              refine AW.iload 73 dX10_thing_71 rfl rfl ?_
              refine AW.if_ne 76 78 dX10_thing_73 (by decide) rfl (fun h => absurd h (by decide)) (fun _ => ?_)
              refine AW.iconst 77 (-1) dX10_thing_76 (by decide) rfl ?_
              refine AW.iret dX10_thing_77 .int rfl rfl rfl ⟨_, rfl, ?_⟩
              exact hbad (fun z => by unfold z_tg z_tl z_nl at z; (repeat' split at z) <;> omega)
          · skip
            refine AW.lconst 52 (lN 0) dX10_thing_51 rfl rfl ?_
            refine AW.goto 58 dX10_thing_52 (by decide) ?_
            refine AW.cSi3 61 dX10_thing_58 kX10_131 (Nat.le_of_ble_eq_true rfl) rfl (C_in (Int32.toInt_toInt64 _) (z_lN (by decide)) (z_lN (by decide)) (fun b58 => ?_) (fun b58 => ?_))
            · skip
              refine AW.if_eq 64 68 dX10_thing_61 (by decide) rfl (fun h => absurd h (by decide)) (fun _ => ?_)
              refine AW.iconst 65 (nI 1) dX10_thing_64 (by decide) rfl ?_
              refine AW.goto 69 dX10_thing_65 (by decide) ?_
              refine AW.ist4 71 dX10_thing_69 (by decide) rfl rfl ?_
              refine AW.iload 73 dX10_thing_71 rfl rfl ?_
              refine AW.if_ne 76 78 dX10_thing_73 (by decide) rfl (fun _ => ?_) (fun h => absurd h (by decide))
              refine AW.iconst 79 (nI 0) dX10_thing_78 (by decide) rfl ?_
              refine AW.ist5 81 dX10_thing_79 (by decide) rfl rfl ?_
              have hg : z_tg k b n := by
                unfold z_tg z_tl z_nl; (repeat' split) <;> omega
              refine L_X10_thing ht ht2 (fun z => hh hg z) (fun z => ?_) t 0 (by omega) (fun j hj => absurd hj (by omega))
              refine AW.aload_n 133 dX10_thing_132 rfl rfl ?_
              refine AW.getI 136 dX10_thing_133 fX10_244 rfl (zI rfl rfl) rfl ?_
              refine AW.topi (nI t) ht ?_
              refine AW.bipush 138 (nI 6) dX10_thing_136 (by decide) rfl ?_
              refine AW.icmpN_ne 141 144 dX10_thing_138 (by decide) rfl (by omega) (by omega) (fun b138 => ?_) (fun b138 => ?_)
              · skip
                refine AW.aload_n 145 dX10_thing_144 rfl rfl ?_
                refine AW.getR 148 dX10_thing_145 fX10_99 rfl (zI rfl rfl) rfl rfl ?_
                refine AW.aload_n 149 dX10_thing_148 rfl rfl ?_
                refine AW.getI 152 dX10_thing_149 fX10_244 rfl (zI rfl rfl) rfl ?_
                refine AW.topi (nI t) ht ?_
                refine AW.iload_n 153 dX10_thing_152 rfl rfl ?_
                refine AW.iast 154 dX10_thing_153 (zA rfl rfl) rfl (by omega) (by decide) rfl ?_
                refine AW.aload_n 155 dX10_thing_154 rfl rfl ?_
                refine AW.getR 158 dX10_thing_155 fX10_102 rfl (zI rfl rfl) rfl rfl ?_
                refine AW.aload_n 159 dX10_thing_158 rfl rfl ?_
                refine AW.getI 162 dX10_thing_159 fX10_244 rfl (zI rfl rfl) rfl ?_
                refine AW.topi (nI t) ht ?_
                refine AW.iload_n 163 dX10_thing_162 rfl rfl ?_
                refine AW.iast 164 dX10_thing_163 (zA rfl rfl) rfl (by omega) (by decide) rfl ?_
                refine AW.aload_n 165 dX10_thing_164 rfl rfl ?_
                refine AW.getR 168 dX10_thing_165 fX10_105 rfl (zI rfl rfl) rfl rfl ?_
                refine AW.aload_n 169 dX10_thing_168 rfl rfl ?_
                refine AW.getI 172 dX10_thing_169 fX10_244 rfl (zI rfl rfl) rfl ?_
                refine AW.topi (nI t) ht ?_
                refine AW.iload_n 173 dX10_thing_172 rfl rfl ?_
                refine AW.iast 174 dX10_thing_173 (zA rfl rfl) rfl (by omega) (by decide) rfl ?_
                refine AW.aload_n 175 dX10_thing_174 rfl rfl ?_
                refine AW.dup 176 dX10_thing_175 rfl rfl ?_
                refine AW.getI 179 dX10_thing_176 fX10_244 rfl (zI rfl rfl) rfl ?_
                refine AW.topi (nI t) ht ?_
                refine AW.iconst 180 (nI 1) dX10_thing_179 (by decide) rfl ?_
                refine AW.iaddN 181 dX10_thing_180 rfl ?_
                refine AW.putI 184 .int dX10_thing_181 pX10_244 rfl (zI rfl rfl) rfl rfl rfl ?_
                refine AW.aload_n 185 dX10_thing_184 rfl rfl ?_
                refine AW.getI 188 dX10_thing_185 fX10_244 rfl (zI rfl rfl) rfl ?_
                refine AW.topi (nI (t + 1)) (by rw [z_st_at]; rfl) ?_
                refine AW.iconst 189 (nI 1) dX10_thing_188 (by decide) rfl ?_
                refine AW.isubN 190 dX10_thing_189 (by omega) rfl ?_
                refine AW.iret dX10_thing_190 .int rfl rfl rfl ⟨_, rfl, ?_⟩
                exact hok hg z (by omega)
              · skip
                refine AW.bipush 143 (-3) dX10_thing_141 (by decide) rfl ?_
                refine AW.iret dX10_thing_143 .int rfl rfl rfl ⟨_, rfl, ?_⟩
                exact hfull hg z (by omega)
            · skip
              refine AW.if_eq 64 68 dX10_thing_61 (by decide) rfl (fun _ => ?_) (fun h => absurd h (by decide))
              refine AW.iconst 69 (nI 0) dX10_thing_68 (by decide) rfl ?_
              refine AW.ist4 71 dX10_thing_69 (by decide) rfl rfl ?_
              refine AW.iload 73 dX10_thing_71 rfl rfl ?_
              refine AW.if_ne 76 78 dX10_thing_73 (by decide) rfl (fun h => absurd h (by decide)) (fun _ => ?_)
              refine AW.iconst 77 (-1) dX10_thing_76 (by decide) rfl ?_
              refine AW.iret dX10_thing_77 .int rfl rfl rfl ⟨_, rfl, ?_⟩
              exact hbad (fun z => by unfold z_tg z_tl z_nl at z; (repeat' split at z) <;> omega)
        · skip
          refine AW.ldc2 43 (lN 3) dX10_thing_40 qX10_207 rfl ?_
          refine AW.goto 58 dX10_thing_43 (by decide) ?_
          refine AW.cSi3 61 dX10_thing_58 kX10_131 (Nat.le_of_ble_eq_true rfl) rfl (C_in (Int32.toInt_toInt64 _) (z_lN (by decide)) (z_lN (by decide)) (fun b58 => ?_) (fun b58 => ?_))
          · skip
            refine AW.if_eq 64 68 dX10_thing_61 (by decide) rfl (fun h => absurd h (by decide)) (fun _ => ?_)
            refine AW.iconst 65 (nI 1) dX10_thing_64 (by decide) rfl ?_
            refine AW.goto 69 dX10_thing_65 (by decide) ?_
            refine AW.ist4 71 dX10_thing_69 (by decide) rfl rfl ?_
            refine AW.iload 73 dX10_thing_71 rfl rfl ?_
            refine AW.if_ne 76 78 dX10_thing_73 (by decide) rfl (fun _ => ?_) (fun h => absurd h (by decide))
            refine AW.iconst 79 (nI 0) dX10_thing_78 (by decide) rfl ?_
            refine AW.ist5 81 dX10_thing_79 (by decide) rfl rfl ?_
            have hg : z_tg k b n := by
              unfold z_tg z_tl z_nl; (repeat' split) <;> omega
            refine L_X10_thing ht ht2 (fun z => hh hg z) (fun z => ?_) t 0 (by omega) (fun j hj => absurd hj (by omega))
            refine AW.aload_n 133 dX10_thing_132 rfl rfl ?_
            refine AW.getI 136 dX10_thing_133 fX10_244 rfl (zI rfl rfl) rfl ?_
            refine AW.topi (nI t) ht ?_
            refine AW.bipush 138 (nI 6) dX10_thing_136 (by decide) rfl ?_
            refine AW.icmpN_ne 141 144 dX10_thing_138 (by decide) rfl (by omega) (by omega) (fun b138 => ?_) (fun b138 => ?_)
            · skip
              refine AW.aload_n 145 dX10_thing_144 rfl rfl ?_
              refine AW.getR 148 dX10_thing_145 fX10_99 rfl (zI rfl rfl) rfl rfl ?_
              refine AW.aload_n 149 dX10_thing_148 rfl rfl ?_
              refine AW.getI 152 dX10_thing_149 fX10_244 rfl (zI rfl rfl) rfl ?_
              refine AW.topi (nI t) ht ?_
              refine AW.iload_n 153 dX10_thing_152 rfl rfl ?_
              refine AW.iast 154 dX10_thing_153 (zA rfl rfl) rfl (by omega) (by decide) rfl ?_
              refine AW.aload_n 155 dX10_thing_154 rfl rfl ?_
              refine AW.getR 158 dX10_thing_155 fX10_102 rfl (zI rfl rfl) rfl rfl ?_
              refine AW.aload_n 159 dX10_thing_158 rfl rfl ?_
              refine AW.getI 162 dX10_thing_159 fX10_244 rfl (zI rfl rfl) rfl ?_
              refine AW.topi (nI t) ht ?_
              refine AW.iload_n 163 dX10_thing_162 rfl rfl ?_
              refine AW.iast 164 dX10_thing_163 (zA rfl rfl) rfl (by omega) (by decide) rfl ?_
              refine AW.aload_n 165 dX10_thing_164 rfl rfl ?_
              refine AW.getR 168 dX10_thing_165 fX10_105 rfl (zI rfl rfl) rfl rfl ?_
              refine AW.aload_n 169 dX10_thing_168 rfl rfl ?_
              refine AW.getI 172 dX10_thing_169 fX10_244 rfl (zI rfl rfl) rfl ?_
              refine AW.topi (nI t) ht ?_
              refine AW.iload_n 173 dX10_thing_172 rfl rfl ?_
              refine AW.iast 174 dX10_thing_173 (zA rfl rfl) rfl (by omega) (by decide) rfl ?_
              refine AW.aload_n 175 dX10_thing_174 rfl rfl ?_
              refine AW.dup 176 dX10_thing_175 rfl rfl ?_
              refine AW.getI 179 dX10_thing_176 fX10_244 rfl (zI rfl rfl) rfl ?_
              refine AW.topi (nI t) ht ?_
              refine AW.iconst 180 (nI 1) dX10_thing_179 (by decide) rfl ?_
              refine AW.iaddN 181 dX10_thing_180 rfl ?_
              refine AW.putI 184 .int dX10_thing_181 pX10_244 rfl (zI rfl rfl) rfl rfl rfl ?_
              refine AW.aload_n 185 dX10_thing_184 rfl rfl ?_
              refine AW.getI 188 dX10_thing_185 fX10_244 rfl (zI rfl rfl) rfl ?_
              refine AW.topi (nI (t + 1)) (by rw [z_st_at]; rfl) ?_
              refine AW.iconst 189 (nI 1) dX10_thing_188 (by decide) rfl ?_
              refine AW.isubN 190 dX10_thing_189 (by omega) rfl ?_
              refine AW.iret dX10_thing_190 .int rfl rfl rfl ⟨_, rfl, ?_⟩
              exact hok hg z (by omega)
            · skip
              refine AW.bipush 143 (-3) dX10_thing_141 (by decide) rfl ?_
              refine AW.iret dX10_thing_143 .int rfl rfl rfl ⟨_, rfl, ?_⟩
              exact hfull hg z (by omega)
          · skip
            refine AW.if_eq 64 68 dX10_thing_61 (by decide) rfl (fun _ => ?_) (fun h => absurd h (by decide))
            refine AW.iconst 69 (nI 0) dX10_thing_68 (by decide) rfl ?_
            refine AW.ist4 71 dX10_thing_69 (by decide) rfl rfl ?_
            refine AW.iload 73 dX10_thing_71 rfl rfl ?_
            refine AW.if_ne 76 78 dX10_thing_73 (by decide) rfl (fun h => absurd h (by decide)) (fun _ => ?_)
            refine AW.iconst 77 (-1) dX10_thing_76 (by decide) rfl ?_
            refine AW.iret dX10_thing_77 .int rfl rfl rfl ⟨_, rfl, ?_⟩
            exact hbad (fun z => by unfold z_tg z_tl z_nl at z; (repeat' split at z) <;> omega)
      · skip
        refine AW.if_eq 33 68 dX10_thing_30 (by decide) rfl (fun _ => ?_) (fun h => absurd h (by decide))
        refine AW.iconst 69 (nI 0) dX10_thing_68 (by decide) rfl ?_
        refine AW.ist4 71 dX10_thing_69 (by decide) rfl rfl ?_
        refine AW.iload 73 dX10_thing_71 rfl rfl ?_
        refine AW.if_ne 76 78 dX10_thing_73 (by decide) rfl (fun h => absurd h (by decide)) (fun _ => ?_)
        refine AW.iconst 77 (-1) dX10_thing_76 (by decide) rfl ?_
        refine AW.iret dX10_thing_77 .int rfl rfl rfl ⟨_, rfl, ?_⟩
        exact hbad (fun z => by unfold z_tg z_tl z_nl at z; (repeat' split at z) <;> omega)
    · skip
      refine AW.lconst 21 (lN 0) dX10_thing_20 rfl rfl ?_
      refine AW.goto 27 dX10_thing_21 (by decide) ?_
      refine AW.cSi3 30 dX10_thing_27 kX10_131 (Nat.le_of_ble_eq_true rfl) rfl (C_in (Int32.toInt_toInt64 _) (z_lN (by decide)) (z_lN (by decide)) (fun b27 => ?_) (fun b27 => ?_))
      · skip
        refine AW.if_eq 33 68 dX10_thing_30 (by decide) rfl (fun h => absurd h (by decide)) (fun _ => ?_)
        refine AW.iload_n 34 dX10_thing_33 rfl rfl ?_
        refine AW.i2l 35 dX10_thing_34 rfl ?_
        refine AW.lconst 36 (lN 0) dX10_thing_35 rfl rfl ?_
        refine AW.iload_n 37 dX10_thing_36 rfl rfl ?_
        refine AW.zif_ne 40 46 dX10_thing_37 (by decide) rfl rfl (fun b37 => ?_) (fun b37 => ?_)
        · skip
          refine AW.iload_n 47 dX10_thing_46 rfl rfl ?_
          refine AW.iconst 48 (nI 1) dX10_thing_47 (by decide) rfl ?_
          refine AW.zicmp_ne 51 55 dX10_thing_48 (by decide) rfl rfl (by decide : (nI 1).toInt = 1) (fun b48 => ?_) (fun b48 => ?_)
          · skip
            refine AW.ldc2 58 (lN 7) dX10_thing_55 qX10_254 rfl ?_
            refine AW.cSi3 61 dX10_thing_58 kX10_131 (Nat.le_of_ble_eq_true rfl) rfl (C_in (Int32.toInt_toInt64 _) (z_lN (by decide)) (z_lN (by decide)) (fun b58 => ?_) (fun b58 => ?_))
            · skip
              refine AW.if_eq 64 68 dX10_thing_61 (by decide) rfl (fun h => absurd h (by decide)) (fun _ => ?_)
              refine AW.iconst 65 (nI 1) dX10_thing_64 (by decide) rfl ?_
              refine AW.goto 69 dX10_thing_65 (by decide) ?_
              refine AW.ist4 71 dX10_thing_69 (by decide) rfl rfl ?_
              refine AW.iload 73 dX10_thing_71 rfl rfl ?_
              refine AW.if_ne 76 78 dX10_thing_73 (by decide) rfl (fun _ => ?_) (fun h => absurd h (by decide))
              refine AW.iconst 79 (nI 0) dX10_thing_78 (by decide) rfl ?_
              refine AW.ist5 81 dX10_thing_79 (by decide) rfl rfl ?_
              have hg : z_tg k b n := by
                unfold z_tg z_tl z_nl; (repeat' split) <;> omega
              refine L_X10_thing ht ht2 (fun z => hh hg z) (fun z => ?_) t 0 (by omega) (fun j hj => absurd hj (by omega))
              refine AW.aload_n 133 dX10_thing_132 rfl rfl ?_
              refine AW.getI 136 dX10_thing_133 fX10_244 rfl (zI rfl rfl) rfl ?_
              refine AW.topi (nI t) ht ?_
              refine AW.bipush 138 (nI 6) dX10_thing_136 (by decide) rfl ?_
              refine AW.icmpN_ne 141 144 dX10_thing_138 (by decide) rfl (by omega) (by omega) (fun b138 => ?_) (fun b138 => ?_)
              · skip
                refine AW.aload_n 145 dX10_thing_144 rfl rfl ?_
                refine AW.getR 148 dX10_thing_145 fX10_99 rfl (zI rfl rfl) rfl rfl ?_
                refine AW.aload_n 149 dX10_thing_148 rfl rfl ?_
                refine AW.getI 152 dX10_thing_149 fX10_244 rfl (zI rfl rfl) rfl ?_
                refine AW.topi (nI t) ht ?_
                refine AW.iload_n 153 dX10_thing_152 rfl rfl ?_
                refine AW.iast 154 dX10_thing_153 (zA rfl rfl) rfl (by omega) (by decide) rfl ?_
                refine AW.aload_n 155 dX10_thing_154 rfl rfl ?_
                refine AW.getR 158 dX10_thing_155 fX10_102 rfl (zI rfl rfl) rfl rfl ?_
                refine AW.aload_n 159 dX10_thing_158 rfl rfl ?_
                refine AW.getI 162 dX10_thing_159 fX10_244 rfl (zI rfl rfl) rfl ?_
                refine AW.topi (nI t) ht ?_
                refine AW.iload_n 163 dX10_thing_162 rfl rfl ?_
                refine AW.iast 164 dX10_thing_163 (zA rfl rfl) rfl (by omega) (by decide) rfl ?_
                refine AW.aload_n 165 dX10_thing_164 rfl rfl ?_
                refine AW.getR 168 dX10_thing_165 fX10_105 rfl (zI rfl rfl) rfl rfl ?_
                refine AW.aload_n 169 dX10_thing_168 rfl rfl ?_
                refine AW.getI 172 dX10_thing_169 fX10_244 rfl (zI rfl rfl) rfl ?_
                refine AW.topi (nI t) ht ?_
                refine AW.iload_n 173 dX10_thing_172 rfl rfl ?_
                refine AW.iast 174 dX10_thing_173 (zA rfl rfl) rfl (by omega) (by decide) rfl ?_
                refine AW.aload_n 175 dX10_thing_174 rfl rfl ?_
                refine AW.dup 176 dX10_thing_175 rfl rfl ?_
                refine AW.getI 179 dX10_thing_176 fX10_244 rfl (zI rfl rfl) rfl ?_
                refine AW.topi (nI t) ht ?_
                refine AW.iconst 180 (nI 1) dX10_thing_179 (by decide) rfl ?_
                refine AW.iaddN 181 dX10_thing_180 rfl ?_
                refine AW.putI 184 .int dX10_thing_181 pX10_244 rfl (zI rfl rfl) rfl rfl rfl ?_
                refine AW.aload_n 185 dX10_thing_184 rfl rfl ?_
                refine AW.getI 188 dX10_thing_185 fX10_244 rfl (zI rfl rfl) rfl ?_
                refine AW.topi (nI (t + 1)) (by rw [z_st_at]; rfl) ?_
                refine AW.iconst 189 (nI 1) dX10_thing_188 (by decide) rfl ?_
                refine AW.isubN 190 dX10_thing_189 (by omega) rfl ?_
                refine AW.iret dX10_thing_190 .int rfl rfl rfl ⟨_, rfl, ?_⟩
                exact hok hg z (by omega)
              · skip
                refine AW.bipush 143 (-3) dX10_thing_141 (by decide) rfl ?_
                refine AW.iret dX10_thing_143 .int rfl rfl rfl ⟨_, rfl, ?_⟩
                exact hfull hg z (by omega)
            · skip
              refine AW.if_eq 64 68 dX10_thing_61 (by decide) rfl (fun _ => ?_) (fun h => absurd h (by decide))
              refine AW.iconst 69 (nI 0) dX10_thing_68 (by decide) rfl ?_
              refine AW.ist4 71 dX10_thing_69 (by decide) rfl rfl ?_
              refine AW.iload 73 dX10_thing_71 rfl rfl ?_
              refine AW.if_ne 76 78 dX10_thing_73 (by decide) rfl (fun h => absurd h (by decide)) (fun _ => ?_)
              refine AW.iconst 77 (-1) dX10_thing_76 (by decide) rfl ?_
              refine AW.iret dX10_thing_77 .int rfl rfl rfl ⟨_, rfl, ?_⟩
              exact hbad (fun z => by unfold z_tg z_tl z_nl at z; (repeat' split at z) <;> omega)
          · skip
            refine AW.lconst 52 (lN 0) dX10_thing_51 rfl rfl ?_
            refine AW.goto 58 dX10_thing_52 (by decide) ?_
            refine AW.cSi3 61 dX10_thing_58 kX10_131 (Nat.le_of_ble_eq_true rfl) rfl (C_in (Int32.toInt_toInt64 _) (z_lN (by decide)) (z_lN (by decide)) (fun b58 => ?_) (fun b58 => ?_))
            · skip
              refine AW.if_eq 64 68 dX10_thing_61 (by decide) rfl (fun h => absurd h (by decide)) (fun _ => ?_)
              refine AW.iconst 65 (nI 1) dX10_thing_64 (by decide) rfl ?_
              refine AW.goto 69 dX10_thing_65 (by decide) ?_
              refine AW.ist4 71 dX10_thing_69 (by decide) rfl rfl ?_
              refine AW.iload 73 dX10_thing_71 rfl rfl ?_
              refine AW.if_ne 76 78 dX10_thing_73 (by decide) rfl (fun _ => ?_) (fun h => absurd h (by decide))
              refine AW.iconst 79 (nI 0) dX10_thing_78 (by decide) rfl ?_
              refine AW.ist5 81 dX10_thing_79 (by decide) rfl rfl ?_
              have hg : z_tg k b n := by
                unfold z_tg z_tl z_nl; (repeat' split) <;> omega
              refine L_X10_thing ht ht2 (fun z => hh hg z) (fun z => ?_) t 0 (by omega) (fun j hj => absurd hj (by omega))
              refine AW.aload_n 133 dX10_thing_132 rfl rfl ?_
              refine AW.getI 136 dX10_thing_133 fX10_244 rfl (zI rfl rfl) rfl ?_
              refine AW.topi (nI t) ht ?_
              refine AW.bipush 138 (nI 6) dX10_thing_136 (by decide) rfl ?_
              refine AW.icmpN_ne 141 144 dX10_thing_138 (by decide) rfl (by omega) (by omega) (fun b138 => ?_) (fun b138 => ?_)
              · skip
                refine AW.aload_n 145 dX10_thing_144 rfl rfl ?_
                refine AW.getR 148 dX10_thing_145 fX10_99 rfl (zI rfl rfl) rfl rfl ?_
                refine AW.aload_n 149 dX10_thing_148 rfl rfl ?_
                refine AW.getI 152 dX10_thing_149 fX10_244 rfl (zI rfl rfl) rfl ?_
                refine AW.topi (nI t) ht ?_
                refine AW.iload_n 153 dX10_thing_152 rfl rfl ?_
                refine AW.iast 154 dX10_thing_153 (zA rfl rfl) rfl (by omega) (by decide) rfl ?_
                refine AW.aload_n 155 dX10_thing_154 rfl rfl ?_
                refine AW.getR 158 dX10_thing_155 fX10_102 rfl (zI rfl rfl) rfl rfl ?_
                refine AW.aload_n 159 dX10_thing_158 rfl rfl ?_
                refine AW.getI 162 dX10_thing_159 fX10_244 rfl (zI rfl rfl) rfl ?_
                refine AW.topi (nI t) ht ?_
                refine AW.iload_n 163 dX10_thing_162 rfl rfl ?_
                refine AW.iast 164 dX10_thing_163 (zA rfl rfl) rfl (by omega) (by decide) rfl ?_
                refine AW.aload_n 165 dX10_thing_164 rfl rfl ?_
                refine AW.getR 168 dX10_thing_165 fX10_105 rfl (zI rfl rfl) rfl rfl ?_
                refine AW.aload_n 169 dX10_thing_168 rfl rfl ?_
                refine AW.getI 172 dX10_thing_169 fX10_244 rfl (zI rfl rfl) rfl ?_
                refine AW.topi (nI t) ht ?_
                refine AW.iload_n 173 dX10_thing_172 rfl rfl ?_
                refine AW.iast 174 dX10_thing_173 (zA rfl rfl) rfl (by omega) (by decide) rfl ?_
                refine AW.aload_n 175 dX10_thing_174 rfl rfl ?_
                refine AW.dup 176 dX10_thing_175 rfl rfl ?_
                refine AW.getI 179 dX10_thing_176 fX10_244 rfl (zI rfl rfl) rfl ?_
                refine AW.topi (nI t) ht ?_
                refine AW.iconst 180 (nI 1) dX10_thing_179 (by decide) rfl ?_
                refine AW.iaddN 181 dX10_thing_180 rfl ?_
                refine AW.putI 184 .int dX10_thing_181 pX10_244 rfl (zI rfl rfl) rfl rfl rfl ?_
                refine AW.aload_n 185 dX10_thing_184 rfl rfl ?_
                refine AW.getI 188 dX10_thing_185 fX10_244 rfl (zI rfl rfl) rfl ?_
                refine AW.topi (nI (t + 1)) (by rw [z_st_at]; rfl) ?_
                refine AW.iconst 189 (nI 1) dX10_thing_188 (by decide) rfl ?_
                refine AW.isubN 190 dX10_thing_189 (by omega) rfl ?_
                refine AW.iret dX10_thing_190 .int rfl rfl rfl ⟨_, rfl, ?_⟩
                exact hok hg z (by omega)
              · skip
                refine AW.bipush 143 (-3) dX10_thing_141 (by decide) rfl ?_
                refine AW.iret dX10_thing_143 .int rfl rfl rfl ⟨_, rfl, ?_⟩
                exact hfull hg z (by omega)
            · skip
              refine AW.if_eq 64 68 dX10_thing_61 (by decide) rfl (fun _ => ?_) (fun h => absurd h (by decide))
              refine AW.iconst 69 (nI 0) dX10_thing_68 (by decide) rfl ?_
              refine AW.ist4 71 dX10_thing_69 (by decide) rfl rfl ?_
              refine AW.iload 73 dX10_thing_71 rfl rfl ?_
              refine AW.if_ne 76 78 dX10_thing_73 (by decide) rfl (fun h => absurd h (by decide)) (fun _ => ?_)
              refine AW.iconst 77 (-1) dX10_thing_76 (by decide) rfl ?_
              refine AW.iret dX10_thing_77 .int rfl rfl rfl ⟨_, rfl, ?_⟩
              exact hbad (fun z => by unfold z_tg z_tl z_nl at z; (repeat' split at z) <;> omega)
        · skip
          refine AW.ldc2 43 (lN 3) dX10_thing_40 qX10_207 rfl ?_
          refine AW.goto 58 dX10_thing_43 (by decide) ?_
          refine AW.cSi3 61 dX10_thing_58 kX10_131 (Nat.le_of_ble_eq_true rfl) rfl (C_in (Int32.toInt_toInt64 _) (z_lN (by decide)) (z_lN (by decide)) (fun b58 => ?_) (fun b58 => ?_))
          · skip
            refine AW.if_eq 64 68 dX10_thing_61 (by decide) rfl (fun h => absurd h (by decide)) (fun _ => ?_)
            refine AW.iconst 65 (nI 1) dX10_thing_64 (by decide) rfl ?_
            refine AW.goto 69 dX10_thing_65 (by decide) ?_
            refine AW.ist4 71 dX10_thing_69 (by decide) rfl rfl ?_
            refine AW.iload 73 dX10_thing_71 rfl rfl ?_
            refine AW.if_ne 76 78 dX10_thing_73 (by decide) rfl (fun _ => ?_) (fun h => absurd h (by decide))
            refine AW.iconst 79 (nI 0) dX10_thing_78 (by decide) rfl ?_
            refine AW.ist5 81 dX10_thing_79 (by decide) rfl rfl ?_
            have hg : z_tg k b n := by
              unfold z_tg z_tl z_nl; (repeat' split) <;> omega
            refine L_X10_thing ht ht2 (fun z => hh hg z) (fun z => ?_) t 0 (by omega) (fun j hj => absurd hj (by omega))
            refine AW.aload_n 133 dX10_thing_132 rfl rfl ?_
            refine AW.getI 136 dX10_thing_133 fX10_244 rfl (zI rfl rfl) rfl ?_
            refine AW.topi (nI t) ht ?_
            refine AW.bipush 138 (nI 6) dX10_thing_136 (by decide) rfl ?_
            refine AW.icmpN_ne 141 144 dX10_thing_138 (by decide) rfl (by omega) (by omega) (fun b138 => ?_) (fun b138 => ?_)
            · skip
              refine AW.aload_n 145 dX10_thing_144 rfl rfl ?_
              refine AW.getR 148 dX10_thing_145 fX10_99 rfl (zI rfl rfl) rfl rfl ?_
              refine AW.aload_n 149 dX10_thing_148 rfl rfl ?_
              refine AW.getI 152 dX10_thing_149 fX10_244 rfl (zI rfl rfl) rfl ?_
              refine AW.topi (nI t) ht ?_
              refine AW.iload_n 153 dX10_thing_152 rfl rfl ?_
              refine AW.iast 154 dX10_thing_153 (zA rfl rfl) rfl (by omega) (by decide) rfl ?_
              refine AW.aload_n 155 dX10_thing_154 rfl rfl ?_
              refine AW.getR 158 dX10_thing_155 fX10_102 rfl (zI rfl rfl) rfl rfl ?_
              refine AW.aload_n 159 dX10_thing_158 rfl rfl ?_
              refine AW.getI 162 dX10_thing_159 fX10_244 rfl (zI rfl rfl) rfl ?_
              refine AW.topi (nI t) ht ?_
              refine AW.iload_n 163 dX10_thing_162 rfl rfl ?_
              refine AW.iast 164 dX10_thing_163 (zA rfl rfl) rfl (by omega) (by decide) rfl ?_
              refine AW.aload_n 165 dX10_thing_164 rfl rfl ?_
              refine AW.getR 168 dX10_thing_165 fX10_105 rfl (zI rfl rfl) rfl rfl ?_
              refine AW.aload_n 169 dX10_thing_168 rfl rfl ?_
              refine AW.getI 172 dX10_thing_169 fX10_244 rfl (zI rfl rfl) rfl ?_
              refine AW.topi (nI t) ht ?_
              refine AW.iload_n 173 dX10_thing_172 rfl rfl ?_
              refine AW.iast 174 dX10_thing_173 (zA rfl rfl) rfl (by omega) (by decide) rfl ?_
              refine AW.aload_n 175 dX10_thing_174 rfl rfl ?_
              refine AW.dup 176 dX10_thing_175 rfl rfl ?_
              refine AW.getI 179 dX10_thing_176 fX10_244 rfl (zI rfl rfl) rfl ?_
              refine AW.topi (nI t) ht ?_
              refine AW.iconst 180 (nI 1) dX10_thing_179 (by decide) rfl ?_
              refine AW.iaddN 181 dX10_thing_180 rfl ?_
              refine AW.putI 184 .int dX10_thing_181 pX10_244 rfl (zI rfl rfl) rfl rfl rfl ?_
              refine AW.aload_n 185 dX10_thing_184 rfl rfl ?_
              refine AW.getI 188 dX10_thing_185 fX10_244 rfl (zI rfl rfl) rfl ?_
              refine AW.topi (nI (t + 1)) (by rw [z_st_at]; rfl) ?_
              refine AW.iconst 189 (nI 1) dX10_thing_188 (by decide) rfl ?_
              refine AW.isubN 190 dX10_thing_189 (by omega) rfl ?_
              refine AW.iret dX10_thing_190 .int rfl rfl rfl ⟨_, rfl, ?_⟩
              exact hok hg z (by omega)
            · skip
              refine AW.bipush 143 (-3) dX10_thing_141 (by decide) rfl ?_
              refine AW.iret dX10_thing_143 .int rfl rfl rfl ⟨_, rfl, ?_⟩
              exact hfull hg z (by omega)
          · skip
            refine AW.if_eq 64 68 dX10_thing_61 (by decide) rfl (fun _ => ?_) (fun h => absurd h (by decide))
            refine AW.iconst 69 (nI 0) dX10_thing_68 (by decide) rfl ?_
            refine AW.ist4 71 dX10_thing_69 (by decide) rfl rfl ?_
            refine AW.iload 73 dX10_thing_71 rfl rfl ?_
            refine AW.if_ne 76 78 dX10_thing_73 (by decide) rfl (fun h => absurd h (by decide)) (fun _ => ?_)
            refine AW.iconst 77 (-1) dX10_thing_76 (by decide) rfl ?_
            refine AW.iret dX10_thing_77 .int rfl rfl rfl ⟨_, rfl, ?_⟩
            exact hbad (fun z => by unfold z_tg z_tl z_nl at z; (repeat' split at z) <;> omega)
      · skip
        refine AW.if_eq 33 68 dX10_thing_30 (by decide) rfl (fun _ => ?_) (fun h => absurd h (by decide))
        refine AW.iconst 69 (nI 0) dX10_thing_68 (by decide) rfl ?_
        refine AW.ist4 71 dX10_thing_69 (by decide) rfl rfl ?_
        refine AW.iload 73 dX10_thing_71 rfl rfl ?_
        refine AW.if_ne 76 78 dX10_thing_73 (by decide) rfl (fun h => absurd h (by decide)) (fun _ => ?_)
        refine AW.iconst 77 (-1) dX10_thing_76 (by decide) rfl ?_
        refine AW.iret dX10_thing_77 .int rfl rfl rfl ⟨_, rfl, ?_⟩
        exact hbad (fun z => by unfold z_tg z_tl z_nl at z; (repeat' split at z) <;> omega)
  · skip
    refine AW.if_eq 12 68 dX10_thing_9 (by decide) rfl (fun _ => ?_) (fun h => absurd h (by decide))
    refine AW.iconst 69 (nI 0) dX10_thing_68 (by decide) rfl ?_
    refine AW.ist4 71 dX10_thing_69 (by decide) rfl rfl ?_
    refine AW.iload 73 dX10_thing_71 rfl rfl ?_
    refine AW.if_ne 76 78 dX10_thing_73 (by decide) rfl (fun h => absurd h (by decide)) (fun _ => ?_)
    refine AW.iconst 77 (-1) dX10_thing_76 (by decide) rfl ?_
    refine AW.iret dX10_thing_77 .int rfl rfl rfl ⟨_, rfl, ?_⟩
    exact hbad (fun z => by unfold z_tg z_tl z_nl at z; (repeat' split at z) <;> omega)
theorem L_X7_has (ht : M 83 3 = nI t) (ht2 : t ≤ 6) {k b n : Int32} {Q : Int32 → zS → zM → Prop} (h1 : (∃ i, i < t ∧ z_th M 84 85 86 k b n i) → Q (nI 1) (ZS m0 m1 md) M) (h0 : (¬ ∃ i, i < t ∧ z_th M 84 85 86 k b n i) → Q (nI 0) (ZS m0 m1 md) M) :
    ∀ (q i : Nat), i + q = t → (∀ j, j < i → ¬ z_th M 84 85 86 k b n j) → AW l g RX7 cX7_has 5 (some .boolean) false d 0 0 3 [some (.ref 83), some (.int k), some (.int b), some (.int n), some (.int (nI i))] [] (ZS m0 m1 md) M (z_Qi Q) := by
  intro q
  induction q with
  | zero =>
    intro i hi hn
    have hi : i = t := by omega
    subst hi
    refine AW.iload 5 dX7_has_3 rfl rfl ?_
    refine AW.aload_n 6 dX7_has_5 rfl rfl ?_
    refine AW.getI 9 dX7_has_6 fX7_21 rfl (zI rfl rfl) rfl ?_
    refine AW.topi (nI i) ht ?_
    refine AW.icmpN_ge 12 53 dX7_has_9 (by decide) rfl (by omega) (by omega) (fun b9 => ?_) (fun b9 => absurd b9 (by omega))
    refine AW.iconst 54 (nI 0) dX7_has_53 (by decide) rfl ?_
    refine AW.iret dX7_has_54 .boolean rfl rfl rfl ⟨_, rfl, ?_⟩
    exact h0 (fun z => by obtain ⟨j, h1, h2⟩ := z; exact hn j h1 h2)
  | succ q ih =>
    intro i hi hn
    have nx : ¬ z_th M 84 85 86 k b n i → ∀ j, j < i + 1 → ¬ z_th M 84 85 86 k b n j := fun h j hj => by
      rcases Nat.lt_or_ge j i with q | q
      · exact hn j q
      · have : j = i := by omega
        subst this; exact h
    refine AW.iload 5 dX7_has_3 rfl rfl ?_
    refine AW.aload_n 6 dX7_has_5 rfl rfl ?_
    refine AW.getI 9 dX7_has_6 fX7_21 rfl (zI rfl rfl) rfl ?_
    refine AW.topi (nI t) ht ?_
    refine AW.icmpN_ge 12 53 dX7_has_9 (by decide) rfl (by omega) (by omega) (fun b9 => absurd b9 (by omega)) (fun b9 => ?_)
    refine AW.aload_n 13 dX7_has_12 rfl rfl ?_
    refine AW.getR 16 dX7_has_13 fX7_9 rfl (zI rfl rfl) rfl rfl ?_
    refine AW.iload 18 dX7_has_16 rfl rfl ?_
    refine AW.iald 19 dX7_has_18 (zA rfl rfl) rfl (by omega) (by decide) rfl ?_
    refine AW.iload_n 20 dX7_has_19 rfl rfl ?_
    refine AW.zicmp_ne 23 47 dX7_has_20 (by decide) rfl rfl rfl (fun b20 => ?_) (fun b20 => ?_)
    · skip
      refine AW.iinc4 50 _ dX7_has_47 (z_inc1 _) (by decide) rfl rfl ?_
      refine AW.goto 3 dX7_has_50 (by decide) ?_
      exact ih (i + 1) (by omega) (nx (fun z => by unfold z_th at z; first | exact b20 z.1 | exact b31 z.2.1 | exact b42 z.2.2))
    · skip
      refine AW.aload_n 24 dX7_has_23 rfl rfl ?_
      refine AW.getR 27 dX7_has_24 fX7_15 rfl (zI rfl rfl) rfl rfl ?_
      refine AW.iload 29 dX7_has_27 rfl rfl ?_
      refine AW.iald 30 dX7_has_29 (zA rfl rfl) rfl (by omega) (by decide) rfl ?_
      refine AW.iload_n 31 dX7_has_30 rfl rfl ?_
      refine AW.zicmp_ne 34 47 dX7_has_31 (by decide) rfl rfl rfl (fun b31 => ?_) (fun b31 => ?_)
      · skip
        refine AW.iinc4 50 _ dX7_has_47 (z_inc1 _) (by decide) rfl rfl ?_
        refine AW.goto 3 dX7_has_50 (by decide) ?_
        exact ih (i + 1) (by omega) (nx (fun z => by unfold z_th at z; first | exact b20 z.1 | exact b31 z.2.1 | exact b42 z.2.2))
      · skip
        refine AW.aload_n 35 dX7_has_34 rfl rfl ?_
        refine AW.getR 38 dX7_has_35 fX7_18 rfl (zI rfl rfl) rfl rfl ?_
        refine AW.iload 40 dX7_has_38 rfl rfl ?_
        refine AW.iald 41 dX7_has_40 (zA rfl rfl) rfl (by omega) (by decide) rfl ?_
        refine AW.iload_n 42 dX7_has_41 rfl rfl ?_
        refine AW.zicmp_ne 45 47 dX7_has_42 (by decide) rfl rfl rfl (fun b42 => ?_) (fun b42 => ?_)
        · skip
          refine AW.iinc4 50 _ dX7_has_47 (z_inc1 _) (by decide) rfl rfl ?_
          refine AW.goto 3 dX7_has_50 (by decide) ?_
          exact ih (i + 1) (by omega) (nx (fun z => by unfold z_th at z; first | exact b20 z.1 | exact b31 z.2.1 | exact b42 z.2.2))
        · skip
          refine AW.iconst 46 (nI 1) dX7_has_45 (by decide) rfl ?_
          refine AW.iret dX7_has_46 .boolean rfl rfl rfl ⟨_, rfl, ?_⟩
          exact h1 ⟨i, by omega, b20, b31, b42⟩
theorem C_X7_has (ht : M 83 3 = nI t) (ht2 : t ≤ 6) {k b n : Int32} {Q : Int32 → zS → zM → Prop} (h1 : (∃ i, i < t ∧ z_th M 84 85 86 k b n i) → Q (nI 1) (ZS m0 m1 md) M) (h0 : (¬ ∃ i, i < t ∧ z_th M 84 85 86 k b n i) → Q (nI 0) (ZS m0 m1 md) M) : AMet l g yX7_has cX7_has 5 (some .boolean) d 0 0 [.ref 83, .int k, .int b, .int n] (ZS m0 m1 md) M (z_Qi Q) := by
  refine AMet.of (ini := false) rfl (fun h => by first | rfl | cases h) (Nat.le_of_ble_eq_true rfl) ?_
  show AW l g RX7 cX7_has 5 (some .boolean) false _ _ _ 0 [some (.ref 83), some (.int k), some (.int b), some (.int n), none] [] _ _ _
  refine AW.iconst 1 (nI 0) dX7_has_0 (by decide) rfl ?_
  refine AW.ist4 3 dX7_has_1 (by decide) rfl rfl ?_
  exact L_X7_has ht ht2 h1 h0 t 0 (by omega) (fun j hj => absurd hj (by omega))
theorem C_X7_add (ht : M 83 3 = nI t) (ht2 : t < 6) {k b n : Int32} {Q : zS → zM → Prop} (hQ : Q (ZS m0 m1 md) (z_st (z_st (z_st (z_st M 84 t k) 85 t b) 86 t n) 83 3 (nI (t + 1)))) : AMet l g yX7_add cX7_add 4 none d 0 0 [.ref 83, .int k, .int b, .int n] (ZS m0 m1 md) M (z_Qv Q) := by
  refine AMet.of (ini := false) rfl (fun h => by first | rfl | cases h) (Nat.le_of_ble_eq_true rfl) ?_
  show AW l g RX7 cX7_add 4 none false _ _ _ 0 [some (.ref 83), some (.int k), some (.int b), some (.int n)] [] _ _ _
  refine AW.aload_n 1 dX7_add_0 rfl rfl ?_
  refine AW.getI 4 dX7_add_1 fX7_21 rfl (zI rfl rfl) rfl ?_
  refine AW.topi (nI t) ht ?_
  refine AW.bipush 6 (nI 6) dX7_add_4 (by decide) rfl ?_
  refine AW.icmpN_ge 9 49 dX7_add_6 (by decide) rfl (by omega) (by omega) (fun b6 => absurd b6 (by omega)) (fun b6 => ?_)
  refine AW.aload_n 10 dX7_add_9 rfl rfl ?_
  refine AW.getR 13 dX7_add_10 fX7_9 rfl (zI rfl rfl) rfl rfl ?_
  refine AW.aload_n 14 dX7_add_13 rfl rfl ?_
  refine AW.getI 17 dX7_add_14 fX7_21 rfl (zI rfl rfl) rfl ?_
  refine AW.topi (nI t) ht ?_
  refine AW.iload_n 18 dX7_add_17 rfl rfl ?_
  refine AW.iast 19 dX7_add_18 (zA rfl rfl) rfl (by omega) (by decide) rfl ?_
  refine AW.aload_n 20 dX7_add_19 rfl rfl ?_
  refine AW.getR 23 dX7_add_20 fX7_15 rfl (zI rfl rfl) rfl rfl ?_
  refine AW.aload_n 24 dX7_add_23 rfl rfl ?_
  refine AW.getI 27 dX7_add_24 fX7_21 rfl (zI rfl rfl) rfl ?_
  refine AW.topi (nI t) ht ?_
  refine AW.iload_n 28 dX7_add_27 rfl rfl ?_
  refine AW.iast 29 dX7_add_28 (zA rfl rfl) rfl (by omega) (by decide) rfl ?_
  refine AW.aload_n 30 dX7_add_29 rfl rfl ?_
  refine AW.getR 33 dX7_add_30 fX7_18 rfl (zI rfl rfl) rfl rfl ?_
  refine AW.aload_n 34 dX7_add_33 rfl rfl ?_
  refine AW.getI 37 dX7_add_34 fX7_21 rfl (zI rfl rfl) rfl ?_
  refine AW.topi (nI t) ht ?_
  refine AW.iload_n 38 dX7_add_37 rfl rfl ?_
  refine AW.iast 39 dX7_add_38 (zA rfl rfl) rfl (by omega) (by decide) rfl ?_
  refine AW.aload_n 40 dX7_add_39 rfl rfl ?_
  refine AW.dup 41 dX7_add_40 rfl rfl ?_
  refine AW.getI 44 dX7_add_41 fX7_21 rfl (zI rfl rfl) rfl ?_
  refine AW.topi (nI t) ht ?_
  refine AW.iconst 45 (nI 1) dX7_add_44 (by decide) rfl ?_
  refine AW.iaddN 46 dX7_add_45 rfl ?_
  refine AW.putI 49 .int dX7_add_46 pX7_21 rfl (zI rfl rfl) rfl rfl rfl ?_
  refine AW.vret dX7_add_49 rfl rfl ⟨rfl, ?_⟩
  exact hQ
theorem C_X9_lastOfThing {S : zS} {k : Int32} {Q : Int32 → zS → zM → Prop} (hQ : ∀ v : Int32, v.toInt = z_nl k.toInt → Q v S M) : AMet l g yX9_lastOfThing cX9_lastOfThing 1 (some .int) d 0 0 [.int k] S M (z_Qi Q) := by
  refine AMet.of (ini := false) rfl (fun h => by first | rfl | cases h) (Nat.le_of_ble_eq_true rfl) ?_
  show AW l g RX9 cX9_lastOfThing 1 (some .int) false _ _ _ 0 [some (.int k)] [] _ _ _
  refine AW.iload_n 1 dX9_lastOfThing_0 rfl rfl ?_
  refine AW.zif_ne 4 8 dX9_lastOfThing_1 (by decide) rfl rfl (fun b1 => ?_) (fun b1 => ?_)
  · skip
    refine AW.iload_n 9 dX9_lastOfThing_8 rfl rfl ?_
    refine AW.iconst 10 (nI 1) dX9_lastOfThing_9 (by decide) rfl ?_
    refine AW.zicmp_ne 13 17 dX9_lastOfThing_10 (by decide) rfl rfl (by decide : (nI 1).toInt = 1) (fun b10 => ?_) (fun b10 => ?_)
    · skip
      refine AW.bipush 19 (nI 7) dX9_lastOfThing_17 (by decide) rfl ?_
      refine AW.iret dX9_lastOfThing_19 .int rfl rfl rfl ⟨_, rfl, ?_⟩
      apply hQ; unfold z_nl; (repeat' split) <;> first | rfl | decide | (exfalso; omega)
    · skip
      refine AW.iconst 14 (nI 0) dX9_lastOfThing_13 (by decide) rfl ?_
      refine AW.goto 19 dX9_lastOfThing_14 (by decide) ?_
      refine AW.iret dX9_lastOfThing_19 .int rfl rfl rfl ⟨_, rfl, ?_⟩
      apply hQ; unfold z_nl; (repeat' split) <;> first | rfl | decide | (exfalso; omega)
  · skip
    refine AW.iconst 5 (nI 3) dX9_lastOfThing_4 (by decide) rfl ?_
    refine AW.goto 19 dX9_lastOfThing_5 (by decide) ?_
    refine AW.iret dX9_lastOfThing_19 .int rfl rfl rfl ⟨_, rfl, ?_⟩
    apply hQ; unfold z_nl; (repeat' split) <;> first | rfl | decide | (exfalso; omega)
theorem C_X9_thing (ht : M 83 3 = nI t) (ht2 : t ≤ 6) {k b n : Int32} {Q : Int32 → zS → zM → Prop} (hbad : ¬ z_tg k b n → Q (-1) (ZS m0 m1 md) M) (hh : z_tg k b n → (∃ i, i < t ∧ z_th M 84 85 86 k b n i) → Q (-2) (ZS m0 m1 md) M) (hfull : z_tg k b n → (¬ ∃ i, i < t ∧ z_th M 84 85 86 k b n i) → t = 6 → Q (-3) (ZS m0 m1 md) M) (hok : z_tg k b n → (¬ ∃ i, i < t ∧ z_th M 84 85 86 k b n i) → t < 6 → Q (nI t) (ZS m0 m1 md) (z_st (z_st (z_st (z_st M 84 t k) 85 t b) 86 t n) 83 3 (nI (t + 1)))) : AMet l g yX9_thing cX9_thing 4 (some .int) (d + 1) 0 0 [.ref 0, .int k, .int b, .int n] (ZS m0 m1 md) M (z_Qi Q) := by
  have c0 : (nI 0).toInt = 0 := by decide
  have c11 : (nI 11).toInt = 11 := by decide
  refine AMet.of (ini := false) rfl (fun h => by first | rfl | cases h) (Nat.le_of_ble_eq_true rfl) ?_
  show AW l g RX9 cX9_thing 4 (some .int) false _ _ _ 0 [some (.ref 0), some (.int k), some (.int b), some (.int n)] [] _ _ _
  refine AW.iload_n 1 dX9_thing_0 rfl rfl ?_
  refine AW.iconst 2 (nI 2) dX9_thing_1 (by decide) rfl ?_
  refine AW.cSi2 5 dX9_thing_2 kX9_120 (Nat.le_of_ble_eq_true rfl) rfl (C_beyond rfl (by decide : (nI 2).toInt = 2) (fun b2 => ?_) (fun b2 => ?_))
  · skip
    refine AW.if_ne 8 37 dX9_thing_5 (by decide) rfl (fun _ => ?_) (fun h => absurd h (by decide))
    refine AW.iconst 38 (-1) dX9_thing_37 (by decide) rfl ?_
    refine AW.iret dX9_thing_38 .int rfl rfl rfl ⟨_, rfl, ?_⟩
    exact hbad (fun z => by unfold z_tg z_tl at z; (repeat' split at z) <;> omega)
  · skip
    refine AW.if_ne 8 37 dX9_thing_5 (by decide) rfl (fun h => absurd h (by decide)) (fun _ => ?_)
    refine AW.iload_n 9 dX9_thing_8 rfl rfl ?_
    refine AW.iload_n 10 dX9_thing_9 rfl rfl ?_
    refine AW.iconst 11 (nI 2) dX9_thing_10 (by decide) rfl ?_
    refine AW.zicmp_ne 14 18 dX9_thing_11 (by decide) rfl rfl (by decide : (nI 2).toInt = 2) (fun b11 => ?_) (fun b11 => ?_)
    · skip
      refine AW.bipush 20 (nI 11) dX9_thing_18 (by decide) rfl ?_
      refine AW.cSi2 23 dX9_thing_20 kX9_120 (Nat.le_of_ble_eq_true rfl) rfl (C_beyond rfl rfl (fun b20 => ?_) (fun b20 => ?_))
      · skip
        refine AW.if_ne 26 37 dX9_thing_23 (by decide) rfl (fun _ => ?_) (fun h => absurd h (by decide))
        refine AW.iconst 38 (-1) dX9_thing_37 (by decide) rfl ?_
        refine AW.iret dX9_thing_38 .int rfl rfl rfl ⟨_, rfl, ?_⟩
        exact hbad (fun z => by unfold z_tg z_tl at z; (repeat' split at z) <;> omega)
      · skip
        refine AW.if_ne 26 37 dX9_thing_23 (by decide) rfl (fun h => absurd h (by decide)) (fun _ => ?_)
        refine AW.iload_n 27 dX9_thing_26 rfl rfl ?_
        refine AW.iload_n 28 dX9_thing_27 rfl rfl ?_
        refine AW.cSi1 31 dX9_thing_28 kX9_251 (Nat.le_of_ble_eq_true rfl) rfl (C_X9_lastOfThing (fun v hv => ?_))
        refine AW.cSi2 34 dX9_thing_31 kX9_120 (Nat.le_of_ble_eq_true rfl) rfl (C_beyond rfl hv (fun b31 => ?_) (fun b31 => ?_))
        · skip
          refine AW.if_eq 37 39 dX9_thing_34 (by decide) rfl (fun h => absurd h (by decide)) (fun _ => ?_)
          refine AW.iconst 38 (-1) dX9_thing_37 (by decide) rfl ?_
          refine AW.iret dX9_thing_38 .int rfl rfl rfl ⟨_, rfl, ?_⟩
          exact hbad (fun z => by unfold z_tg z_tl at z; (repeat' split at z) <;> omega)
        · skip
          refine AW.if_eq 37 39 dX9_thing_34 (by decide) rfl (fun _ => ?_) (fun h => absurd h (by decide))
          have hg : z_tg k b n := by
            unfold z_tg z_tl; (repeat' split) <;> omega
          refine AW.aload_n 40 dX9_thing_39 rfl rfl ?_
          refine AW.getR 43 dX9_thing_40 fX9_67 rfl (zI rfl rfl) rfl rfl ?_
          refine AW.iload_n 44 dX9_thing_43 rfl rfl ?_
          refine AW.iload_n 45 dX9_thing_44 rfl rfl ?_
          refine AW.iload_n 46 dX9_thing_45 rfl rfl ?_
          refine AW.cVi3 49 dX9_thing_46 kX9_255 (zI rfl rfl) (Nat.le_of_ble_eq_true rfl) rfl (C_X7_has ht ht2 (fun b46 => ?_) (fun b46 => ?_))
          · skip
            refine AW.if_eq 52 55 dX9_thing_49 (by decide) rfl (fun h => absurd h (by decide)) (fun _ => ?_)
            refine AW.bipush 54 (-2) dX9_thing_52 (by decide) rfl ?_
            refine AW.iret dX9_thing_54 .int rfl rfl rfl ⟨_, rfl, ?_⟩
            exact hh hg b46
          · skip
            refine AW.if_eq 52 55 dX9_thing_49 (by decide) rfl (fun _ => ?_) (fun h => absurd h (by decide))
            refine AW.aload_n 56 dX9_thing_55 rfl rfl ?_
            refine AW.getR 59 dX9_thing_56 fX9_67 rfl (zI rfl rfl) rfl rfl ?_
            refine AW.getI 62 dX9_thing_59 fX9_247 rfl (zI rfl rfl) rfl ?_
            refine AW.topi (nI t) ht ?_
            refine AW.bipush 64 (nI 6) dX9_thing_62 (by decide) rfl ?_
            refine AW.icmpN_lt 67 70 dX9_thing_64 (by decide) rfl (by omega) (by omega) (fun b64 => ?_) (fun b64 => ?_)
            · skip
              refine AW.aload_n 71 dX9_thing_70 rfl rfl ?_
              refine AW.getR 74 dX9_thing_71 fX9_67 rfl (zI rfl rfl) rfl rfl ?_
              refine AW.iload_n 75 dX9_thing_74 rfl rfl ?_
              refine AW.iload_n 76 dX9_thing_75 rfl rfl ?_
              refine AW.iload_n 77 dX9_thing_76 rfl rfl ?_
              refine AW.cVv3 80 dX9_thing_77 kX9_258 (zI rfl rfl) (Nat.le_of_ble_eq_true rfl) rfl (C_X7_add ht (by omega) ?_)
              refine AW.aload_n 81 dX9_thing_80 rfl rfl ?_
              refine AW.getR 84 dX9_thing_81 fX9_67 rfl (zI rfl rfl) rfl rfl ?_
              refine AW.getI 87 dX9_thing_84 fX9_247 rfl (zI rfl rfl) rfl ?_
              refine AW.topi (nI (t + 1)) (by rw [z_st_at]; rfl) ?_
              refine AW.iconst 88 (nI 1) dX9_thing_87 (by decide) rfl ?_
              refine AW.isubN 89 dX9_thing_88 (by omega) rfl ?_
              refine AW.iret dX9_thing_89 .int rfl rfl rfl ⟨_, rfl, ?_⟩
              exact hok hg b46 (by omega)
            · skip
              refine AW.bipush 69 (-3) dX9_thing_67 (by decide) rfl ?_
              refine AW.iret dX9_thing_69 .int rfl rfl rfl ⟨_, rfl, ?_⟩
              exact hfull hg b46 (by omega)
    · skip
      refine AW.iconst 15 (nI 0) dX9_thing_14 (by decide) rfl ?_
      refine AW.goto 20 dX9_thing_15 (by decide) ?_
      refine AW.cSi2 23 dX9_thing_20 kX9_120 (Nat.le_of_ble_eq_true rfl) rfl (C_beyond rfl rfl (fun b20 => ?_) (fun b20 => ?_))
      · skip
        refine AW.if_ne 26 37 dX9_thing_23 (by decide) rfl (fun _ => ?_) (fun h => absurd h (by decide))
        refine AW.iconst 38 (-1) dX9_thing_37 (by decide) rfl ?_
        refine AW.iret dX9_thing_38 .int rfl rfl rfl ⟨_, rfl, ?_⟩
        exact hbad (fun z => by unfold z_tg z_tl at z; (repeat' split at z) <;> omega)
      · skip
        refine AW.if_ne 26 37 dX9_thing_23 (by decide) rfl (fun h => absurd h (by decide)) (fun _ => ?_)
        refine AW.iload_n 27 dX9_thing_26 rfl rfl ?_
        refine AW.iload_n 28 dX9_thing_27 rfl rfl ?_
        refine AW.cSi1 31 dX9_thing_28 kX9_251 (Nat.le_of_ble_eq_true rfl) rfl (C_X9_lastOfThing (fun v hv => ?_))
        refine AW.cSi2 34 dX9_thing_31 kX9_120 (Nat.le_of_ble_eq_true rfl) rfl (C_beyond rfl hv (fun b31 => ?_) (fun b31 => ?_))
        · skip
          refine AW.if_eq 37 39 dX9_thing_34 (by decide) rfl (fun h => absurd h (by decide)) (fun _ => ?_)
          refine AW.iconst 38 (-1) dX9_thing_37 (by decide) rfl ?_
          refine AW.iret dX9_thing_38 .int rfl rfl rfl ⟨_, rfl, ?_⟩
          exact hbad (fun z => by unfold z_tg z_tl at z; (repeat' split at z) <;> omega)
        · skip
          refine AW.if_eq 37 39 dX9_thing_34 (by decide) rfl (fun _ => ?_) (fun h => absurd h (by decide))
          have hg : z_tg k b n := by
            unfold z_tg z_tl; (repeat' split) <;> omega
          refine AW.aload_n 40 dX9_thing_39 rfl rfl ?_
          refine AW.getR 43 dX9_thing_40 fX9_67 rfl (zI rfl rfl) rfl rfl ?_
          refine AW.iload_n 44 dX9_thing_43 rfl rfl ?_
          refine AW.iload_n 45 dX9_thing_44 rfl rfl ?_
          refine AW.iload_n 46 dX9_thing_45 rfl rfl ?_
          refine AW.cVi3 49 dX9_thing_46 kX9_255 (zI rfl rfl) (Nat.le_of_ble_eq_true rfl) rfl (C_X7_has ht ht2 (fun b46 => ?_) (fun b46 => ?_))
          · skip
            refine AW.if_eq 52 55 dX9_thing_49 (by decide) rfl (fun h => absurd h (by decide)) (fun _ => ?_)
            refine AW.bipush 54 (-2) dX9_thing_52 (by decide) rfl ?_
            refine AW.iret dX9_thing_54 .int rfl rfl rfl ⟨_, rfl, ?_⟩
            exact hh hg b46
          · skip
            refine AW.if_eq 52 55 dX9_thing_49 (by decide) rfl (fun _ => ?_) (fun h => absurd h (by decide))
            refine AW.aload_n 56 dX9_thing_55 rfl rfl ?_
            refine AW.getR 59 dX9_thing_56 fX9_67 rfl (zI rfl rfl) rfl rfl ?_
            refine AW.getI 62 dX9_thing_59 fX9_247 rfl (zI rfl rfl) rfl ?_
            refine AW.topi (nI t) ht ?_
            refine AW.bipush 64 (nI 6) dX9_thing_62 (by decide) rfl ?_
            refine AW.icmpN_lt 67 70 dX9_thing_64 (by decide) rfl (by omega) (by omega) (fun b64 => ?_) (fun b64 => ?_)
            · skip
              refine AW.aload_n 71 dX9_thing_70 rfl rfl ?_
              refine AW.getR 74 dX9_thing_71 fX9_67 rfl (zI rfl rfl) rfl rfl ?_
              refine AW.iload_n 75 dX9_thing_74 rfl rfl ?_
              refine AW.iload_n 76 dX9_thing_75 rfl rfl ?_
              refine AW.iload_n 77 dX9_thing_76 rfl rfl ?_
              refine AW.cVv3 80 dX9_thing_77 kX9_258 (zI rfl rfl) (Nat.le_of_ble_eq_true rfl) rfl (C_X7_add ht (by omega) ?_)
              refine AW.aload_n 81 dX9_thing_80 rfl rfl ?_
              refine AW.getR 84 dX9_thing_81 fX9_67 rfl (zI rfl rfl) rfl rfl ?_
              refine AW.getI 87 dX9_thing_84 fX9_247 rfl (zI rfl rfl) rfl ?_
              refine AW.topi (nI (t + 1)) (by rw [z_st_at]; rfl) ?_
              refine AW.iconst 88 (nI 1) dX9_thing_87 (by decide) rfl ?_
              refine AW.isubN 89 dX9_thing_88 (by omega) rfl ?_
              refine AW.iret dX9_thing_89 .int rfl rfl rfl ⟨_, rfl, ?_⟩
              exact hok hg b46 (by omega)
            · skip
              refine AW.bipush 69 (-3) dX9_thing_67 (by decide) rfl ?_
              refine AW.iret dX9_thing_69 .int rfl rfl rfl ⟨_, rfl, ?_⟩
              exact hfull hg b46 (by omega)
theorem C_X10_clear {Q : Int32 → zS → zM → Prop} (hQ : Q (M 99 34) (ZS m0 m1 md) (z_st M 99 34 (nI 0))) : AMet l g yX10_clear cX10_clear 2 (some .int) d 0 0 [.ref 99] (ZS m0 m1 md) M (z_Qi Q) := by
  refine AMet.of (ini := false) rfl (fun h => by first | rfl | cases h) (Nat.le_of_ble_eq_true rfl) ?_
  show AW l g RX10 cX10_clear 2 (some .int) false _ _ _ 0 [some (.ref 99), none] [] _ _ _
  refine AW.aload_n 1 dX10_clear_0 rfl rfl ?_
  refine AW.getI 4 dX10_clear_1 fX10_244 rfl (zI rfl rfl) rfl ?_
  refine AW.istn1 5 dX10_clear_4 (by decide) rfl rfl ?_
  refine AW.aload_n 6 dX10_clear_5 rfl rfl ?_
  refine AW.iconst 7 (nI 0) dX10_clear_6 (by decide) rfl ?_
  refine AW.putI 10 .int dX10_clear_7 pX10_244 rfl (zI rfl rfl) rfl rfl rfl ?_
  refine AW.iload_n 11 dX10_clear_10 rfl rfl ?_
  refine AW.iret dX10_clear_11 .int rfl rfl rfl ⟨_, rfl, ?_⟩
  exact hQ
theorem C_X9_clear {Q : Int32 → zS → zM → Prop} (hQ : Q (M 83 3) (ZS m0 m1 md) (z_st M 83 3 (nI 0))) : AMet l g yX9_clear cX9_clear 2 (some .int) d 0 0 [.ref 0] (ZS m0 m1 md) M (z_Qi Q) := by
  refine AMet.of (ini := false) rfl (fun h => by first | rfl | cases h) (Nat.le_of_ble_eq_true rfl) ?_
  show AW l g RX9 cX9_clear 2 (some .int) false _ _ _ 0 [some (.ref 0), none] [] _ _ _
  refine AW.aload_n 1 dX9_clear_0 rfl rfl ?_
  refine AW.getR 4 dX9_clear_1 fX9_67 rfl (zI rfl rfl) rfl rfl ?_
  refine AW.getI 7 dX9_clear_4 fX9_247 rfl (zI rfl rfl) rfl ?_
  refine AW.istn1 8 dX9_clear_7 (by decide) rfl rfl ?_
  refine AW.aload_n 9 dX9_clear_8 rfl rfl ?_
  refine AW.getR 12 dX9_clear_9 fX9_67 rfl (zI rfl rfl) rfl rfl ?_
  refine AW.iconst 13 (nI 0) dX9_clear_12 (by decide) rfl ?_
  refine AW.putI 16 .int dX9_clear_13 pX9_247 rfl (zI rfl rfl) rfl rfl rfl ?_
  refine AW.iload_n 17 dX9_clear_16 rfl rfl ?_
  refine AW.iret dX9_clear_17 .int rfl rfl rfl ⟨_, rfl, ?_⟩
  exact hQ
end THINGS
