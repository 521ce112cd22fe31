section INIT10
variable {l : Launch} {g : zG} {d : Nat} {M : zM}
theorem L_X10_init1 {Q : zS → zM → Prop} (hQ : ∀ M', (∀ c, c ≠ 133 → M' c = M c) → (∀ j, j < 4 → M' 133 j = -1) → AW l g RX10 cX10_init 2 none true d 0 0 333 [some (.ref 99), some (.int (nI 4))] [] (zQ 137) M' (z_Qv Q)) :
    ∀ (q i : Nat), i + q = 4 → ∀ M' : zM, (∀ c, c ≠ 133 → M' c = M c) → (∀ j, j < i → M' 133 j = -1) → AW l g RX10 cX10_init 2 none true d 0 0 315 [some (.ref 99), some (.int (nI i))] [] (zQ 137) M' (z_Qv Q) := by
  intro q
  induction q with
  | zero =>
    intro i hi M' f h
    have hi : i = 4 := by omega
    subst hi
    refine AW.iload_n 316 dX10_init_315 rfl rfl ?_
    refine AW.iconst 317 (nI 4) dX10_init_316 (by decide) rfl ?_
    refine AW.icmp_ge 320 333 dX10_init_317 (by decide) rfl (fun _ => ?_) (fun h => absurd h (by decide))
    exact hQ M' f h
  | succ q ih =>
    intro i hi M' f h
    refine AW.iload_n 316 dX10_init_315 rfl rfl ?_
    refine AW.iconst 317 (nI 4) dX10_init_316 (by decide) rfl ?_
    refine AW.icmpN_ge 320 333 dX10_init_317 (by decide) rfl (by omega) (by omega) (fun b317 => absurd b317 (by omega)) (fun b317 => ?_)
    refine AW.aload_n 321 dX10_init_320 rfl rfl ?_
    refine AW.getR 324 dX10_init_321 fX10_117 rfl (zI rfl rfl) rfl rfl ?_
    refine AW.iload_n 325 dX10_init_324 rfl rfl ?_
    refine AW.iconst 326 (-1) dX10_init_325 (by decide) rfl ?_
    refine AW.iast 327 dX10_init_326 (zA rfl rfl) rfl (by omega) (by decide) rfl ?_
    refine AW.iinc1 330 _ dX10_init_327 (z_inc1 _) (by decide) rfl rfl ?_
    refine AW.goto 315 dX10_init_330 (by decide) ?_
    refine ih (i + 1) (by omega) _ (fun c hc => by rw [z_st_ne hc]; exact f c hc) (fun j hj => ?_)
    by_cases e : j = i
    · subst e; rw [z_st_v]
    · rw [z_st_o e]; exact h j (by omega)
theorem L_X10_init2 {Q : zS → zM → Prop} (hQ : ∀ M', (∀ c, c ≠ 115 → M' c = M c) → (∀ j, j < 12 → M' 115 j = nI 15) → AW l g RX10 cX10_init 2 none true d 0 0 355 [some (.ref 99), some (.int (nI 12))] [] (zQ 137) M' (z_Qv Q)) :
    ∀ (q i : Nat), i + q = 12 → ∀ M' : zM, (∀ c, c ≠ 115 → M' c = M c) → (∀ j, j < i → M' 115 j = nI 15) → AW l g RX10 cX10_init 2 none true d 0 0 335 [some (.ref 99), some (.int (nI i))] [] (zQ 137) M' (z_Qv Q) := by
  intro q
  induction q with
  | zero =>
    intro i hi M' f h
    have hi : i = 12 := by omega
    subst hi
    refine AW.iload_n 336 dX10_init_335 rfl rfl ?_
    refine AW.bipush 338 (nI 12) dX10_init_336 (by decide) rfl ?_
    refine AW.icmp_ge 341 355 dX10_init_338 (by decide) rfl (fun _ => ?_) (fun h => absurd h (by decide))
    exact hQ M' f h
  | succ q ih =>
    intro i hi M' f h
    refine AW.iload_n 336 dX10_init_335 rfl rfl ?_
    refine AW.bipush 338 (nI 12) dX10_init_336 (by decide) rfl ?_
    refine AW.icmpN_ge 341 355 dX10_init_338 (by decide) rfl (by omega) (by omega) (fun b338 => absurd b338 (by omega)) (fun b338 => ?_)
    refine AW.aload_n 342 dX10_init_341 rfl rfl ?_
    refine AW.getR 345 dX10_init_342 fX10_60 rfl (zI rfl rfl) rfl rfl ?_
    refine AW.iload_n 346 dX10_init_345 rfl rfl ?_
    refine AW.bipush 348 (nI 15) dX10_init_346 (by decide) rfl ?_
    refine AW.iast 349 dX10_init_348 (zA rfl rfl) rfl (by omega) (by decide) rfl ?_
    refine AW.iinc1 352 _ dX10_init_349 (z_inc1 _) (by decide) rfl rfl ?_
    refine AW.goto 335 dX10_init_352 (by decide) ?_
    refine ih (i + 1) (by omega) _ (fun c hc => by rw [z_st_ne hc]; exact f c hc) (fun j hj => ?_)
    by_cases e : j = i
    · subst e; rw [z_st_v]
    · rw [z_st_o e]; exact h j (by omega)
theorem z_zq : ∀ j, j < 46 → zQr 137 (zR 20 33 46 99 j) = zR 20 33 46 99 j := by decide +kernel
theorem z_z9 : ∀ j, j < 46 → z_st (z_st zMd 99 16 (nI 4)) 99 33 (-4) 99 j = zMZ 99 j := by decide +kernel
theorem z_end {M' : zM} (h1 : ∀ c, c ≠ 133 → c ≠ 115 → M' c = z_st (z_st zMd 99 16 (nI 4)) 99 33 (-4) c) (h2 : ∀ j, j < 4 → M' 133 j = -1) (h3 : ∀ j, j < 12 → M' 115 j = nI 15) : z_sim (zQ 137) M' (ZS 20 33 46) zMZ := by
  refine ⟨rfl, fun k hk => ⟨rfl, fun j hj => ⟨fun _ => ?_, fun _ => ?_⟩⟩⟩
  · show (if k = 99 then zQr 137 (zR 20 33 46 99 j) else zR 20 33 46 k j) = zR 20 33 46 k j
    by_cases e : k = 99
    · subst e; rw [if_pos rfl]; exact z_zq j hj
    · rw [if_neg e]
  · by_cases e1 : k = 133
    · subst e1
      have hj : j < 4 := hj
      rw [h2 j hj]
      show -1 = if j < 4 then (-1 : Int32) else 0
      rw [if_pos hj]
    · by_cases e2 : k = 115
      · subst e2
        have hj : j < 12 := hj
        rw [h3 j hj]
        show nI 15 = if j < 12 then nI 15 else 0
        rw [if_pos hj]
      · rw [h1 k e1 e2]
        by_cases e3 : k = 99
        · subst e3; exact z_z9 j hj
        · rw [z_st_ne e3, z_st_ne e3]
          unfold zMd
          by_cases e4 : 99 ≤ k
          · rw [if_pos e4]
            unfold zMZ
            rw [if_neg (by omega), if_neg (by omega), if_neg (by omega), if_neg (by omega), if_neg e3, if_neg e2, if_neg e1]
          · rw [if_neg e4]
set_option maxHeartbeats 4000000 in
theorem C_X10_init {Q : zS → zM → Prop} (hQ : Q (ZS 20 33 46) zMZ) : AMet l g yX10_init cX10_init 2 none (d + 1) 37 5074 [.ref 99] (zQ 100) zMd (z_Qv Q) := by
  refine AMet.of (ini := true) rfl (fun h => by first | rfl | cases h) (Nat.le_of_ble_eq_true rfl) ?_
  show AW l g RX10 cX10_init 2 none true _ _ _ 0 [some (.ref 99), none] [] _ _ _
  refine AW.aload_n 1 dX10_init_0 rfl rfl ?_
  refine AW.objI 4 dX10_init_1 qX10_1 (Nat.le_of_ble_eq_true rfl) rfl ?_
  refine AW.aload_n 5 dX10_init_4 rfl rfl ?_
  refine AW.bipush 7 (nI 120) dX10_init_5 (by decide) rfl ?_
  refine AW.newarr 9 36 4954 dX10_init_7 (Or.inl ⟨rfl, rfl⟩) rfl (by decide) rfl rfl (Nat.le_of_ble_eq_true rfl) rfl ?_
  refine AW.putF 12 (.array .int) dX10_init_9 pX10_7 rfl rfl (zI rfl rfl) (fun _ => ⟨rfl, rfl⟩) rfl ?_
  refine AW.sim (z_q_step (n := 100) (j := 0) rfl rfl (by decide +kernel) (by decide) (by decide) (fun i _ => rfl)) ?_
  refine AW.aload_n 13 dX10_init_12 rfl rfl ?_
  refine AW.bipush 15 (nI 6) dX10_init_13 (by decide) rfl ?_
  refine AW.newarr 17 35 4948 dX10_init_15 (Or.inr ⟨rfl, rfl⟩) rfl (by decide) rfl rfl (Nat.le_of_ble_eq_true rfl) rfl ?_
  refine AW.putF 20 (.array .boolean) dX10_init_17 pX10_13 rfl rfl (zI rfl rfl) (fun _ => ⟨rfl, rfl⟩) rfl ?_
  refine AW.sim (z_q_step (n := 101) (j := 4) rfl rfl (by decide +kernel) (by decide) (by decide) (fun i _ => rfl)) ?_
  refine AW.aload_n 21 dX10_init_20 rfl rfl ?_
  refine AW.bipush 23 (nI 6) dX10_init_21 (by decide) rfl ?_
  refine AW.newarr 25 34 4942 dX10_init_23 (Or.inr ⟨rfl, rfl⟩) rfl (by decide) rfl rfl (Nat.le_of_ble_eq_true rfl) rfl ?_
  refine AW.putF 28 (.array .boolean) dX10_init_25 pX10_17 rfl rfl (zI rfl rfl) (fun _ => ⟨rfl, rfl⟩) rfl ?_
  refine AW.sim (z_q_step (n := 102) (j := 5) rfl rfl (by decide +kernel) (by decide) (by decide) (fun i _ => rfl)) ?_
  refine AW.aload_n 29 dX10_init_28 rfl rfl ?_
  refine AW.bipush 31 (nI 6) dX10_init_29 (by decide) rfl ?_
  refine AW.newarr 33 33 4936 dX10_init_31 (Or.inr ⟨rfl, rfl⟩) rfl (by decide) rfl rfl (Nat.le_of_ble_eq_true rfl) rfl ?_
  refine AW.putF 36 (.array .boolean) dX10_init_33 pX10_20 rfl rfl (zI rfl rfl) (fun _ => ⟨rfl, rfl⟩) rfl ?_
  refine AW.sim (z_q_step (n := 103) (j := 6) rfl rfl (by decide +kernel) (by decide) (by decide) (fun i _ => rfl)) ?_
  refine AW.aload_n 37 dX10_init_36 rfl rfl ?_
  refine AW.iconst 38 (nI 2) dX10_init_37 (by decide) rfl ?_
  refine AW.newarr 40 32 4934 dX10_init_38 (Or.inl ⟨rfl, rfl⟩) rfl (by decide) rfl rfl (Nat.le_of_ble_eq_true rfl) rfl ?_
  refine AW.putF 43 (.array .int) dX10_init_40 pX10_23 rfl rfl (zI rfl rfl) (fun _ => ⟨rfl, rfl⟩) rfl ?_
  refine AW.sim (z_q_step (n := 104) (j := 7) rfl rfl (by decide +kernel) (by decide) (by decide) (fun i _ => rfl)) ?_
  refine AW.aload_n 44 dX10_init_43 rfl rfl ?_
  refine AW.bipush 46 (nI 16) dX10_init_44 (by decide) rfl ?_
  refine AW.newarr 48 31 4918 dX10_init_46 (Or.inl ⟨rfl, rfl⟩) rfl (by decide) rfl rfl (Nat.le_of_ble_eq_true rfl) rfl ?_
  refine AW.putF 51 (.array .int) dX10_init_48 pX10_26 rfl rfl (zI rfl rfl) (fun _ => ⟨rfl, rfl⟩) rfl ?_
  refine AW.sim (z_q_step (n := 105) (j := 8) rfl rfl (by decide +kernel) (by decide) (by decide) (fun i _ => rfl)) ?_
  refine AW.aload_n 52 dX10_init_51 rfl rfl ?_
  refine AW.bipush 54 (nI 16) dX10_init_52 (by decide) rfl ?_
  refine AW.newarr 56 30 4902 dX10_init_54 (Or.inl ⟨rfl, rfl⟩) rfl (by decide) rfl rfl (Nat.le_of_ble_eq_true rfl) rfl ?_
  refine AW.putF 59 (.array .int) dX10_init_56 pX10_29 rfl rfl (zI rfl rfl) (fun _ => ⟨rfl, rfl⟩) rfl ?_
  refine AW.sim (z_q_step (n := 106) (j := 9) rfl rfl (by decide +kernel) (by decide) (by decide) (fun i _ => rfl)) ?_
  refine AW.aload_n 60 dX10_init_59 rfl rfl ?_
  refine AW.bipush 62 (nI 16) dX10_init_60 (by decide) rfl ?_
  refine AW.newarr 64 29 4886 dX10_init_62 (Or.inl ⟨rfl, rfl⟩) rfl (by decide) rfl rfl (Nat.le_of_ble_eq_true rfl) rfl ?_
  refine AW.putF 67 (.array .int) dX10_init_64 pX10_32 rfl rfl (zI rfl rfl) (fun _ => ⟨rfl, rfl⟩) rfl ?_
  refine AW.sim (z_q_step (n := 107) (j := 10) rfl rfl (by decide +kernel) (by decide) (by decide) (fun i _ => rfl)) ?_
  refine AW.aload_n 68 dX10_init_67 rfl rfl ?_
  refine AW.sipush 71 (nI 2048) dX10_init_68 (by decide) rfl ?_
  refine AW.newarr 73 28 2838 dX10_init_71 (Or.inr ⟨rfl, rfl⟩) rfl (by decide) rfl rfl (Nat.le_of_ble_eq_true rfl) rfl ?_
  refine AW.putF 76 (.array .boolean) dX10_init_73 pX10_35 rfl rfl (zI rfl rfl) (fun _ => ⟨rfl, rfl⟩) rfl ?_
  refine AW.sim (z_q_step (n := 108) (j := 11) rfl rfl (by decide +kernel) (by decide) (by decide) (fun i _ => rfl)) ?_
  refine AW.aload_n 77 dX10_init_76 rfl rfl ?_
  refine AW.bipush 79 (nI 8) dX10_init_77 (by decide) rfl ?_
  refine AW.newarr 81 27 2830 dX10_init_79 (Or.inl ⟨rfl, rfl⟩) rfl (by decide) rfl rfl (Nat.le_of_ble_eq_true rfl) rfl ?_
  refine AW.putF 84 (.array .int) dX10_init_81 pX10_38 rfl rfl (zI rfl rfl) (fun _ => ⟨rfl, rfl⟩) rfl ?_
  refine AW.sim (z_q_step (n := 109) (j := 12) rfl rfl (by decide +kernel) (by decide) (by decide) (fun i _ => rfl)) ?_
  refine AW.aload_n 85 dX10_init_84 rfl rfl ?_
  refine AW.bipush 87 (nI 8) dX10_init_85 (by decide) rfl ?_
  refine AW.newarr 89 26 2822 dX10_init_87 (Or.inl ⟨rfl, rfl⟩) rfl (by decide) rfl rfl (Nat.le_of_ble_eq_true rfl) rfl ?_
  refine AW.putF 92 (.array .int) dX10_init_89 pX10_41 rfl rfl (zI rfl rfl) (fun _ => ⟨rfl, rfl⟩) rfl ?_
  refine AW.sim (z_q_step (n := 110) (j := 13) rfl rfl (by decide +kernel) (by decide) (by decide) (fun i _ => rfl)) ?_
  refine AW.aload_n 93 dX10_init_92 rfl rfl ?_
  refine AW.bipush 95 (nI 8) dX10_init_93 (by decide) rfl ?_
  refine AW.newarr 97 25 2814 dX10_init_95 (Or.inl ⟨rfl, rfl⟩) rfl (by decide) rfl rfl (Nat.le_of_ble_eq_true rfl) rfl ?_
  refine AW.putF 100 (.array .int) dX10_init_97 pX10_44 rfl rfl (zI rfl rfl) (fun _ => ⟨rfl, rfl⟩) rfl ?_
  refine AW.sim (z_q_step (n := 111) (j := 14) rfl rfl (by decide +kernel) (by decide) (by decide) (fun i _ => rfl)) ?_
  refine AW.aload_n 101 dX10_init_100 rfl rfl ?_
  refine AW.sipush 104 (nI 1024) dX10_init_101 (by decide) rfl ?_
  refine AW.newarr 106 24 1790 dX10_init_104 (Or.inr ⟨rfl, rfl⟩) rfl (by decide) rfl rfl (Nat.le_of_ble_eq_true rfl) rfl ?_
  refine AW.putF 109 (.array .boolean) dX10_init_106 pX10_47 rfl rfl (zI rfl rfl) (fun _ => ⟨rfl, rfl⟩) rfl ?_
  refine AW.sim (z_q_step (n := 112) (j := 15) rfl rfl (by decide +kernel) (by decide) (by decide) (fun i _ => rfl)) ?_
  refine AW.aload_n 110 dX10_init_109 rfl rfl ?_
  refine AW.iconst 111 (nI 4) dX10_init_110 (by decide) rfl ?_
  refine AW.putI 114 .int dX10_init_111 pX10_50 rfl (zI rfl rfl) rfl rfl rfl ?_
  refine AW.aload_n 115 dX10_init_114 rfl rfl ?_
  refine AW.bipush 117 (nI 12) dX10_init_115 (by decide) rfl ?_
  refine AW.newarr 119 23 1778 dX10_init_117 (Or.inl ⟨rfl, rfl⟩) rfl (by decide) rfl rfl (Nat.le_of_ble_eq_true rfl) rfl ?_
  refine AW.putF 122 (.array .int) dX10_init_119 pX10_54 rfl rfl (zI rfl rfl) (fun _ => ⟨rfl, rfl⟩) rfl ?_
  refine AW.sim (z_q_step (n := 113) (j := 17) rfl rfl (by decide +kernel) (by decide) (by decide) (fun i _ => rfl)) ?_
  refine AW.aload_n 123 dX10_init_122 rfl rfl ?_
  refine AW.bipush 125 (nI 12) dX10_init_123 (by decide) rfl ?_
  refine AW.newarr 127 22 1766 dX10_init_125 (Or.inl ⟨rfl, rfl⟩) rfl (by decide) rfl rfl (Nat.le_of_ble_eq_true rfl) rfl ?_
  refine AW.putF 130 (.array .int) dX10_init_127 pX10_57 rfl rfl (zI rfl rfl) (fun _ => ⟨rfl, rfl⟩) rfl ?_
  refine AW.sim (z_q_step (n := 114) (j := 18) rfl rfl (by decide +kernel) (by decide) (by decide) (fun i _ => rfl)) ?_
  refine AW.aload_n 131 dX10_init_130 rfl rfl ?_
  refine AW.bipush 133 (nI 12) dX10_init_131 (by decide) rfl ?_
  refine AW.newarr 135 21 1754 dX10_init_133 (Or.inl ⟨rfl, rfl⟩) rfl (by decide) rfl rfl (Nat.le_of_ble_eq_true rfl) rfl ?_
  refine AW.putF 138 (.array .int) dX10_init_135 pX10_60 rfl rfl (zI rfl rfl) (fun _ => ⟨rfl, rfl⟩) rfl ?_
  refine AW.sim (z_q_step (n := 115) (j := 19) rfl rfl (by decide +kernel) (by decide) (by decide) (fun i _ => rfl)) ?_
  refine AW.aload_n 139 dX10_init_138 rfl rfl ?_
  refine AW.bipush 141 (nI 12) dX10_init_139 (by decide) rfl ?_
  refine AW.newarr 143 20 1742 dX10_init_141 (Or.inl ⟨rfl, rfl⟩) rfl (by decide) rfl rfl (Nat.le_of_ble_eq_true rfl) rfl ?_
  refine AW.putF 146 (.array .int) dX10_init_143 pX10_63 rfl rfl (zI rfl rfl) (fun _ => ⟨rfl, rfl⟩) rfl ?_
  refine AW.sim (z_q_step (n := 116) (j := 20) rfl rfl (by decide +kernel) (by decide) (by decide) (fun i _ => rfl)) ?_
  refine AW.aload_n 147 dX10_init_146 rfl rfl ?_
  refine AW.bipush 149 (nI 12) dX10_init_147 (by decide) rfl ?_
  refine AW.newarr 151 19 1730 dX10_init_149 (Or.inl ⟨rfl, rfl⟩) rfl (by decide) rfl rfl (Nat.le_of_ble_eq_true rfl) rfl ?_
  refine AW.putF 154 (.array .int) dX10_init_151 pX10_66 rfl rfl (zI rfl rfl) (fun _ => ⟨rfl, rfl⟩) rfl ?_
  refine AW.sim (z_q_step (n := 117) (j := 21) rfl rfl (by decide +kernel) (by decide) (by decide) (fun i _ => rfl)) ?_
  refine AW.aload_n 155 dX10_init_154 rfl rfl ?_
  refine AW.bipush 157 (nI 13) dX10_init_155 (by decide) rfl ?_
  refine AW.newarr 159 18 1717 dX10_init_157 (Or.inl ⟨rfl, rfl⟩) rfl (by decide) rfl rfl (Nat.le_of_ble_eq_true rfl) rfl ?_
  refine AW.putF 162 (.array .int) dX10_init_159 pX10_69 rfl rfl (zI rfl rfl) (fun _ => ⟨rfl, rfl⟩) rfl ?_
  refine AW.sim (z_q_step (n := 118) (j := 22) rfl rfl (by decide +kernel) (by decide) (by decide) (fun i _ => rfl)) ?_
  refine AW.aload_n 163 dX10_init_162 rfl rfl ?_
  refine AW.bipush 165 (nI 12) dX10_init_163 (by decide) rfl ?_
  refine AW.newarr 167 17 1705 dX10_init_165 (Or.inl ⟨rfl, rfl⟩) rfl (by decide) rfl rfl (Nat.le_of_ble_eq_true rfl) rfl ?_
  refine AW.putF 170 (.array .int) dX10_init_167 pX10_72 rfl rfl (zI rfl rfl) (fun _ => ⟨rfl, rfl⟩) rfl ?_
  refine AW.sim (z_q_step (n := 119) (j := 23) rfl rfl (by decide +kernel) (by decide) (by decide) (fun i _ => rfl)) ?_
  refine AW.aload_n 171 dX10_init_170 rfl rfl ?_
  refine AW.bipush 173 (nI 12) dX10_init_171 (by decide) rfl ?_
  refine AW.newarr 175 16 1693 dX10_init_173 (Or.inl ⟨rfl, rfl⟩) rfl (by decide) rfl rfl (Nat.le_of_ble_eq_true rfl) rfl ?_
  refine AW.putF 178 (.array .int) dX10_init_175 pX10_75 rfl rfl (zI rfl rfl) (fun _ => ⟨rfl, rfl⟩) rfl ?_
  refine AW.sim (z_q_step (n := 120) (j := 24) rfl rfl (by decide +kernel) (by decide) (by decide) (fun i _ => rfl)) ?_
  refine AW.aload_n 179 dX10_init_178 rfl rfl ?_
  refine AW.bipush 181 (nI 48) dX10_init_179 (by decide) rfl ?_
  refine AW.newarr 183 15 1645 dX10_init_181 (Or.inl ⟨rfl, rfl⟩) rfl (by decide) rfl rfl (Nat.le_of_ble_eq_true rfl) rfl ?_
  refine AW.putF 186 (.array .int) dX10_init_183 pX10_78 rfl rfl (zI rfl rfl) (fun _ => ⟨rfl, rfl⟩) rfl ?_
  refine AW.sim (z_q_step (n := 121) (j := 26) rfl rfl (by decide +kernel) (by decide) (by decide) (fun i _ => rfl)) ?_
  refine AW.aload_n 187 dX10_init_186 rfl rfl ?_
  refine AW.bipush 189 (nI 48) dX10_init_187 (by decide) rfl ?_
  refine AW.newarr 191 14 1597 dX10_init_189 (Or.inl ⟨rfl, rfl⟩) rfl (by decide) rfl rfl (Nat.le_of_ble_eq_true rfl) rfl ?_
  refine AW.putF 194 (.array .int) dX10_init_191 pX10_81 rfl rfl (zI rfl rfl) (fun _ => ⟨rfl, rfl⟩) rfl ?_
  refine AW.sim (z_q_step (n := 122) (j := 27) rfl rfl (by decide +kernel) (by decide) (by decide) (fun i _ => rfl)) ?_
  refine AW.aload_n 195 dX10_init_194 rfl rfl ?_
  refine AW.bipush 197 (nI 48) dX10_init_195 (by decide) rfl ?_
  refine AW.newarr 199 13 1549 dX10_init_197 (Or.inl ⟨rfl, rfl⟩) rfl (by decide) rfl rfl (Nat.le_of_ble_eq_true rfl) rfl ?_
  refine AW.putF 202 (.array .int) dX10_init_199 pX10_84 rfl rfl (zI rfl rfl) (fun _ => ⟨rfl, rfl⟩) rfl ?_
  refine AW.sim (z_q_step (n := 123) (j := 28) rfl rfl (by decide +kernel) (by decide) (by decide) (fun i _ => rfl)) ?_
  refine AW.aload_n 203 dX10_init_202 rfl rfl ?_
  refine AW.bipush 205 (nI 48) dX10_init_203 (by decide) rfl ?_
  refine AW.newarr 207 12 1501 dX10_init_205 (Or.inl ⟨rfl, rfl⟩) rfl (by decide) rfl rfl (Nat.le_of_ble_eq_true rfl) rfl ?_
  refine AW.putF 210 (.array .int) dX10_init_207 pX10_87 rfl rfl (zI rfl rfl) (fun _ => ⟨rfl, rfl⟩) rfl ?_
  refine AW.sim (z_q_step (n := 124) (j := 29) rfl rfl (by decide +kernel) (by decide) (by decide) (fun i _ => rfl)) ?_
  refine AW.aload_n 211 dX10_init_210 rfl rfl ?_
  refine AW.iconst 212 (nI 3) dX10_init_211 (by decide) rfl ?_
  refine AW.newarr 214 11 1498 dX10_init_212 (Or.inl ⟨rfl, rfl⟩) rfl (by decide) rfl rfl (Nat.le_of_ble_eq_true rfl) rfl ?_
  refine AW.putF 217 (.array .int) dX10_init_214 pX10_90 rfl rfl (zI rfl rfl) (fun _ => ⟨rfl, rfl⟩) rfl ?_
  refine AW.sim (z_q_step (n := 125) (j := 30) rfl rfl (by decide +kernel) (by decide) (by decide) (fun i _ => rfl)) ?_
  refine AW.aload_n 218 dX10_init_217 rfl rfl ?_
  refine AW.sipush 221 (nI 144) dX10_init_218 (by decide) rfl ?_
  refine AW.newarr 223 10 1354 dX10_init_221 (Or.inl ⟨rfl, rfl⟩) rfl (by decide) rfl rfl (Nat.le_of_ble_eq_true rfl) rfl ?_
  refine AW.putF 226 (.array .int) dX10_init_223 pX10_93 rfl rfl (zI rfl rfl) (fun _ => ⟨rfl, rfl⟩) rfl ?_
  refine AW.sim (z_q_step (n := 126) (j := 31) rfl rfl (by decide +kernel) (by decide) (by decide) (fun i _ => rfl)) ?_
  refine AW.aload_n 227 dX10_init_226 rfl rfl ?_
  refine AW.bipush 229 (-4) dX10_init_227 (by decide) rfl ?_
  refine AW.putI 232 .int dX10_init_229 pX10_96 rfl (zI rfl rfl) rfl rfl rfl ?_
  refine AW.aload_n 233 dX10_init_232 rfl rfl ?_
  refine AW.bipush 235 (nI 6) dX10_init_233 (by decide) rfl ?_
  refine AW.newarr 237 9 1348 dX10_init_235 (Or.inl ⟨rfl, rfl⟩) rfl (by decide) rfl rfl (Nat.le_of_ble_eq_true rfl) rfl ?_
  refine AW.putF 240 (.array .int) dX10_init_237 pX10_99 rfl rfl (zI rfl rfl) (fun _ => ⟨rfl, rfl⟩) rfl ?_
  refine AW.sim (z_q_step (n := 127) (j := 35) rfl rfl (by decide +kernel) (by decide) (by decide) (fun i _ => rfl)) ?_
  refine AW.aload_n 241 dX10_init_240 rfl rfl ?_
  refine AW.bipush 243 (nI 6) dX10_init_241 (by decide) rfl ?_
  refine AW.newarr 245 8 1342 dX10_init_243 (Or.inl ⟨rfl, rfl⟩) rfl (by decide) rfl rfl (Nat.le_of_ble_eq_true rfl) rfl ?_
  refine AW.putF 248 (.array .int) dX10_init_245 pX10_102 rfl rfl (zI rfl rfl) (fun _ => ⟨rfl, rfl⟩) rfl ?_
  refine AW.sim (z_q_step (n := 128) (j := 36) rfl rfl (by decide +kernel) (by decide) (by decide) (fun i _ => rfl)) ?_
  refine AW.aload_n 249 dX10_init_248 rfl rfl ?_
  refine AW.bipush 251 (nI 6) dX10_init_249 (by decide) rfl ?_
  refine AW.newarr 253 7 1336 dX10_init_251 (Or.inl ⟨rfl, rfl⟩) rfl (by decide) rfl rfl (Nat.le_of_ble_eq_true rfl) rfl ?_
  refine AW.putF 256 (.array .int) dX10_init_253 pX10_105 rfl rfl (zI rfl rfl) (fun _ => ⟨rfl, rfl⟩) rfl ?_
  refine AW.sim (z_q_step (n := 129) (j := 37) rfl rfl (by decide +kernel) (by decide) (by decide) (fun i _ => rfl)) ?_
  refine AW.aload_n 257 dX10_init_256 rfl rfl ?_
  refine AW.bipush 259 (nI 64) dX10_init_257 (by decide) rfl ?_
  refine AW.newarr 261 6 1272 dX10_init_259 (Or.inr ⟨rfl, rfl⟩) rfl (by decide) rfl rfl (Nat.le_of_ble_eq_true rfl) rfl ?_
  refine AW.putF 264 (.array .boolean) dX10_init_261 pX10_108 rfl rfl (zI rfl rfl) (fun _ => ⟨rfl, rfl⟩) rfl ?_
  refine AW.sim (z_q_step (n := 130) (j := 38) rfl rfl (by decide +kernel) (by decide) (by decide) (fun i _ => rfl)) ?_
  refine AW.aload_n 265 dX10_init_264 rfl rfl ?_
  refine AW.sipush 268 (nI 512) dX10_init_265 (by decide) rfl ?_
  refine AW.newarr 270 5 760 dX10_init_268 (Or.inr ⟨rfl, rfl⟩) rfl (by decide) rfl rfl (Nat.le_of_ble_eq_true rfl) rfl ?_
  refine AW.putF 273 (.array .boolean) dX10_init_270 pX10_111 rfl rfl (zI rfl rfl) (fun _ => ⟨rfl, rfl⟩) rfl ?_
  refine AW.sim (z_q_step (n := 131) (j := 40) rfl rfl (by decide +kernel) (by decide) (by decide) (fun i _ => rfl)) ?_
  refine AW.aload_n 274 dX10_init_273 rfl rfl ?_
  refine AW.sipush 277 (nI 512) dX10_init_274 (by decide) rfl ?_
  refine AW.newarr 279 4 248 dX10_init_277 (Or.inr ⟨rfl, rfl⟩) rfl (by decide) rfl rfl (Nat.le_of_ble_eq_true rfl) rfl ?_
  refine AW.putF 282 (.array .boolean) dX10_init_279 pX10_114 rfl rfl (zI rfl rfl) (fun _ => ⟨rfl, rfl⟩) rfl ?_
  refine AW.sim (z_q_step (n := 132) (j := 41) rfl rfl (by decide +kernel) (by decide) (by decide) (fun i _ => rfl)) ?_
  refine AW.aload_n 283 dX10_init_282 rfl rfl ?_
  refine AW.iconst 284 (nI 4) dX10_init_283 (by decide) rfl ?_
  refine AW.newarr 286 3 244 dX10_init_284 (Or.inl ⟨rfl, rfl⟩) rfl (by decide) rfl rfl (Nat.le_of_ble_eq_true rfl) rfl ?_
  refine AW.putF 289 (.array .int) dX10_init_286 pX10_117 rfl rfl (zI rfl rfl) (fun _ => ⟨rfl, rfl⟩) rfl ?_
  refine AW.sim (z_q_step (n := 133) (j := 42) rfl rfl (by decide +kernel) (by decide) (by decide) (fun i _ => rfl)) ?_
  refine AW.aload_n 290 dX10_init_289 rfl rfl ?_
  refine AW.iconst 291 (nI 4) dX10_init_290 (by decide) rfl ?_
  refine AW.newarr 293 2 240 dX10_init_291 (Or.inl ⟨rfl, rfl⟩) rfl (by decide) rfl rfl (Nat.le_of_ble_eq_true rfl) rfl ?_
  refine AW.putF 296 (.array .int) dX10_init_293 pX10_120 rfl rfl (zI rfl rfl) (fun _ => ⟨rfl, rfl⟩) rfl ?_
  refine AW.sim (z_q_step (n := 134) (j := 43) rfl rfl (by decide +kernel) (by decide) (by decide) (fun i _ => rfl)) ?_
  refine AW.aload_n 297 dX10_init_296 rfl rfl ?_
  refine AW.sipush 300 (nI 192) dX10_init_297 (by decide) rfl ?_
  refine AW.newarr 302 1 48 dX10_init_300 (Or.inl ⟨rfl, rfl⟩) rfl (by decide) rfl rfl (Nat.le_of_ble_eq_true rfl) rfl ?_
  refine AW.putF 305 (.array .int) dX10_init_302 pX10_123 rfl rfl (zI rfl rfl) (fun _ => ⟨rfl, rfl⟩) rfl ?_
  refine AW.sim (z_q_step (n := 135) (j := 44) rfl rfl (by decide +kernel) (by decide) (by decide) (fun i _ => rfl)) ?_
  refine AW.aload_n 306 dX10_init_305 rfl rfl ?_
  refine AW.bipush 308 (nI 48) dX10_init_306 (by decide) rfl ?_
  refine AW.newarr 310 0 0 dX10_init_308 (Or.inl ⟨rfl, rfl⟩) rfl (by decide) rfl rfl (Nat.le_of_ble_eq_true rfl) rfl ?_
  refine AW.putF 313 (.array .int) dX10_init_310 pX10_126 rfl rfl (zI rfl rfl) (fun _ => ⟨rfl, rfl⟩) rfl ?_
  refine AW.sim (z_q_step (n := 136) (j := 45) rfl rfl (by decide +kernel) (by decide) (by decide) (fun i _ => rfl)) ?_
  refine AW.iconst 314 (nI 0) dX10_init_313 (by decide) rfl ?_
  refine AW.istn1 315 dX10_init_314 (by decide) rfl rfl ?_
  refine L_X10_init1 (M := z_st (z_st zMd 99 16 (nI 4)) 99 33 (-4)) (fun M2 f2 h2 => ?_) 4 0 (by omega) _ (fun _ _ => rfl) (fun j hj => absurd hj (by omega))
  refine AW.iconst 334 (nI 0) dX10_init_333 (by decide) rfl ?_
  refine AW.istn1 335 dX10_init_334 (by decide) rfl rfl ?_
  refine L_X10_init2 (M := M2) (fun M3 f3 h3 => ?_) 12 0 (by omega) _ (fun _ _ => rfl) (fun j hj => absurd hj (by omega))
  refine AW.sim (z_end (fun c c1 c2 => by rw [f3 c c2]; exact f2 c c1) (fun j hj => by rw [f3 133 (by decide)]; exact h2 j hj) h3) ?_
  refine AW.vret dX10_init_355 rfl rfl ⟨rfl, ?_⟩
  exact hQ
end INIT10
