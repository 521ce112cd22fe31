/-- the memory behind the constructors -/
def zMZ (k j : Nat) : Int32 := if k = 0 then (if j = 14 then -4 else 0) else if k = 59 then (if j = 1 then nI 4 else 0) else if k = 63 then (if j < 12 then nI 15 else 0) else if k = 91 ∨ k = 93 ∨ k = 95 ∨ k = 97 then (if j = 1 then -4 else 0) else if k = 99 then (if j = 16 then nI 4 else if j = 33 then -4 else 0) else if k = 115 then (if j < 12 then nI 15 else 0) else if k = 133 then (if j < 4 then -1 else 0) else 0
def zMc (k j : Nat) : Int32 := if k = 0 then 0 else zMZ k j
def zMd (k j : Nat) : Int32 := if 99 ≤ k then 0 else zMZ k j
/-- the shapes on the way -/
def zP (n f a b c : Nat) : zS := (n, zK, fun k j => if k = 0 then (if j < f then zR 20 33 46 0 j else none) else if k = 19 then (if j < a then zR 20 33 46 19 j else none) else if k = 76 then (if j < b then zR 20 33 46 76 j else none) else if k = 90 then (if j < c then zR 20 33 46 90 j else none) else zR 20 33 46 k j)
def zQr (n : Nat) (r : Option Nat) : Option Nat := match r with | some c => if c < n then some c else none | none => none
def zQ (n : Nat) : zS := (n, zK, fun k j => if k = 99 then zQr n (zR 20 33 46 99 j) else zR 20 33 46 k j)
theorem z_q_step {n t len j : Nat} {M : zM} (hK : zK n = (t, len)) (hR : zR 20 33 46 99 j = some n) (hU : ∀ i, i < 46 → zR 20 33 46 99 i = some n → i = j) (hn : 100 ≤ n) (ht : t = 11 ∨ t = 12) (hM : ∀ i, i < len → M n i = 0) : z_sim (z_sR (z_nw (zQ n) t len) 99 j n) (z_nM (zQ n) M) (zQ (n + 1)) M := by
  refine ⟨rfl, fun k hk => ?_⟩
  have hk : k < n + 1 := hk
  have e1 : (z_sR (z_nw (zQ n) t len) 99 j n).2.1 k = zK k := by
    show va_up zK n (t, len) k = zK k
    by_cases e : k = n
    · subst e; rw [va_up_self, hK]
    · rw [va_up_ne _ _ e]
  refine ⟨e1, fun i hi => ?_⟩
  rw [e1] at hi ⊢
  by_cases e : k = n
  · subst e
    rw [hK] at hi ⊢
    have hf : z_irf (t, len) i = false := by
      unfold z_irf
      rcases ht with rfl | rfl <;> rfl
    have hl : z_len (t, len) = len := by
      unfold z_len
      rcases ht with rfl | rfl <;> rfl
    rw [hl] at hi
    refine ⟨fun h => by rw [hf] at h; exact Bool.noConfusion h, fun _ => ?_⟩
    show va_up M k (fun _ => 0) k i = M k i
    rw [va_up_self, hM i hi]
  · refine ⟨fun _ => ?_, fun _ => ?_⟩
    · show va_up (va_up (zQ n).2.2 n (fun _ => none)) 99 (va_up (va_up (zQ n).2.2 n (fun _ => none) 99) j (some n)) k i = (zQ (n + 1)).2.2 k i
      by_cases e9 : k = 99
      · subst e9
        rw [va_up_self]
        show _ = zQr (n + 1) (zR 20 33 46 99 i)
        by_cases ej : i = j
        · subst ej
          rw [va_up_self, hR]
          show some n = if n < n + 1 then some n else none
          rw [if_pos (by omega)]
        · rw [va_up_ne _ _ ej, va_up_ne _ _ e]
          show zQr n (zR 20 33 46 99 i) = zQr (n + 1) (zR 20 33 46 99 i)
          have hi46 : i < 46 := hi
          have hne := fun h => ej (hU i hi46 h)
          generalize zR 20 33 46 99 i = r at hne
          cases r with
          | none => rfl
          | some c =>
            have : c ≠ n := fun h => hne (by rw [h])
            show (if c < n then some c else none) = (if c < n + 1 then some c else none)
            by_cases hc : c < n
            · rw [if_pos hc, if_pos (by omega)]
            · rw [if_neg hc, if_neg (by omega)]
      · rw [va_up_ne _ _ e9, va_up_ne _ _ e]
        show (if k = 99 then _ else zR 20 33 46 k i) = (if k = 99 then _ else zR 20 33 46 k i)
        rw [if_neg e9, if_neg e9]
    · show va_up M n (fun _ => 0) k i = M k i
      rw [va_up_ne _ _ e]
section INITS
variable {l : Launch} {g : zG} {d : Nat}
set_option maxHeartbeats 4000000 in
theorem C_X9_init {Q : zS → zM → Prop} (hQ : Q (zQ 99) zMd) : AMet l g yX9_init cX9_init 1 none (d + 3) 98 1453 [.ref 0] (zP 1 0 0 0 0) zMc (z_Qv Q) := by
  refine AMet.of (ini := true) rfl (fun h => by first | rfl | cases h) (Nat.le_of_ble_eq_true rfl) ?_
  show AW l g RX9 cX9_init 1 none true _ _ _ 0 [some (.ref 0)] [] _ _ _
  refine AW.aload_n 1 dX9_init_0 rfl rfl ?_
  refine AW.objI 4 dX9_init_1 qX9_1 (Nat.le_of_ble_eq_true rfl) rfl ?_
  refine AW.aload_n 5 dX9_init_4 rfl rfl ?_
  refine AW.new 8 97 1451 dX9_init_5 nX9_7 rfl rfl (Nat.le_of_ble_eq_true rfl) rfl ?_
  refine AW.dup 9 dX9_init_8 rfl rfl ?_
  refine AW.cIN0 12 96 1331 dX9_init_9 kX9_9 rfl (Nat.le_of_ble_eq_true rfl) rfl rfl rfl (C_X6_init (zI rfl rfl) (Nat.le_of_ble_eq_true rfl) ?_)
  refine AW.putF 15 (.object "MachineBench$Tape") dX9_init_12 pX9_10 rfl rfl (zI rfl rfl) (fun _ => ⟨rfl, rfl⟩) rfl ?_
  refine AW.sim (S' := zP 3 1 0 0 0) (M' := zMc) (z_sim_of (by decide +kernel)) ?_
  refine AW.aload_n 16 dX9_init_15 rfl rfl ?_
  refine AW.new 19 95 1324 dX9_init_16 nX9_16 rfl rfl (Nat.le_of_ble_eq_true rfl) rfl ?_
  refine AW.dup 20 dX9_init_19 rfl rfl ?_
  refine AW.aload_n 21 dX9_init_20 rfl rfl ?_
  refine AW.getR 24 dX9_init_21 fX9_10 rfl (zI rfl rfl) rfl rfl ?_
  refine AW.cI1 27 80 1104 dX9_init_24 kX9_18 rfl (Nat.le_of_ble_eq_true rfl) rfl rfl rfl (C_X4_init (zI rfl rfl) (Nat.le_of_ble_eq_true rfl) ?_)
  refine AW.putF 30 (.object "MachineBench$Reader") dX9_init_27 pX9_21 rfl rfl (zI rfl rfl) (fun _ => ⟨rfl, rfl⟩) rfl ?_
  refine AW.sim (S' := zP 19 2 0 0 0) (M' := zMc) (z_sim_of (by decide +kernel)) ?_
  refine AW.aload_n 31 dX9_init_30 rfl rfl ?_
  refine AW.iconst 32 (nI 2) dX9_init_31 (by decide) rfl ?_
  refine AW.newref 35 79 1102 dX9_init_32 (Or.inr (Or.inl ⟨rfl, rfl⟩)) qX9_25 rfl (by decide) rfl rfl (Nat.le_of_ble_eq_true rfl) rfl ?_
  refine AW.dup 36 dX9_init_35 rfl rfl ?_
  refine AW.iconst 37 (nI 0) dX9_init_36 (by decide) rfl ?_
  refine AW.new 40 78 1097 dX9_init_37 nX9_25 rfl rfl (Nat.le_of_ble_eq_true rfl) rfl ?_
  refine AW.dup 41 dX9_init_40 rfl rfl ?_
  refine AW.cIN0 44 66 1033 dX9_init_41 kX9_27 rfl (Nat.le_of_ble_eq_true rfl) rfl rfl rfl (C_X2_init (zI rfl rfl) (Nat.le_of_ble_eq_true rfl) ?_)
  refine AW.aast 45 dX9_init_44 (zA rfl rfl) (by decide) (zI rfl rfl) rfl (by omega) (by decide) rfl ?_
  refine AW.sim (S' := zP 33 2 1 0 0) (M' := zMc) (z_sim_of (by decide +kernel)) ?_
  refine AW.dup 46 dX9_init_45 rfl rfl ?_
  refine AW.iconst 47 (nI 1) dX9_init_46 (by decide) rfl ?_
  refine AW.new 50 65 1028 dX9_init_47 nX9_25 rfl rfl (Nat.le_of_ble_eq_true rfl) rfl ?_
  refine AW.dup 51 dX9_init_50 rfl rfl ?_
  refine AW.cIN0 54 53 964 dX9_init_51 kX9_27 rfl (Nat.le_of_ble_eq_true rfl) rfl rfl rfl (C_X2_init (zI rfl rfl) (Nat.le_of_ble_eq_true rfl) ?_)
  refine AW.aast 55 dX9_init_54 (zA rfl rfl) (by decide) (zI rfl rfl) rfl (by omega) (by decide) rfl ?_
  refine AW.sim (S' := zP 46 2 2 0 0) (M' := zMc) (z_sim_of (by decide +kernel)) ?_
  refine AW.putF 58 (.array (.object "MachineBench$Machine")) dX9_init_55 pX9_28 rfl rfl (zI rfl rfl) (fun _ => ⟨rfl, rfl⟩) rfl ?_
  refine AW.sim (S' := zP 46 3 2 0 0) (M' := zMc) (z_sim_of (by decide +kernel)) ?_
  refine AW.aload_n 59 dX9_init_58 rfl rfl ?_
  refine AW.new 62 52 959 dX9_init_59 nX9_25 rfl rfl (Nat.le_of_ble_eq_true rfl) rfl ?_
  refine AW.dup 63 dX9_init_62 rfl rfl ?_
  refine AW.cIN0 66 40 895 dX9_init_63 kX9_27 rfl (Nat.le_of_ble_eq_true rfl) rfl rfl rfl (C_X2_init (zI rfl rfl) (Nat.le_of_ble_eq_true rfl) ?_)
  refine AW.putR 69 (.object "MachineBench$Machine") dX9_init_66 pX9_32 rfl (zI rfl rfl) (fun _ => ⟨rfl, rfl⟩) rfl ?_
  refine AW.sim (S' := zP 59 4 2 0 0) (M' := zMc) (z_sim_of (by decide +kernel)) ?_
  refine AW.aload_n 70 dX9_init_69 rfl rfl ?_
  refine AW.new 73 39 893 dX9_init_70 nX9_36 rfl rfl (Nat.le_of_ble_eq_true rfl) rfl ?_
  refine AW.dup 74 dX9_init_73 rfl rfl ?_
  refine AW.cI0 77 35 854 dX9_init_74 kX9_38 rfl (Nat.le_of_ble_eq_true rfl) rfl rfl rfl (C_X8_init (zI rfl rfl) (Nat.le_of_ble_eq_true rfl) ?_)
  refine AW.putF 80 (.object "MachineBench$World") dX9_init_77 pX9_39 rfl rfl (zI rfl rfl) (fun _ => ⟨rfl, rfl⟩) rfl ?_
  refine AW.sim (S' := zP 64 5 2 0 0) (M' := zMc) (z_sim_of (by decide +kernel)) ?_
  refine AW.aload_n 81 dX9_init_80 rfl rfl ?_
  refine AW.new 84 34 849 dX9_init_81 nX9_43 rfl rfl (Nat.le_of_ble_eq_true rfl) rfl ?_
  refine AW.dup 85 dX9_init_84 rfl rfl ?_
  refine AW.cIN0 88 29 789 dX9_init_85 kX9_45 rfl (Nat.le_of_ble_eq_true rfl) rfl rfl rfl (C_X3_init (zI rfl rfl) (Nat.le_of_ble_eq_true rfl) ?_)
  refine AW.putF 91 (.object "MachineBench$Play") dX9_init_88 pX9_46 rfl rfl (zI rfl rfl) (fun _ => ⟨rfl, rfl⟩) rfl ?_
  refine AW.sim (S' := zP 70 6 2 0 0) (M' := zMc) (z_sim_of (by decide +kernel)) ?_
  refine AW.aload_n 92 dX9_init_91 rfl rfl ?_
  refine AW.new 95 28 787 dX9_init_92 nX9_50 rfl rfl (Nat.le_of_ble_eq_true rfl) rfl ?_
  refine AW.dup 96 dX9_init_95 rfl rfl ?_
  refine AW.cIN0 99 23 591 dX9_init_96 kX9_52 rfl (Nat.le_of_ble_eq_true rfl) rfl rfl rfl (C_X0_init (zI rfl rfl) (Nat.le_of_ble_eq_true rfl) ?_)
  refine AW.putF 102 (.object "MachineBench$Book") dX9_init_99 pX9_53 rfl rfl (zI rfl rfl) (fun _ => ⟨rfl, rfl⟩) rfl ?_
  refine AW.sim (S' := zP 76 7 2 0 0) (M' := zMc) (z_sim_of (by decide +kernel)) ?_
  refine AW.aload_n 103 dX9_init_102 rfl rfl ?_
  refine AW.iconst 104 (nI 3) dX9_init_103 (by decide) rfl ?_
  refine AW.newref 107 22 588 dX9_init_104 (Or.inl ⟨rfl, rfl⟩) qX9_57 rfl (by decide) rfl rfl (Nat.le_of_ble_eq_true rfl) rfl ?_
  refine AW.dup 108 dX9_init_107 rfl rfl ?_
  refine AW.iconst 109 (nI 0) dX9_init_108 (by decide) rfl ?_
  refine AW.new 112 21 586 dX9_init_109 nX9_57 rfl rfl (Nat.le_of_ble_eq_true rfl) rfl ?_
  refine AW.dup 113 dX9_init_112 rfl rfl ?_
  refine AW.cIN0 116 20 538 dX9_init_113 kX9_59 rfl (Nat.le_of_ble_eq_true rfl) rfl rfl rfl (C_X1_init (zI rfl rfl) (Nat.le_of_ble_eq_true rfl) ?_)
  refine AW.aast 117 dX9_init_116 (zA rfl rfl) (by decide) (zI rfl rfl) rfl (by omega) (by decide) rfl ?_
  refine AW.sim (S' := zP 79 7 2 1 0) (M' := zMc) (z_sim_of (by decide +kernel)) ?_
  refine AW.dup 118 dX9_init_117 rfl rfl ?_
  refine AW.iconst 119 (nI 1) dX9_init_118 (by decide) rfl ?_
  refine AW.new 122 19 536 dX9_init_119 nX9_57 rfl rfl (Nat.le_of_ble_eq_true rfl) rfl ?_
  refine AW.dup 123 dX9_init_122 rfl rfl ?_
  refine AW.cIN0 126 18 488 dX9_init_123 kX9_59 rfl (Nat.le_of_ble_eq_true rfl) rfl rfl rfl (C_X1_init (zI rfl rfl) (Nat.le_of_ble_eq_true rfl) ?_)
  refine AW.aast 127 dX9_init_126 (zA rfl rfl) (by decide) (zI rfl rfl) rfl (by omega) (by decide) rfl ?_
  refine AW.sim (S' := zP 81 7 2 2 0) (M' := zMc) (z_sim_of (by decide +kernel)) ?_
  refine AW.dup 128 dX9_init_127 rfl rfl ?_
  refine AW.iconst 129 (nI 2) dX9_init_128 (by decide) rfl ?_
  refine AW.new 132 17 486 dX9_init_129 nX9_57 rfl rfl (Nat.le_of_ble_eq_true rfl) rfl ?_
  refine AW.dup 133 dX9_init_132 rfl rfl ?_
  refine AW.cIN0 136 16 438 dX9_init_133 kX9_59 rfl (Nat.le_of_ble_eq_true rfl) rfl rfl rfl (C_X1_init (zI rfl rfl) (Nat.le_of_ble_eq_true rfl) ?_)
  refine AW.aast 137 dX9_init_136 (zA rfl rfl) (by decide) (zI rfl rfl) rfl (by omega) (by decide) rfl ?_
  refine AW.sim (S' := zP 83 7 2 3 0) (M' := zMc) (z_sim_of (by decide +kernel)) ?_
  refine AW.putF 140 (.array (.object "MachineBench$Keeper")) dX9_init_137 pX9_60 rfl rfl (zI rfl rfl) (fun _ => ⟨rfl, rfl⟩) rfl ?_
  refine AW.sim (S' := zP 83 8 2 3 0) (M' := zMc) (z_sim_of (by decide +kernel)) ?_
  refine AW.aload_n 141 dX9_init_140 rfl rfl ?_
  refine AW.new 144 15 434 dX9_init_141 nX9_64 rfl rfl (Nat.le_of_ble_eq_true rfl) rfl ?_
  refine AW.dup 145 dX9_init_144 rfl rfl ?_
  refine AW.cIN0 148 12 416 dX9_init_145 kX9_66 rfl (Nat.le_of_ble_eq_true rfl) rfl rfl rfl (C_X7_init (zI rfl rfl) (Nat.le_of_ble_eq_true rfl) ?_)
  refine AW.putF 151 (.object "MachineBench$Things") dX9_init_148 pX9_67 rfl rfl (zI rfl rfl) (fun _ => ⟨rfl, rfl⟩) rfl ?_
  refine AW.sim (S' := zP 87 9 2 3 0) (M' := zMc) (z_sim_of (by decide +kernel)) ?_
  refine AW.aload_n 152 dX9_init_151 rfl rfl ?_
  refine AW.bipush 154 (nI 64) dX9_init_152 (by decide) rfl ?_
  refine AW.newarr 156 11 352 dX9_init_154 (Or.inr ⟨rfl, rfl⟩) rfl (by decide) rfl rfl (Nat.le_of_ble_eq_true rfl) rfl ?_
  refine AW.putF 159 (.array .boolean) dX9_init_156 pX9_71 rfl rfl (zI rfl rfl) (fun _ => ⟨rfl, rfl⟩) rfl ?_
  refine AW.sim (S' := zP 88 10 2 3 0) (M' := zMc) (z_sim_of (by decide +kernel)) ?_
  refine AW.aload_n 160 dX9_init_159 rfl rfl ?_
  refine AW.sipush 163 (nI 128) dX9_init_160 (by decide) rfl ?_
  refine AW.newarr 165 10 224 dX9_init_163 (Or.inl ⟨rfl, rfl⟩) rfl (by decide) rfl rfl (Nat.le_of_ble_eq_true rfl) rfl ?_
  refine AW.putF 168 (.array .int) dX9_init_165 pX9_75 rfl rfl (zI rfl rfl) (fun _ => ⟨rfl, rfl⟩) rfl ?_
  refine AW.sim (S' := zP 89 11 2 3 0) (M' := zMc) (z_sim_of (by decide +kernel)) ?_
  refine AW.aload_n 169 dX9_init_168 rfl rfl ?_
  refine AW.bipush 171 (nI 16) dX9_init_169 (by decide) rfl ?_
  refine AW.newarr 173 9 208 dX9_init_171 (Or.inl ⟨rfl, rfl⟩) rfl (by decide) rfl rfl (Nat.le_of_ble_eq_true rfl) rfl ?_
  refine AW.putF 176 (.array .int) dX9_init_173 pX9_79 rfl rfl (zI rfl rfl) (fun _ => ⟨rfl, rfl⟩) rfl ?_
  refine AW.sim (S' := zP 90 12 2 3 0) (M' := zMc) (z_sim_of (by decide +kernel)) ?_
  refine AW.aload_n 177 dX9_init_176 rfl rfl ?_
  refine AW.iconst 178 (nI 4) dX9_init_177 (by decide) rfl ?_
  refine AW.newref 181 8 204 dX9_init_178 (Or.inr (Or.inr ⟨rfl, rfl⟩)) qX9_82 rfl (by decide) rfl rfl (Nat.le_of_ble_eq_true rfl) rfl ?_
  refine AW.dup 182 dX9_init_181 rfl rfl ?_
  refine AW.iconst 183 (nI 0) dX9_init_182 (by decide) rfl ?_
  refine AW.new 186 7 201 dX9_init_183 nX9_82 rfl rfl (Nat.le_of_ble_eq_true rfl) rfl ?_
  refine AW.dup 187 dX9_init_186 rfl rfl ?_
  refine AW.cIN0 190 6 153 dX9_init_187 kX9_84 rfl (Nat.le_of_ble_eq_true rfl) rfl rfl rfl (C_X5_init (zI rfl rfl) (Nat.le_of_ble_eq_true rfl) ?_)
  refine AW.aast 191 dX9_init_190 (zA rfl rfl) (by decide) (zI rfl rfl) rfl (by omega) (by decide) rfl ?_
  refine AW.sim (S' := zP 93 12 2 3 1) (M' := zMc) (z_sim_of (by decide +kernel)) ?_
  refine AW.dup 192 dX9_init_191 rfl rfl ?_
  refine AW.iconst 193 (nI 1) dX9_init_192 (by decide) rfl ?_
  refine AW.new 196 5 150 dX9_init_193 nX9_82 rfl rfl (Nat.le_of_ble_eq_true rfl) rfl ?_
  refine AW.dup 197 dX9_init_196 rfl rfl ?_
  refine AW.cIN0 200 4 102 dX9_init_197 kX9_84 rfl (Nat.le_of_ble_eq_true rfl) rfl rfl rfl (C_X5_init (zI rfl rfl) (Nat.le_of_ble_eq_true rfl) ?_)
  refine AW.aast 201 dX9_init_200 (zA rfl rfl) (by decide) (zI rfl rfl) rfl (by omega) (by decide) rfl ?_
  refine AW.sim (S' := zP 95 12 2 3 2) (M' := zMc) (z_sim_of (by decide +kernel)) ?_
  refine AW.dup 202 dX9_init_201 rfl rfl ?_
  refine AW.iconst 203 (nI 2) dX9_init_202 (by decide) rfl ?_
  refine AW.new 206 3 99 dX9_init_203 nX9_82 rfl rfl (Nat.le_of_ble_eq_true rfl) rfl ?_
  refine AW.dup 207 dX9_init_206 rfl rfl ?_
  refine AW.cIN0 210 2 51 dX9_init_207 kX9_84 rfl (Nat.le_of_ble_eq_true rfl) rfl rfl rfl (C_X5_init (zI rfl rfl) (Nat.le_of_ble_eq_true rfl) ?_)
  refine AW.aast 211 dX9_init_210 (zA rfl rfl) (by decide) (zI rfl rfl) rfl (by omega) (by decide) rfl ?_
  refine AW.sim (S' := zP 97 12 2 3 3) (M' := zMc) (z_sim_of (by decide +kernel)) ?_
  refine AW.dup 212 dX9_init_211 rfl rfl ?_
  refine AW.iconst 213 (nI 3) dX9_init_212 (by decide) rfl ?_
  refine AW.new 216 1 48 dX9_init_213 nX9_82 rfl rfl (Nat.le_of_ble_eq_true rfl) rfl ?_
  refine AW.dup 217 dX9_init_216 rfl rfl ?_
  refine AW.cIN0 220 0 0 dX9_init_217 kX9_84 rfl (Nat.le_of_ble_eq_true rfl) rfl rfl rfl (C_X5_init (zI rfl rfl) (Nat.le_of_ble_eq_true rfl) ?_)
  refine AW.aast 221 dX9_init_220 (zA rfl rfl) (by decide) (zI rfl rfl) rfl (by omega) (by decide) rfl ?_
  refine AW.sim (S' := zP 99 12 2 3 4) (M' := zMc) (z_sim_of (by decide +kernel)) ?_
  refine AW.putF 224 (.array (.object "MachineBench$Sheet")) dX9_init_221 pX9_85 rfl rfl (zI rfl rfl) (fun _ => ⟨rfl, rfl⟩) rfl ?_
  refine AW.sim (S' := zP 99 13 2 3 4) (M' := zMc) (z_sim_of (by decide +kernel)) ?_
  refine AW.aload_n 225 dX9_init_224 rfl rfl ?_
  refine AW.iconst 226 (nI 0) dX9_init_225 (by decide) rfl ?_
  refine AW.putI 229 .boolean dX9_init_226 pX9_89 rfl (zI rfl rfl) rfl rfl rfl ?_
  refine AW.aload_n 230 dX9_init_229 rfl rfl ?_
  refine AW.bipush 232 (-4) dX9_init_230 (by decide) rfl ?_
  refine AW.putI 235 .int dX9_init_232 pX9_93 rfl (zI rfl rfl) rfl rfl rfl ?_
  refine AW.aload_n 236 dX9_init_235 rfl rfl ?_
  refine AW.iconst 237 (nI 0) dX9_init_236 (by decide) rfl ?_
  refine AW.putI 240 .int dX9_init_237 pX9_97 rfl (zI rfl rfl) rfl rfl rfl ?_
  refine AW.sim (S' := zQ 99) (M' := zMd) (z_sim_of (by decide +kernel)) ?_
  refine AW.vret dX9_init_240 rfl rfl ⟨rfl, ?_⟩
  exact hQ
end INITS
