def z_pr0 (n so : Nat) (mk : Nat → Nat) (j : Nat) : Bool := !(decide (j < n) && !so.testBit (mk j))
/-- the act at a tick of a play with things otherwise *)-/
def z_oa (n : Nat) (H : Nat → Nat → Nat → Bool) (A : Nat → Nat) (N : Nat → Int32) (sg lt : Nat → Nat) (pr : Nat → Bool) (tick : Nat) : Nat := z_act n A (z_ch n H pr (z_ps n H N pr (fun t => 2 * sg t + lt t) tick) (2 * sg tick + lt tick))
theorem z_bit_i {q j : Nat} (hq : q < 256) (hj : j < 8) : (q.testBit j = true ↔ ((nI q >>> (nI j &&& 31)) &&& nI 1).toInt = 1) := by
  rw [z_bit q hq j hj]; cases q.testBit j <;> decide
theorem z_bit_0 {q j : Nat} (hq : q < 256) (hj : j < 8) : ((!q.testBit j) = true ↔ ((nI q >>> (nI j &&& 31)) &&& nI 1).toInt = 0) := by
  rw [z_bit q hq j hj]; cases q.testBit j <;> decide
section COMES2
variable {l : Launch} {g : zG} {d m0 m1 md : Nat} {M : zM} {T n t : Nat} {H : Nat → Nat → Nat → Bool} {A : Nat → Nat} {N : Nat → Int32} {mk tk tt tn sg lt : Nat → Nat}
theorem C_X10_comesBy (hT : M 99 16 = nI T) (hT2 : T ≤ 12) (hG : g_mach M 0 n H A N) (hmk : ∀ r, r < n → M 105 r = nI (mk r) ∧ mk r < 4) (ht : M 99 34 = nI t) (ht2 : t ≤ 6) (hth : ∀ k, k < t → M 127 k = nI (tk k) ∧ M 128 k = nI (tt k) ∧ M 129 k = nI (tn k)) (hok : z_tok t tk tt tn) (hW : ∀ i, i < 12 → M 113 i = nI (sg i) ∧ M 114 i = nI (lt i) ∧ sg i < 16 ∧ lt i < 2) {s so tick : Nat} (hs : s < 64) (hso : so < 16) (hd : M 99 33 = nI tick) (htick : tick < T) {Q : Int32 → zS → zM → Prop}
    (h1 : (M 99 32).toInt = z_oa n H A N (z_uS s tk tt tn sg t) (z_uL s tk tt lt t) (z_uP s tk tn (z_pr0 n so mk) t) tick → ∀ M', (∀ c, c ≠ 116 → c ≠ 117 → c ≠ 118 → c ≠ 119 → c ≠ 120 → M' c = M c) → Q (nI 1) (ZS m0 m1 md) M')
    (h0 : ¬ (M 99 32).toInt = z_oa n H A N (z_uS s tk tt tn sg t) (z_uL s tk tt lt t) (z_uP s tk tn (z_pr0 n so mk) t) tick → ∀ M', (∀ c, c ≠ 116 → c ≠ 117 → c ≠ 118 → c ≠ 119 → c ≠ 120 → M' c = M c) → Q (nI 0) (ZS m0 m1 md) M') : AMet l g yX10_comesBy cX10_comesBy 6 (some .boolean) (d + 2) 0 0 [.ref 99, .int (nI s), .int (nI so)] (ZS m0 m1 md) M (z_Qi Q) := by
  have h8 := hG.2.1
  refine AMet.of (ini := false) rfl (fun h => by first | rfl | cases h) (Nat.le_of_ble_eq_true rfl) ?_
  show AW l g RX10 cX10_comesBy 6 (some .boolean) false _ _ _ 0 [some (.ref 99), some (.int (nI s)), some (.int (nI so)), none, none, none] [] _ _ _
  refine AW.aload_n 1 dX10_comesBy_0 rfl rfl ?_
  refine AW.cVv0 4 dX10_comesBy_1 kX10_200 (zI rfl rfl) (Nat.le_of_ble_eq_true rfl) rfl (C_X10_lays (fun M1 k1 k2 => ?_))
  refine AW.iconst 5 (nI 0) dX10_comesBy_4 (by decide) rfl ?_
  refine AW.istn3 6 dX10_comesBy_5 (by decide) rfl rfl ?_
  refine AW.iconst 7 (nI 0) dX10_comesBy_6 (by decide) rfl ?_
  refine AW.ist4 9 dX10_comesBy_7 (by decide) rfl rfl ?_
  have n0 : M1 104 0 = nI n := by rw [k1 104 (by decide) (by decide)]; exact hG.1
  refine L1_X10_comesBy n0 h8 (fun r hr => by rw [k1 105 (by decide) (by decide)]; exact hmk r hr) hs hso (fun q hq hb => ?_) n 0 (by omega) 0 (by decide) (fun j _ => by rw [Nat.zero_testBit]; simp)
  refine AW.iconst 53 (nI 0) dX10_comesBy_52 (by decide) rfl ?_
  refine AW.ist4 55 dX10_comesBy_53 (by decide) rfl rfl ?_
  have t0 : M1 99 34 = nI t := by rw [k1 99 (by decide) (by decide)]; exact ht
  refine L2_X10_comesBy (M := M1) t0 ht2 (fun k hk => by rw [k1 127 (by decide) (by decide), k1 128 (by decide) (by decide), k1 129 (by decide) (by decide)]; exact hth k hk) hok hs (fun i hi => (hW i hi).2.2.1) (fun i hi => (hW i hi).2.2.2) (pr := z_pr0 n so mk) (fun M2 q2 v5 e1 e2 e3 e4 => ?_) t 0 none (by omega) M1 q (fun _ _ _ => rfl) (fun i hi => ⟨by rw [(k2 i hi).1]; exact (hW i hi).1, by rw [(k2 i hi).2]; exact (hW i hi).2.1⟩) hq (fun j hj => by rw [hb j hj]; unfold z_uP z_pr0; rw [Bool.not_not])
  have fr : ∀ c, c ≠ 116 → c ≠ 117 → M2 c = M c := fun c c1 c2 => by rw [e1 c c1 c2, k1 c c1 c2]
  have T0 : M2 99 16 = nI T := by rw [fr 99 (by decide) (by decide)]; exact hT
  have G0 : g_mach M2 0 n H A N := by
    unfold g_mach; rw [fr 104 (by decide) (by decide), fr 106 (by decide) (by decide), fr 107 (by decide) (by decide), fr 108 (by decide) (by decide)]; exact hG
  refine AW.aload_n 171 dX10_comesBy_170 rfl rfl ?_
  refine AW.iconst 172 (nI 0) dX10_comesBy_171 (by decide) rfl ?_
  refine AW.iload_n 173 dX10_comesBy_172 rfl rfl ?_
  refine AW.cVv2 176 dX10_comesBy_173 kX10_203 (zI rfl rfl) (Nat.le_of_ble_eq_true rfl) rfl (C_X10_plays T0 hT2 (by decide) G0 (pr := z_uP s tk tn (z_pr0 n so mk) t) (fun r hr => by rw [← z_bit_0 e3 hr, e4 r hr, Bool.not_not]) (sg := z_uS s tk tt tn sg t) (lt := z_uL s tk tt lt t) (fun i hi => ⟨(e2 i (by omega)).1, (e2 i (by omega)).2, z_uS_lt hok (fun i hi => (hW i hi).2.2.1) t (by omega) i (by omega), z_uL_lt (fun i hi => (hW i hi).2.2.2) t i (by omega)⟩) (fun M3 f1 f2 => ?_))
  have fr3 : ∀ c, c ≠ 116 → c ≠ 117 → c ≠ 118 → c ≠ 119 → c ≠ 120 → M3 c = M c := fun c c1 c2 c3 c4 c5 => by rw [f1 c c3 c4 c5, fr c c1 c2]
  have d0 : M3 99 33 = nI tick := by rw [fr3 99 (by decide) (by decide) (by decide) (by decide) (by decide)]; exact hd
  have a0 : M3 99 32 = M 99 32 := by rw [fr3 99 (by decide) (by decide) (by decide) (by decide) (by decide)]
  have v0 := (f2 tick htick).2.2
  have hac : z_act n A (z_ch n H (z_uP s tk tn (z_pr0 n so mk) t) (z_ps n H N (z_uP s tk tn (z_pr0 n so mk) t) (fun i => 2 * z_uS s tk tt tn sg t i + z_uL s tk tt lt t i) tick) (2 * z_uS s tk tt tn sg t tick + z_uL s tk tt lt t tick)) < 2 ^ 31 := by
    unfold z_act; split
    · rename_i hr; have := (hG.2.2 _ hr).1; omega
    · omega
  refine AW.aload_n 177 dX10_comesBy_176 rfl rfl ?_
  refine AW.getR 180 dX10_comesBy_177 fX10_75 rfl (zI rfl rfl) rfl rfl ?_
  refine AW.aload_n 181 dX10_comesBy_180 rfl rfl ?_
  refine AW.getI 184 dX10_comesBy_181 fX10_96 rfl (zI rfl rfl) rfl ?_
  refine AW.topi (nI tick) d0 ?_
  refine AW.iald 185 dX10_comesBy_184 (zA rfl rfl) rfl (by omega) (by decide) rfl ?_
  refine AW.topi (nI (z_oa n H A N (z_uS s tk tt tn sg t) (z_uL s tk tt lt t) (z_uP s tk tn (z_pr0 n so mk) t) tick)) v0 ?_
  refine AW.aload_n 186 dX10_comesBy_185 rfl rfl ?_
  refine AW.getI 189 dX10_comesBy_186 fX10_247 rfl (zI rfl rfl) rfl ?_
  refine AW.topi (M 99 32) a0 ?_
  refine AW.zicmp_ne 192 196 dX10_comesBy_189 (by decide) rfl (z_ti hac) rfl (fun b189 => ?_) (fun b189 => ?_)
  · skip
    refine AW.iconst 197 (nI 0) dX10_comesBy_196 (by decide) rfl ?_
    refine AW.iret dX10_comesBy_197 .boolean rfl rfl rfl ⟨_, rfl, ?_⟩
    first | exact h1 (by omega) M3 fr3 | exact h0 (fun z => by omega) M3 fr3
  · skip
    refine AW.iconst 193 (nI 1) dX10_comesBy_192 (by decide) rfl ?_
    refine AW.goto 197 dX10_comesBy_193 (by decide) ?_
    refine AW.iret dX10_comesBy_197 .boolean rfl rfl rfl ⟨_, rfl, ?_⟩
    first | exact h1 (by omega) M3 fr3 | exact h0 (fun z => by omega) M3 fr3
end COMES2
