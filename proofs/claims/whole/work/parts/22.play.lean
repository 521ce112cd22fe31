/-- the first place from r on (q of them) at which P holds; 8: none -/
def z_fst (P : Nat → Bool) : Nat → Nat → Nat
  | _, 0 => 8
  | r, q + 1 => if P r then r else z_fst P (r + 1) q
theorem z_fst_or (P : Nat → Bool) : ∀ (q r : Nat), z_fst P r q < r + q ∨ z_fst P r q = 8
  | 0, _ => Or.inr rfl
  | q + 1, r => by
    unfold z_fst
    split
    · left; omega
    · rcases z_fst_or P q (r + 1) with h | h
      · left; omega
      · right; exact h
theorem z_fst_lt (P : Nat → Bool) {n : Nat} (hn : n ≤ 8) : z_fst P 0 n ≤ 8 := by
  rcases z_fst_or P n 0 with h | h <;> omega
theorem z_fst_congr {P P' : Nat → Bool} : ∀ (q r : Nat), (∀ i, r ≤ i → i < r + q → P i = P' i) → z_fst P r q = z_fst P' r q
  | 0, _, _ => rfl
  | q + 1, r, h => by
    unfold z_fst
    rw [h r (by omega) (by omega), z_fst_congr q (r + 1) (fun i h1 h2 => h i (by omega) (by omega))]
def z_act (n : Nat) (A : Nat → Nat) (r : Nat) : Nat := if r < n then A r else 0
def z_nx (n : Nat) (N : Nat → Int32) (r st : Nat) : Nat := if r < n ∧ ¬ N r = -4 then (N r).toNatClampNeg else st
/-- the rule that is chosen; the state ahead of a tick -/
def z_ch (n : Nat) (H : Nat → Nat → Nat → Bool) (pr : Nat → Bool) (st x : Nat) : Nat := z_fst (fun r => pr r && H r st x) 0 n
def z_ps (n : Nat) (H : Nat → Nat → Nat → Bool) (N : Nat → Int32) (pr : Nat → Bool) (x : Nat → Nat) : Nat → Nat
  | 0 => 0
  | t + 1 => z_nx n N (z_ch n H pr (z_ps n H N pr x t) (x t)) (z_ps n H N pr x t)
/-- what a machine's cells hold: n rules, H: where each holds, A: its act, N: its state (-4: as it is), K: its maker -/
def f_mach (M : zM) (b n : Nat) (H : Nat → Nat → Nat → Bool) (A : Nat → Nat) (N : Nat → Int32) : Prop := M b 4 = nI n ∧ n ≤ 8 ∧ ∀ r, r < n → A r < 4 ∧ M (b + 2) r = nI (A r) ∧ M (b + 3) r = N r ∧ (N r = -4 ∨ ∃ s, s < 4 ∧ N r = nI s) ∧
  ∀ st x, st < 4 → x < 32 → (H r st x = true ↔ ((((M (b + 5 + r) st).toUInt32 >>> ((nI x).toUInt32 &&& Int32.toUInt32 31)).toInt32) &&& nI 1).toInt = 1)
def g_mach (M : zM) (m n : Nat) (H : Nat → Nat → Nat → Bool) (A : Nat → Nat) (N : Nat → Int32) : Prop := M 104 m = nI n ∧ n ≤ 8 ∧ ∀ r, r < n → A r < 4 ∧ M 106 (8 * m + r) = nI (A r) ∧ M 107 (8 * m + r) = N r ∧ (N r = -4 ∨ ∃ s, s < 4 ∧ N r = nI s) ∧
  ∀ st x, st < 4 → x < 32 → (H r st x = true ↔ ¬ (M 108 (128 * (8 * m + r) + (32 * st + x))).toInt = 0)
theorem z_nx_lt {n r st : Nat} {N : Nat → Int32} (h : ∀ r, r < n → (N r = -4 ∨ ∃ s, s < 4 ∧ N r = nI s)) (hs : st < 4) : z_nx n N r st < 4 := by
  unfold z_nx
  split
  · rename_i q
    rcases h r q.1 with e | ⟨s, h1, e⟩
    · exact absurd e q.2
    · rw [e, nI_clamp (by omega)]; exact h1
  · exact hs
theorem z_ps_lt {n : Nat} {H : Nat → Nat → Nat → Bool} {N : Nat → Int32} {pr : Nat → Bool} {x : Nat → Nat} (h : ∀ r, r < n → (N r = -4 ∨ ∃ s, s < 4 ∧ N r = nI s)) : ∀ t, z_ps n H N pr x t < 4
  | 0 => show (0 : Nat) < 4 by decide
  | t + 1 => z_nx_lt h (z_ps_lt h t)
theorem f_mach.nx {M : zM} {b n : Nat} {H : Nat → Nat → Nat → Bool} {A : Nat → Nat} {N : Nat → Int32} (h : f_mach M b n H A N) : ∀ r, r < n → (N r = -4 ∨ ∃ s, s < 4 ∧ N r = nI s) := fun r hr => (h.2.2 r hr).2.2.2.1
theorem g_mach.nx {M : zM} {b n : Nat} {H : Nat → Nat → Nat → Bool} {A : Nat → Nat} {N : Nat → Int32} (h : g_mach M b n H A N) : ∀ r, r < n → (N r = -4 ∨ ∃ s, s < 4 ∧ N r = nI s) := fun r hr => (h.2.2 r hr).2.2.2.1
theorem z_m4 : (-4 : Int32).toInt = -4 := by decide
theorem z_nx_pos {n r st : Nat} {N : Nat → Int32} (h : r < n) (hN : N r = -4 ∨ ∃ s, s < 4 ∧ N r = nI s) (h0 : 0 ≤ (N r).toInt) : nI (z_nx n N r st) = N r := by
  unfold z_nx
  rcases hN with e | ⟨s, h1, e⟩
  · rw [e, z_m4] at h0; omega
  · have e4 : ¬ N r = -4 := fun z => by rw [z, z_m4] at h0; omega
    rw [if_pos ⟨h, e4⟩, e, nI_clamp (by omega)]
theorem z_nx_neg {n r st : Nat} {N : Nat → Int32} (h : r < n) (hN : N r = -4 ∨ ∃ s, s < 4 ∧ N r = nI s) (h0 : ¬ 0 ≤ (N r).toInt) : z_nx n N r st = st := by
  unfold z_nx
  rcases hN with e | ⟨s, h1, e⟩
  · rw [if_neg (fun z => z.2 e)]
  · rw [e, z_ti (by omega)] at h0; omega
section MPLAY
variable {l : Launch} {g : zG} {d m0 m1 md : Nat} {M : zM} {T : Nat} {m n : Nat} {H : Nat → Nat → Nat → Bool} {A : Nat → Nat} {N : Nat → Int32} {pr : Nat → Bool} {wo : Int32}
theorem L_X10_chosen (hm : m < 2) (hG : g_mach M m n H A N) (hp : ∀ r, r < 8 → (pr r = true ↔ ((wo >>> (nI r &&& 31)) &&& nI 1).toInt = 0)) {st x : Nat} (hst : st < 4) (hx : x < 32) {Q : Int32 → zS → zM → Prop} :
    ∀ (q r : Nat), r + q = n → Q (nI (z_fst (fun r => pr r && H r st x) r q)) (ZS m0 m1 md) M → AW l g RX10 cX10_chosen 5 (some .int) false d 0 0 3 [some (.ref 99), some (.int (nI m)), some (.int (nI (32 * st + x))), some (.int wo), some (.int (nI r))] [] (ZS m0 m1 md) M (z_Qi Q) := by
  have h8 := hG.2.1
  intro q
  induction q with
  | zero =>
    intro r hr hQ
    refine AW.iload 5 dX10_chosen_3 rfl rfl ?_
    refine AW.aload_n 6 dX10_chosen_5 rfl rfl ?_
    refine AW.getR 9 dX10_chosen_6 fX10_23 rfl (zI rfl rfl) rfl rfl ?_
    refine AW.iload_n 10 dX10_chosen_9 rfl rfl ?_
    refine AW.iald 11 dX10_chosen_10 (zA rfl rfl) rfl (by omega) (by decide) rfl ?_
    refine AW.topi (nI n) hG.1 ?_
    refine AW.icmpN_ge 14 53 dX10_chosen_11 (by decide) rfl (by omega) (by omega) (fun b11 => ?_) (fun b11 => absurd b11 (by omega))
    refine AW.bipush 55 (nI 8) dX10_chosen_53 (by decide) rfl ?_
    refine AW.iret dX10_chosen_55 .int rfl rfl rfl ⟨_, rfl, ?_⟩
    exact hQ
  | succ q ih =>
    intro r hr hQ
    have e1 := hp r (by omega)
    have e2 := (hG.2.2 r (by omega)).2.2.2.2 st x hst hx
    have e3 := hm
    unfold z_fst at hQ
    refine AW.iload 5 dX10_chosen_3 rfl rfl ?_
    refine AW.aload_n 6 dX10_chosen_5 rfl rfl ?_
    refine AW.getR 9 dX10_chosen_6 fX10_23 rfl (zI rfl rfl) rfl rfl ?_
    refine AW.iload_n 10 dX10_chosen_9 rfl rfl ?_
    refine AW.iald 11 dX10_chosen_10 (zA rfl rfl) rfl (by omega) (by decide) rfl ?_
    refine AW.topi (nI n) hG.1 ?_
    refine AW.icmpN_ge 14 53 dX10_chosen_11 (by decide) rfl (by omega) (by omega) (fun b11 => absurd b11 (by omega)) (fun b11 => ?_)
    refine AW.iload_n 15 dX10_chosen_14 rfl rfl ?_
    refine AW.iload 17 dX10_chosen_15 rfl rfl ?_
    refine AW.ishr 18 dX10_chosen_17 rfl ?_
    refine AW.iconst 19 (nI 1) dX10_chosen_18 (by decide) rfl ?_
    refine AW.iand 20 dX10_chosen_19 rfl ?_
    refine AW.zif_ne 23 47 dX10_chosen_20 (by decide) rfl rfl (fun b20 => ?_) (fun b20 => ?_)
    · skip
      rw [if_neg (by rw [Bool.and_eq_true]; intro z; first | exact b20 (e1.mp z.1) | exact (e2.mp z.2) b41)] at hQ
      refine AW.iinc4 50 _ dX10_chosen_47 (z_inc1 _) (by decide) rfl rfl ?_
      refine AW.goto 3 dX10_chosen_50 (by decide) ?_
      exact ih (r + 1) (by omega) hQ
    · skip
      refine AW.aload_n 24 dX10_chosen_23 rfl rfl ?_
      refine AW.getR 27 dX10_chosen_24 fX10_35 rfl (zI rfl rfl) rfl rfl ?_
      refine AW.sipush 30 (nI 128) dX10_chosen_27 (by decide) rfl ?_
      refine AW.bipush 32 (nI 8) dX10_chosen_30 (by decide) rfl ?_
      refine AW.iload_n 33 dX10_chosen_32 rfl rfl ?_
      refine AW.imulN 34 dX10_chosen_33 rfl ?_
      refine AW.iload 36 dX10_chosen_34 rfl rfl ?_
      refine AW.iaddN 37 dX10_chosen_36 rfl ?_
      refine AW.imulN 38 dX10_chosen_37 rfl ?_
      refine AW.iload_n 39 dX10_chosen_38 rfl rfl ?_
      refine AW.iaddN 40 dX10_chosen_39 rfl ?_
      refine AW.bald 41 dX10_chosen_40 (zA rfl rfl) rfl (by omega) (by decide) rfl ?_
      refine AW.zif_eq 44 47 dX10_chosen_41 (by decide) rfl rfl (fun b41 => ?_) (fun b41 => ?_)
      · skip
        rw [if_neg (by rw [Bool.and_eq_true]; intro z; first | exact b20 (e1.mp z.1) | exact (e2.mp z.2) b41)] at hQ
        refine AW.iinc4 50 _ dX10_chosen_47 (z_inc1 _) (by decide) rfl rfl ?_
        refine AW.goto 3 dX10_chosen_50 (by decide) ?_
        exact ih (r + 1) (by omega) hQ
      · skip
        refine AW.iload 46 dX10_chosen_44 rfl rfl ?_
        refine AW.iret dX10_chosen_46 .int rfl rfl rfl ⟨_, rfl, ?_⟩
        rw [if_pos (by rw [Bool.and_eq_true]; exact ⟨e1.mpr b20, e2.mpr b41⟩)] at hQ
        exact hQ
theorem C_X10_chosen (hm : m < 2) (hG : g_mach M m n H A N) (hp : ∀ r, r < 8 → (pr r = true ↔ ((wo >>> (nI r &&& 31)) &&& nI 1).toInt = 0)) {st x : Nat} (hst : st < 4) (hx : x < 32) {Q : Int32 → zS → zM → Prop} (hQ : Q (nI (z_ch n H pr st x)) (ZS m0 m1 md) M) : AMet l g yX10_chosen cX10_chosen 5 (some .int) d 0 0 [.ref 99, .int (nI m), .int (nI (32 * st + x)), .int wo] (ZS m0 m1 md) M (z_Qi Q) := by
  refine AMet.of (ini := false) rfl (fun h => by first | rfl | cases h) (Nat.le_of_ble_eq_true rfl) ?_
  show AW l g RX10 cX10_chosen 5 (some .int) false _ _ _ 0 [some (.ref 99), some (.int (nI m)), some (.int (nI (32 * st + x))), some (.int wo), none] [] _ _ _
  refine AW.iconst 1 (nI 0) dX10_chosen_0 (by decide) rfl ?_
  refine AW.ist4 3 dX10_chosen_1 (by decide) rfl rfl ?_
  exact L_X10_chosen hm hG hp hst hx n 0 (by omega) hQ
/-- lays: what THE WORLD sees and draws is laid -/
theorem L_X10_lays {Q : zS → zM → Prop} (hQ : ∀ M' : zM, (∀ c, c ≠ 116 → c ≠ 117 → M' c = M c) → (∀ t, t < 12 → M' 116 t = M 113 t ∧ M' 117 t = M 114 t) → Q (ZS m0 m1 md) M') :
    ∀ (q i : Nat), i + q = 12 → ∀ M' : zM, (∀ c, c ≠ 116 → c ≠ 117 → M' c = M c) → (∀ t, t < i → M' 116 t = M 113 t ∧ M' 117 t = M 114 t) → AW l g RX10 cX10_lays 2 none false d 0 0 2 [some (.ref 99), some (.int (nI i))] [] (ZS m0 m1 md) M' (z_Qv Q) := by
  intro q
  induction q with
  | zero =>
    intro i hi M' h1 h2
    have hi : i = 12 := by omega
    subst hi
    refine AW.iload_n 3 dX10_lays_2 rfl rfl ?_
    refine AW.bipush 5 (nI 12) dX10_lays_3 (by decide) rfl ?_
    refine AW.icmp_ge 8 38 dX10_lays_5 (by decide) rfl (fun _ => ?_) (fun h => absurd h (by decide))
    refine AW.vret dX10_lays_38 rfl rfl ⟨rfl, ?_⟩
    exact hQ M' h1 h2
  | succ q ih =>
    intro i hi M' h1 h2
    refine AW.iload_n 3 dX10_lays_2 rfl rfl ?_
    refine AW.bipush 5 (nI 12) dX10_lays_3 (by decide) rfl ?_
    refine AW.icmpN_ge 8 38 dX10_lays_5 (by decide) rfl (by omega) (by omega) (fun b5 => absurd b5 (by omega)) (fun b5 => ?_)
    refine AW.aload_n 9 dX10_lays_8 rfl rfl ?_
    refine AW.getR 12 dX10_lays_9 fX10_63 rfl (zI rfl rfl) rfl rfl ?_
    refine AW.iload_n 13 dX10_lays_12 rfl rfl ?_
    refine AW.aload_n 14 dX10_lays_13 rfl rfl ?_
    refine AW.getR 17 dX10_lays_14 fX10_54 rfl (zI rfl rfl) rfl rfl ?_
    refine AW.iload_n 18 dX10_lays_17 rfl rfl ?_
    refine AW.iald 19 dX10_lays_18 (zA rfl rfl) rfl (by omega) (by decide) rfl ?_
    refine AW.iast 20 dX10_lays_19 (zA rfl rfl) rfl (by omega) (by decide) rfl ?_
    refine AW.aload_n 21 dX10_lays_20 rfl rfl ?_
    refine AW.getR 24 dX10_lays_21 fX10_66 rfl (zI rfl rfl) rfl rfl ?_
    refine AW.iload_n 25 dX10_lays_24 rfl rfl ?_
    refine AW.aload_n 26 dX10_lays_25 rfl rfl ?_
    refine AW.getR 29 dX10_lays_26 fX10_57 rfl (zI rfl rfl) rfl rfl ?_
    refine AW.iload_n 30 dX10_lays_29 rfl rfl ?_
    refine AW.iald 31 dX10_lays_30 (zA rfl rfl) rfl (by omega) (by decide) rfl ?_
    refine AW.iast 32 dX10_lays_31 (zA rfl rfl) rfl (by omega) (by decide) rfl ?_
    refine AW.iinc1 35 _ dX10_lays_32 (z_inc1 _) (by decide) rfl rfl ?_
    refine AW.goto 2 dX10_lays_35 (by decide) ?_
    refine ih (i + 1) (by omega) _ (fun c c1 c2 => ?_) (fun t ht => ?_)
    · rw [z_st_ne c2, z_st_ne c1]; exact h1 c c1 c2
    · have q1 : M' 113 = M 113 := h1 113 (by decide) (by decide)
      have q2 : M' 114 = M 114 := h1 114 (by decide) (by decide)
      rw [z_st_at, z_st_ne (by decide : (116 : Nat) ≠ 117), z_st_at, z_st_ne (by decide : (114 : Nat) ≠ 116), z_st_ne (by decide : (117 : Nat) ≠ 116), q1, q2]
      unfold upd
      by_cases h : t = i
      · subst h; rw [if_pos rfl, if_pos rfl]; exact ⟨rfl, rfl⟩
      · rw [if_neg h, if_neg h]; exact h2 t (by omega)
theorem C_X10_lays {Q : zS → zM → Prop} (hQ : ∀ M' : zM, (∀ c, c ≠ 116 → c ≠ 117 → M' c = M c) → (∀ t, t < 12 → M' 116 t = M 113 t ∧ M' 117 t = M 114 t) → Q (ZS m0 m1 md) M') : AMet l g yX10_lays cX10_lays 2 none d 0 0 [.ref 99] (ZS m0 m1 md) M (z_Qv Q) := by
  refine AMet.of (ini := false) rfl (fun h => by first | rfl | cases h) (Nat.le_of_ble_eq_true rfl) ?_
  show AW l g RX10 cX10_lays 2 none false _ _ _ 0 [some (.ref 99), none] [] _ _ _
  refine AW.iconst 1 (nI 0) dX10_lays_0 (by decide) rfl ?_
  refine AW.istn1 2 dX10_lays_1 (by decide) rfl rfl ?_
  exact L_X10_lays hQ 12 0 (by omega) M (fun _ _ _ => rfl) (fun t ht => absurd ht (by omega))
/-- what a play leaves: states, rules, acts -/
def z_pl (M' : zM) (cs cr ca T n : Nat) (H : Nat → Nat → Nat → Bool) (A : Nat → Nat) (N : Nat → Int32) (pr : Nat → Bool) (x : Nat → Nat) : Prop := ∀ t, t < T → M' cs t = nI (z_ps n H N pr x t) ∧ M' cr t = nI (z_ch n H pr (z_ps n H N pr x t) (x t)) ∧ M' ca t = nI (z_act n A (z_ch n H pr (z_ps n H N pr x t) (x t)))
theorem L_X10_plays (hT : M 99 16 = nI T) (hT2 : T ≤ 12) (hm : m < 2) (hG : g_mach M m n H A N) (hp : ∀ r, r < 8 → (pr r = true ↔ ((wo >>> (nI r &&& 31)) &&& nI 1).toInt = 0)) {sg lt : Nat → Nat} (hx : ∀ t, t < T → M 116 t = nI (sg t) ∧ M 117 t = nI (lt t) ∧ sg t < 16 ∧ lt t < 2) {Q : zS → zM → Prop} (hQ : ∀ M' : zM, (∀ c, c ≠ 118 → c ≠ 119 → c ≠ 120 → M' c = M c) → z_pl M' 118 119 120 T n H A N pr (fun t => 2 * sg t + lt t) → Q (ZS m0 m1 md) M') :
    ∀ (q i : Nat) (v4 v5 v6 : Option Value), i + q = T → ∀ M' : zM, (∀ c, c ≠ 118 → c ≠ 119 → c ≠ 120 → M' c = M c) → z_pl M' 118 119 120 i n H A N pr (fun t => 2 * sg t + lt t) → M' 118 i = nI (z_ps n H N pr (fun t => 2 * sg t + lt t) i) → z_ok [some (.ref 99), some (.int (nI m)), some (.int wo), some (.int (nI i)), v4, v5, v6] 5 = true → z_ok [some (.ref 99), some (.int (nI m)), some (.int wo), some (.int (nI i)), v4, v5, v6] 6 = true →
    AW l g RX10 cX10_plays 7 none false (d + 1) 0 0 9 [some (.ref 99), some (.int (nI m)), some (.int wo), some (.int (nI i)), v4, v5, v6] [] (ZS m0 m1 md) M' (z_Qv Q) := by
  have h8 := hG.2.1
  intro q
  induction q with
  | zero =>
    intro i v4 v5 v6 hi M' h1 h2 h3 k5 k6
    have hi : i = T := by omega
    subst hi
    have q0 : M' 99 16 = nI i := by rw [h1 99 (by decide) (by decide) (by decide)]; exact hT
    refine AW.iload_n 10 dX10_plays_9 rfl rfl ?_
    refine AW.aload_n 11 dX10_plays_10 rfl rfl ?_
    refine AW.getI 14 dX10_plays_11 fX10_50 rfl (zI rfl rfl) rfl ?_
    refine AW.topi (nI i) q0 ?_
    refine AW.icmpN_ge 17 138 dX10_plays_14 (by decide) rfl (by omega) (by omega) (fun b14 => ?_) (fun b14 => absurd b14 (by omega))
    refine AW.vret dX10_plays_138 rfl rfl ⟨rfl, ?_⟩
    exact hQ M' h1 h2
  | succ q ih =>
    intro i v4 v5 v6 hi M' h1 h2 h3 k5 k6
    have q0 : M' 99 16 = nI T := by rw [h1 99 (by decide) (by decide) (by decide)]; exact hT
    have hs := z_ps_lt (H := H) (pr := pr) (x := fun t => 2 * sg t + lt t) hG.nx i
    obtain ⟨x1, x2, x3, x4⟩ := hx i (by omega)
    rw [← h1 116 (by decide) (by decide) (by decide)] at x1
    rw [← h1 117 (by decide) (by decide) (by decide)] at x2
    have hG' : g_mach M' m n H A N := by
      unfold g_mach
      rw [h1 104 (by decide) (by decide) (by decide), h1 106 (by decide) (by decide) (by decide), h1 107 (by decide) (by decide) (by decide), h1 108 (by decide) (by decide) (by decide)]
      exact hG
    have hps : z_ps n H N pr (fun t => 2 * sg t + lt t) (i + 1) = z_nx n N (z_ch n H pr (z_ps n H N pr (fun t => 2 * sg t + lt t) i) (2 * sg i + lt i)) (z_ps n H N pr (fun t => 2 * sg t + lt t) i) := rfl
    have h2' : ∀ M2 : zM, (∀ t, t < i → M2 118 t = M' 118 t ∧ M2 119 t = M' 119 t ∧ M2 120 t = M' 120 t) → M2 118 i = nI (z_ps n H N pr (fun t => 2 * sg t + lt t) i) → M2 119 i = nI (z_ch n H pr (z_ps n H N pr (fun t => 2 * sg t + lt t) i) (2 * sg i + lt i)) → M2 120 i = nI (z_act n A (z_ch n H pr (z_ps n H N pr (fun t => 2 * sg t + lt t) i) (2 * sg i + lt i))) → z_pl M2 118 119 120 (i + 1) n H A N pr (fun t => 2 * sg t + lt t) := by
      intro M2 a1 a2 a3 a4 t ht
      rcases Nat.lt_or_ge t i with h | h
      · rw [(a1 t h).1, (a1 t h).2.1, (a1 t h).2.2]; exact h2 t h
      · have : t = i := by omega
        subst this; exact ⟨a2, a3, a4⟩
    generalize z_ps n H N pr (fun t => 2 * sg t + lt t) i = st at h3 hs hps h2'
    have hc8 : z_ch n H pr st (2 * sg i + lt i) < 0 + n ∨ z_ch n H pr st (2 * sg i + lt i) = 8 := z_fst_or (fun r => pr r && H r st (2 * sg i + lt i)) n 0
    have hch : ∀ Q' : Int32 → zS → zM → Prop, Q' (nI (z_ch n H pr st (2 * sg i + lt i))) (ZS m0 m1 md) M' → AMet l g yX10_chosen cX10_chosen 5 (some .int) d 0 0 [.ref 99, .int (nI m), .int (nI (32 * st + (2 * sg i + lt i))), .int wo] (ZS m0 m1 md) M' (z_Qi Q') := fun Q' h => C_X10_chosen hm hG' hp hs (by omega) h
    generalize z_ch n H pr st (2 * sg i + lt i) = r at hc8 hch hps h2'
    have hA : r < n → M' 106 (8 * m + r) = nI (A r) := fun h => (hG'.2.2 r h).2.1
    have hN : r < n → M' 107 (8 * m + r) = N r := fun h => (hG'.2.2 r h).2.2.1
    have hN2 : r < n → (N r = -4 ∨ ∃ s, s < 4 ∧ N r = nI s) := fun h => hG'.nx r h
    have a8 : r = 8 → nI 0 = nI (z_act n A r) := fun h => by unfold z_act; rw [if_neg (by omega)]
    have an : r < n → nI (A r) = nI (z_act n A r) := fun h => by unfold z_act; rw [if_pos h]
    have n8 : r = 8 → nI st = nI (z_nx n N r st) := fun h => by unfold z_nx; rw [if_neg (fun z => by omega)]
    have nn : r < n → 0 ≤ (N r).toInt → N r = nI (z_nx n N r st) := fun h h0 => (z_nx_pos h (hN2 h) h0).symm
    have nm : r < n → ¬ 0 ≤ (N r).toInt → nI st = nI (z_nx n N r st) := fun h h0 => by rw [z_nx_neg h (hN2 h) h0]
    have fin : ∀ va vs : Int32, va = nI (z_act n A r) → vs = nI (z_nx n N r st) → AW l g RX10 cX10_plays 7 none false (d + 1) 0 0 9 [some (.ref 99), some (.int (nI m)), some (.int wo), some (.int (nI (i + 1))), some (.int (nI st)), some (.int (nI r)), some (.int (nI (8 * m + r)))] [] (ZS m0 m1 md) (z_st (z_st (z_st M' 119 i (nI r)) 120 i va) 118 (i + 1) vs) (z_Qv Q) := by
      intro va vs e1 e2
      refine ih (i + 1) _ _ _ (by omega) _ (fun c c1 c2 c3 => ?_) (h2' _ (fun t ht => ?_) ?_ ?_ ?_) ?_ rfl rfl
      · rw [z_st_ne c1, z_st_ne c3, z_st_ne c2]; exact h1 c c1 c2 c3
      · rw [z_st_at, z_st_ne (by decide : (119 : Nat) ≠ 118), z_st_ne (by decide : (119 : Nat) ≠ 120), z_st_at, z_st_ne (by decide : (120 : Nat) ≠ 118), z_st_at, z_st_ne (by decide : (118 : Nat) ≠ 120), z_st_ne (by decide : (118 : Nat) ≠ 119), z_st_ne (by decide : (120 : Nat) ≠ 119)]
        unfold upd
        rw [if_neg (by omega), if_neg (by omega), if_neg (by omega)]; exact ⟨rfl, rfl, rfl⟩
      · rw [z_st_at, z_st_ne (by decide : (118 : Nat) ≠ 120), z_st_ne (by decide : (118 : Nat) ≠ 119)]
        unfold upd; rw [if_neg (by omega)]; exact h3
      · rw [z_st_ne (by decide : (119 : Nat) ≠ 118), z_st_ne (by decide : (119 : Nat) ≠ 120), z_st_at]
        unfold upd; rw [if_pos rfl]
      · rw [z_st_ne (by decide : (120 : Nat) ≠ 118), z_st_at]
        unfold upd; rw [if_pos rfl, e1]
      · rw [hps, z_st_at]
        unfold upd; rw [if_pos rfl, e2]
    refine AW.iload_n 10 dX10_plays_9 rfl rfl ?_
    refine AW.aload_n 11 dX10_plays_10 rfl rfl ?_
    refine AW.getI 14 dX10_plays_11 fX10_50 rfl (zI rfl rfl) rfl ?_
    refine AW.topi (nI T) q0 ?_
    refine AW.icmpN_ge 17 138 dX10_plays_14 (by decide) rfl (by omega) (by omega) (fun b14 => absurd b14 (by omega)) (fun b14 => ?_)
    refine AW.aload_n 18 dX10_plays_17 rfl rfl ?_
    refine AW.getR 21 dX10_plays_18 fX10_69 rfl (zI rfl rfl) rfl rfl ?_
    refine AW.iload_n 22 dX10_plays_21 rfl rfl ?_
    refine AW.iald 23 dX10_plays_22 (zA rfl rfl) rfl (by omega) (by decide) rfl ?_
    refine AW.topi (nI st) h3 ?_
    refine AW.ist4 25 dX10_plays_23 (by decide) rfl rfl ?_
    refine AW.aload_n 26 dX10_plays_25 rfl rfl ?_
    refine AW.iload_n 27 dX10_plays_26 rfl rfl ?_
    refine AW.bipush 29 (nI 32) dX10_plays_27 (by decide) rfl ?_
    refine AW.iload 31 dX10_plays_29 rfl rfl ?_
    refine AW.imulN 32 dX10_plays_31 rfl ?_
    refine AW.iconst 33 (nI 2) dX10_plays_32 (by decide) rfl ?_
    refine AW.aload_n 34 dX10_plays_33 rfl rfl ?_
    refine AW.getR 37 dX10_plays_34 fX10_63 rfl (zI rfl rfl) rfl rfl ?_
    refine AW.iload_n 38 dX10_plays_37 rfl rfl ?_
    refine AW.iald 39 dX10_plays_38 (zA rfl rfl) rfl (by omega) (by decide) rfl ?_
    refine AW.topi (nI (sg i)) x1 ?_
    refine AW.imulN 40 dX10_plays_39 rfl ?_
    refine AW.iaddN 41 dX10_plays_40 rfl ?_
    refine AW.aload_n 42 dX10_plays_41 rfl rfl ?_
    refine AW.getR 45 dX10_plays_42 fX10_66 rfl (zI rfl rfl) rfl rfl ?_
    refine AW.iload_n 46 dX10_plays_45 rfl rfl ?_
    refine AW.iald 47 dX10_plays_46 (zA rfl rfl) rfl (by omega) (by decide) rfl ?_
    refine AW.topi (nI (lt i)) x2 ?_
    refine AW.iaddN 48 dX10_plays_47 rfl ?_
    refine AW.topi (nI (32 * st + (2 * sg i + lt i))) (by rw [Nat.add_assoc]) ?_
    refine AW.iload_n 49 dX10_plays_48 rfl rfl ?_
    refine AW.cVi3 52 dX10_plays_49 kX10_196 (zI rfl rfl) (Nat.le_of_ble_eq_true rfl) rfl (hch _ ?_)
    refine AW.ist5 54 dX10_plays_52 (by decide) rfl rfl ?_
    refine AW.bipush 56 (nI 8) dX10_plays_54 (by decide) rfl ?_
    refine AW.iload_n 57 dX10_plays_56 rfl rfl ?_
    refine AW.imulN 58 dX10_plays_57 rfl ?_
    refine AW.iload 60 dX10_plays_58 rfl rfl ?_
    refine AW.iaddN 61 dX10_plays_60 rfl ?_
    refine AW.ist6 63 dX10_plays_61 (by decide) rfl rfl ?_
    refine AW.aload_n 64 dX10_plays_63 rfl rfl ?_
    refine AW.getR 67 dX10_plays_64 fX10_72 rfl (zI rfl rfl) rfl rfl ?_
    refine AW.iload_n 68 dX10_plays_67 rfl rfl ?_
    refine AW.iload 70 dX10_plays_68 rfl rfl ?_
    refine AW.iast 71 dX10_plays_70 (zA rfl rfl) rfl (by omega) (by decide) rfl ?_
    refine AW.aload_n 72 dX10_plays_71 rfl rfl ?_
    refine AW.getR 75 dX10_plays_72 fX10_75 rfl (zI rfl rfl) rfl rfl ?_
    refine AW.iload_n 76 dX10_plays_75 rfl rfl ?_
    refine AW.iload 78 dX10_plays_76 rfl rfl ?_
    refine AW.bipush 80 (nI 8) dX10_plays_78 (by decide) rfl ?_
    refine AW.icmpN_ne 83 87 dX10_plays_80 (by decide) rfl (by omega) (by omega) (fun b80 => ?_) (fun b80 => ?_)
    · skip
      refine AW.aload_n 88 dX10_plays_87 rfl rfl ?_
      refine AW.getR 91 dX10_plays_88 fX10_29 rfl (zI rfl rfl) rfl rfl ?_
      refine AW.iload 93 dX10_plays_91 rfl rfl ?_
      refine AW.iald 94 dX10_plays_93 (zA rfl rfl) rfl (by omega) (by decide) rfl ?_
      refine AW.topi (nI (A r)) (hA (by omega)) ?_
      refine AW.iast 95 dX10_plays_94 (zA rfl rfl) rfl (by omega) (by decide) rfl ?_
      refine AW.aload_n 96 dX10_plays_95 rfl rfl ?_
      refine AW.getR 99 dX10_plays_96 fX10_69 rfl (zI rfl rfl) rfl rfl ?_
      refine AW.iload_n 100 dX10_plays_99 rfl rfl ?_
      refine AW.iconst 101 (nI 1) dX10_plays_100 (by decide) rfl ?_
      refine AW.iaddN 102 dX10_plays_101 rfl ?_
      refine AW.iload 104 dX10_plays_102 rfl rfl ?_
      refine AW.bipush 106 (nI 8) dX10_plays_104 (by decide) rfl ?_
      refine AW.icmpN_eq 109 119 dX10_plays_106 (by decide) rfl (by omega) (by omega) (fun b106 => ?_) (fun b106 => ?_)
      · skip
        refine AW.iload 121 dX10_plays_119 rfl rfl ?_
        refine AW.goto 131 dX10_plays_121 (by decide) ?_
        refine AW.iast 132 dX10_plays_131 (zA rfl rfl) rfl (by omega) (by decide) rfl ?_
        refine AW.iinc3 135 _ dX10_plays_132 (z_inc1 _) (by decide) rfl rfl ?_
        refine AW.goto 9 dX10_plays_135 (by decide) ?_
        first | (exfalso; omega; done) | exact fin _ _ (by first | exact a8 (by omega) | exact an (by omega)) (by first | exact n8 (by omega) | exact nn (by omega) b116 | exact nm (by omega) b116)
      · skip
        refine AW.aload_n 110 dX10_plays_109 rfl rfl ?_
        refine AW.getR 113 dX10_plays_110 fX10_32 rfl (zI rfl rfl) rfl rfl ?_
        refine AW.iload 115 dX10_plays_113 rfl rfl ?_
        refine AW.iald 116 dX10_plays_115 (zA rfl rfl) rfl (by omega) (by decide) rfl ?_
        refine AW.topi (N r) (hN (by omega)) ?_
        refine AW.zif_ge 119 124 dX10_plays_116 (by decide) rfl rfl (fun b116 => ?_) (fun b116 => ?_)
        · skip
          refine AW.aload_n 125 dX10_plays_124 rfl rfl ?_
          refine AW.getR 128 dX10_plays_125 fX10_32 rfl (zI rfl rfl) rfl rfl ?_
          refine AW.iload 130 dX10_plays_128 rfl rfl ?_
          refine AW.iald 131 dX10_plays_130 (zA rfl rfl) rfl (by omega) (by decide) rfl ?_
          refine AW.topi (N r) (hN (by omega)) ?_
          refine AW.iast 132 dX10_plays_131 (zA rfl rfl) rfl (by omega) (by decide) rfl ?_
          refine AW.iinc3 135 _ dX10_plays_132 (z_inc1 _) (by decide) rfl rfl ?_
          refine AW.goto 9 dX10_plays_135 (by decide) ?_
          first | (exfalso; omega; done) | exact fin _ _ (by first | exact a8 (by omega) | exact an (by omega)) (by first | exact n8 (by omega) | exact nn (by omega) b116 | exact nm (by omega) b116)
        · skip
          refine AW.iload 121 dX10_plays_119 rfl rfl ?_
          refine AW.goto 131 dX10_plays_121 (by decide) ?_
          refine AW.iast 132 dX10_plays_131 (zA rfl rfl) rfl (by omega) (by decide) rfl ?_
          refine AW.iinc3 135 _ dX10_plays_132 (z_inc1 _) (by decide) rfl rfl ?_
          refine AW.goto 9 dX10_plays_135 (by decide) ?_
          first | (exfalso; omega; done) | exact fin _ _ (by first | exact a8 (by omega) | exact an (by omega)) (by first | exact n8 (by omega) | exact nn (by omega) b116 | exact nm (by omega) b116)
    · skip
      refine AW.iconst 84 (nI 0) dX10_plays_83 (by decide) rfl ?_
      refine AW.goto 94 dX10_plays_84 (by decide) ?_
      refine AW.iast 95 dX10_plays_94 (zA rfl rfl) rfl (by omega) (by decide) rfl ?_
      refine AW.aload_n 96 dX10_plays_95 rfl rfl ?_
      refine AW.getR 99 dX10_plays_96 fX10_69 rfl (zI rfl rfl) rfl rfl ?_
      refine AW.iload_n 100 dX10_plays_99 rfl rfl ?_
      refine AW.iconst 101 (nI 1) dX10_plays_100 (by decide) rfl ?_
      refine AW.iaddN 102 dX10_plays_101 rfl ?_
      refine AW.iload 104 dX10_plays_102 rfl rfl ?_
      refine AW.bipush 106 (nI 8) dX10_plays_104 (by decide) rfl ?_
      refine AW.icmpN_eq 109 119 dX10_plays_106 (by decide) rfl (by omega) (by omega) (fun b106 => ?_) (fun b106 => ?_)
      · skip
        refine AW.iload 121 dX10_plays_119 rfl rfl ?_
        refine AW.goto 131 dX10_plays_121 (by decide) ?_
        refine AW.iast 132 dX10_plays_131 (zA rfl rfl) rfl (by omega) (by decide) rfl ?_
        refine AW.iinc3 135 _ dX10_plays_132 (z_inc1 _) (by decide) rfl rfl ?_
        refine AW.goto 9 dX10_plays_135 (by decide) ?_
        first | (exfalso; omega; done) | exact fin _ _ (by first | exact a8 (by omega) | exact an (by omega)) (by first | exact n8 (by omega) | exact nn (by omega) b116 | exact nm (by omega) b116)
      · skip
        refine AW.aload_n 110 dX10_plays_109 rfl rfl ?_
        refine AW.getR 113 dX10_plays_110 fX10_32 rfl (zI rfl rfl) rfl rfl ?_
        refine AW.iload 115 dX10_plays_113 rfl rfl ?_
        refine AW.iald 116 dX10_plays_115 (zA rfl rfl) rfl (by omega) (by decide) rfl ?_
        refine AW.topi (N r) (hN (by omega)) ?_
        refine AW.zif_ge 119 124 dX10_plays_116 (by decide) rfl rfl (fun b116 => ?_) (fun b116 => ?_)
        · skip
          refine AW.aload_n 125 dX10_plays_124 rfl rfl ?_
          refine AW.getR 128 dX10_plays_125 fX10_32 rfl (zI rfl rfl) rfl rfl ?_
          refine AW.iload 130 dX10_plays_128 rfl rfl ?_
          refine AW.iald 131 dX10_plays_130 (zA rfl rfl) rfl (by omega) (by decide) rfl ?_
          refine AW.topi (N r) (hN (by omega)) ?_
          refine AW.iast 132 dX10_plays_131 (zA rfl rfl) rfl (by omega) (by decide) rfl ?_
          refine AW.iinc3 135 _ dX10_plays_132 (z_inc1 _) (by decide) rfl rfl ?_
          refine AW.goto 9 dX10_plays_135 (by decide) ?_
          first | (exfalso; omega; done) | exact fin _ _ (by first | exact a8 (by omega) | exact an (by omega)) (by first | exact n8 (by omega) | exact nn (by omega) b116 | exact nm (by omega) b116)
        · skip
          refine AW.iload 121 dX10_plays_119 rfl rfl ?_
          refine AW.goto 131 dX10_plays_121 (by decide) ?_
          refine AW.iast 132 dX10_plays_131 (zA rfl rfl) rfl (by omega) (by decide) rfl ?_
          refine AW.iinc3 135 _ dX10_plays_132 (z_inc1 _) (by decide) rfl rfl ?_
          refine AW.goto 9 dX10_plays_135 (by decide) ?_
          first | (exfalso; omega; done) | exact fin _ _ (by first | exact a8 (by omega) | exact an (by omega)) (by first | exact n8 (by omega) | exact nn (by omega) b116 | exact nm (by omega) b116)
theorem C_X10_plays (hT : M 99 16 = nI T) (hT2 : T ≤ 12) (hm : m < 2) (hG : g_mach M m n H A N) (hp : ∀ r, r < 8 → (pr r = true ↔ ((wo >>> (nI r &&& 31)) &&& nI 1).toInt = 0)) {sg lt : Nat → Nat} (hx : ∀ t, t < T → M 116 t = nI (sg t) ∧ M 117 t = nI (lt t) ∧ sg t < 16 ∧ lt t < 2) {Q : zS → zM → Prop} (hQ : ∀ M' : zM, (∀ c, c ≠ 118 → c ≠ 119 → c ≠ 120 → M' c = M c) → z_pl M' 118 119 120 T n H A N pr (fun t => 2 * sg t + lt t) → Q (ZS m0 m1 md) M') : AMet l g yX10_plays cX10_plays 7 none (d + 1) 0 0 [.ref 99, .int (nI m), .int wo] (ZS m0 m1 md) M (z_Qv Q) := by
  refine AMet.of (ini := false) rfl (fun h => by first | rfl | cases h) (Nat.le_of_ble_eq_true rfl) ?_
  show AW l g RX10 cX10_plays 7 none false _ _ _ 0 [some (.ref 99), some (.int (nI m)), some (.int wo), none, none, none, none] [] _ _ _
  refine AW.aload_n 1 dX10_plays_0 rfl rfl ?_
  refine AW.getR 4 dX10_plays_1 fX10_69 rfl (zI rfl rfl) rfl rfl ?_
  refine AW.iconst 5 (nI 0) dX10_plays_4 (by decide) rfl ?_
  refine AW.iconst 6 (nI 0) dX10_plays_5 (by decide) rfl ?_
  refine AW.iast 7 dX10_plays_6 (zA rfl rfl) rfl (by omega) (by decide) rfl ?_
  refine AW.iconst 8 (nI 0) dX10_plays_7 (by decide) rfl ?_
  refine AW.istn3 9 dX10_plays_8 (by decide) rfl rfl ?_
  refine L_X10_plays hT hT2 hm hG hp hx hQ T 0 none none none (by omega) _ (fun c c1 _ _ => by rw [z_st_ne c1]) (fun t ht => absurd ht (by omega)) (by rw [z_st_at]; rfl) rfl rfl
end MPLAY
