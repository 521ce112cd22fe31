/-- the lines of a new book: kind, number; which are lost first -/
def z_wk (i : Nat) : Nat := if i % 4 = 0 then 0 else if i % 4 = 1 then 3 else if i % 4 = 2 then 1 else 2
def z_wn (sg lt R A : Nat → Nat) (i : Nat) : Nat := if i % 4 = 0 then sg (i / 4) else if i % 4 = 1 then lt (i / 4) else if i % 4 = 2 then R (i / 4) else A (i / 4)
def z_rk (T i : Nat) : Nat := (if i % 4 = 2 then 0 else if i % 4 = 1 then T else if i % 4 = 0 then 2 * T else 3 * T) + (T - 1 - i / 4)
def z_wB (M : zM) (c0 c1 c2 : Nat) (wn : Nat → Nat) (L : Nat) : Prop := ∀ i, i < L → M c0 i = nI (z_wk i) ∧ M c1 i = nI (i / 4) ∧ M c2 i = nI (wn i)
def z_lk5 (T m i : Nat) : Nat := if z_rk T i < m then 5 else z_wk i
def z_ln0 (T m : Nat) (wn : Nat → Nat) (i : Nat) : Nat := if z_rk T i < m then 0 else wn i
def z_lB (M : zM) (c0 c2 T : Nat) (wn : Nat → Nat) (m : Nat) : Prop := ∀ i, i < 4 * T → M c0 i = nI (z_lk5 T m i) ∧ M c2 i = nI (z_ln0 T m wn i)
theorem z_wB_s {M M' : zM} {c0 c1 c2 L : Nat} {wn : Nat → Nat} (h : z_wB M c0 c1 c2 wn L) {k t m : Int32} (ek : k = nI (z_wk L)) (et : t = nI (L / 4)) (em : m = nI (wn L)) (h0 : M' c0 = upd (M c0) L k) (h1 : M' c1 = upd (M c1) L t) (h2 : M' c2 = upd (M c2) L m) : z_wB M' c0 c1 c2 wn (L + 1) := by
  intro i hi
  rw [h0, h1, h2, ek, et, em]
  unfold upd
  by_cases e : i = L
  · subst e; simp only [if_true]; exact ⟨trivial, trivial, trivial⟩
  · simp only [if_neg e]; exact h i (by omega)
theorem z_rk_inj {T i j : Nat} (hi : i < 4 * T) (hj : j < 4 * T) (h : z_rk T i = z_rk T j) : i = j := by
  unfold z_rk at h
  (repeat' split at h) <;> omega
theorem z_lB_s {M M' : zM} {c0 c2 T m i : Nat} {wn : Nat → Nat} (h : z_lB M c0 c2 T wn m) (hi : i < 4 * T) (hr : z_rk T i = m) (h0 : M' c0 = upd (M c0) i (nI 5)) (h2 : M' c2 = upd (M c2) i (nI 0)) : z_lB M' c0 c2 T wn (m + 1) := by
  intro j hj
  rw [h0, h2]
  unfold upd z_lk5 z_ln0
  by_cases e : j = i
  · subst e; rw [if_pos rfl, if_pos rfl, if_pos (by omega), if_pos (by omega)]; exact ⟨rfl, rfl⟩
  · have e2 : z_rk T j ≠ m := fun z => e (z_rk_inj hj hi (z.trans hr.symm))
    have h3 := h j hj
    unfold z_lk5 z_ln0 at h3
    rw [if_neg e, if_neg e]
    by_cases q : z_rk T j < m
    · rw [if_pos (by omega), if_pos (by omega)]; rw [if_pos q, if_pos q] at h3; exact h3
    · rw [if_neg (by omega), if_neg (by omega)]; rw [if_neg q, if_neg q] at h3; exact h3
theorem z_lB_0 {M : zM} {c0 c1 c2 T : Nat} {wn : Nat → Nat} (h : z_wB M c0 c1 c2 wn (4 * T)) : z_lB M c0 c2 T wn 0 := by
  intro i hi
  unfold z_lk5 z_ln0
  rw [if_neg (by omega), if_neg (by omega)]
  exact ⟨(h i hi).1, (h i hi).2.2⟩
theorem z_dec' {a : Nat} (h : 0 < a) : nI a + Int32.ofInt (-1) = nI (a - 1) := by
  obtain ⟨b, rfl⟩ : ∃ b, a = b + 1 := ⟨a - 1, by omega⟩
  exact z_dec b
def z_lo (k : Nat) : Nat := if k = 0 then 2 else if k = 1 then 1 else if k = 2 then 0 else 3
def z_lw (k : Nat) : Nat := if k = 0 then 1 else if k = 1 then 3 else if k = 2 then 0 else 2
theorem z_rk_k {T k i : Nat} (hk : k < 4) (h : i % 4 = z_lo k) : z_rk T i = k * T + (T - 1 - i / 4) := by
  unfold z_lo at h
  unfold z_rk
  rcases (show k = 0 ∨ k = 1 ∨ k = 2 ∨ k = 3 by omega) with rfl | rfl | rfl | rfl
  · simp at h; simp [h]
  · simp at h; simp [h]
  · simp at h; simp [h]
  · simp at h; simp [h]
theorem z_wk_k {k i : Nat} (hk : k < 4) : z_wk i = z_lw k ↔ i % 4 = z_lo k := by
  unfold z_wk z_lw z_lo
  rcases (show k = 0 ∨ k = 1 ∨ k = 2 ∨ k = 3 by omega) with rfl | rfl | rfl | rfl <;> (have : i % 4 < 4 := Nat.mod_lt _ (by decide)) <;> (simp only [if_true, if_false, Nat.one_ne_zero, show (2 : Nat) ≠ 0 from by decide, show (2 : Nat) ≠ 1 from by decide, show (3 : Nat) ≠ 0 from by decide, show (3 : Nat) ≠ 1 from by decide, show (3 : Nat) ≠ 2 from by decide]) <;> (repeat' split) <;> omega
theorem z_wk_le (i : Nat) : z_wk i ≤ 3 := by unfold z_wk; (repeat' split) <;> omega
theorem z_lo_lt (k : Nat) : z_lo k < 4 := by unfold z_lo; (repeat' split) <;> omega
theorem z_lw_le (k : Nat) : z_lw k ≤ 3 := by unfold z_lw; (repeat' split) <;> omega
section WRITE
variable {l : Launch} {g : zG} {d m0 m1 md : Nat} {M : zM} {L T n : Nat} {H : Nat → Nat → Nat → Bool} {A : Nat → Nat} {N : Nat → Int32} {sg lt wn R Ac : Nat → Nat}
theorem C_X10_writes2 (hL : M 99 25 = nI L) (hL2 : L < 48) {k t m : Int32} {Q : zS → zM → Prop} (hQ : ∀ M', (∀ c, c ≠ 99 → c ≠ 121 → c ≠ 122 → c ≠ 123 → M' c = M c) → (∀ j, j ≠ 25 → M' 99 j = M 99 j) → M' 99 25 = nI (L + 1) → M' 121 = upd (M 121) L k → M' 122 = upd (M 122) L t → M' 123 = upd (M 123) L m → Q (ZS m0 m1 md) M') : AMet l g yX10_writes cX10_writes 4 none d 0 0 [.ref 99, .int k, .int t, .int m] (ZS m0 m1 md) M (z_Qv Q) := by
  refine C_X10_writes hL hL2 (hQ _ (fun c c1 c2 c3 c4 => ?_) (fun j hj => ?_) ?_ ?_ ?_ ?_)
  · rw [z_st_ne c1, z_st_ne c4, z_st_ne c3, z_st_ne c2]
  · rw [z_st_at]; unfold upd; rw [if_neg hj, z_st_ne (by decide), z_st_ne (by decide), z_st_ne (by decide)]
  · rw [z_st_at]; unfold upd; rw [if_pos rfl]
  · rw [z_st_ne (by decide), z_st_ne (by decide), z_st_ne (by decide), z_st_at]
  · rw [z_st_ne (by decide), z_st_ne (by decide), z_st_at, z_st_ne (by decide)]
  · rw [z_st_ne (by decide), z_st_at, z_st_ne (by decide), z_st_ne (by decide)]
theorem C_X0_add2 (hL : M 70 1 = nI L) (hL2 : L < 48) {k t m : Int32} {Q : zS → zM → Prop} (hQ : ∀ M', (∀ c, c ≠ 70 → c ≠ 72 → c ≠ 73 → c ≠ 74 → M' c = M c) → (∀ j, j ≠ 1 → M' 70 j = M 70 j) → M' 70 1 = nI (L + 1) → M' 72 = upd (M 72) L k → M' 73 = upd (M 73) L t → M' 74 = upd (M 74) L m → Q (ZS m0 m1 md) M') : AMet l g yX0_add cX0_add 4 none d 0 0 [.ref 70, .int k, .int t, .int m] (ZS m0 m1 md) M (z_Qv Q) := by
  refine C_X0_add hL hL2 (hQ _ (fun c c1 c2 c3 c4 => ?_) (fun j hj => ?_) ?_ ?_ ?_ ?_)
  · rw [z_st_ne c1, z_st_ne c4, z_st_ne c3, z_st_ne c2]
  · rw [z_st_at]; unfold upd; rw [if_neg hj, z_st_ne (by decide), z_st_ne (by decide), z_st_ne (by decide)]
  · rw [z_st_at]; unfold upd; rw [if_pos rfl]
  · rw [z_st_ne (by decide), z_st_ne (by decide), z_st_ne (by decide), z_st_at]
  · rw [z_st_ne (by decide), z_st_ne (by decide), z_st_at, z_st_ne (by decide)]
  · rw [z_st_ne (by decide), z_st_at, z_st_ne (by decide), z_st_ne (by decide)]
theorem L_X10_loses {k m : Nat} (hk : k < 4) (hT2 : T ≤ 12) (hm : m ≤ 48) {v2 : Int32} {Q : Int32 → zS → zM → Prop} (hQ : ∀ M' : zM, (∀ c, c ≠ 121 → c ≠ 123 → M' c = M c) → z_lB M' 121 123 T wn (min m (k * T + T)) → Q (nI (m - (k * T + T))) (ZS m0 m1 md) M') :
    ∀ j, j ≤ 4 * T → ∀ M' : zM, (∀ c, c ≠ 121 → c ≠ 123 → M' c = M c) → z_lB M' 121 123 T wn (min m (k * T + (T - (j + 3 - z_lo k) / 4))) → AW l g RX10 cX10_loses 5 (some .int) false d 0 0 10 [some (.ref 99), some (.int (nI (z_lw k))), some (.int v2), some (.int (nI (m - (k * T + (T - (j + 3 - z_lo k) / 4))))), some (.int (z_pm j))] [] (ZS m0 m1 md) M' (z_Qi Q) := by
  have ho := z_lo_lt k
  have hw := z_lw_le k
  have hrk := fun i => z_rk_k (T := T) (k := k) (i := i) hk
  have hwk := fun i => z_wk_k (k := k) (i := i) hk
  generalize z_lo k = o at ho hrk hwk ⊢
  generalize z_lw k = w at hw hwk ⊢
  generalize k * T = K at hQ hrk ⊢
  intro j
  induction j with
  | zero =>
    intro hj M' f h
    rw [show K + (T - (0 + 3 - o) / 4) = K + T by omega] at h ⊢
    show AW l g RX10 cX10_loses 5 (some .int) false d 0 0 10 [some (.ref 99), some (.int (nI w)), some (.int v2), some (.int (nI (m - (K + T)))), some (.int (-1))] [] (ZS m0 m1 md) M' (z_Qi Q)
    refine AW.iload 12 dX10_loses_10 rfl rfl ?_
    refine AW.if_lt 15 55 dX10_loses_12 (by decide) rfl (fun _ => ?_) (fun h => absurd h (by decide))
    refine AW.iload_n 56 dX10_loses_55 rfl rfl ?_
    refine AW.iret dX10_loses_56 .int rfl rfl rfl ⟨_, rfl, ?_⟩
    exact hQ M' f h
  | succ j ih =>
    intro hj M' f h
    have ih := ih (by omega)
    obtain ⟨h1, h2⟩ := h j (by omega)
    have hwj := hwk j
    have hrj := hrk j
    have hw3 := z_wk_le j
    have qd := z_pm_dec (n := j) (by omega)
    generalize hc : K + (T - (j + 1 + 3 - o) / 4) = c at h h1 h2 ⊢
    obtain ⟨kk, ekk, hk5, hkw⟩ : ∃ kk, M' 121 j = nI kk ∧ kk ≤ 5 ∧ (kk = w ↔ (¬ z_rk T j < min m c ∧ j % 4 = o)) := by
      refine ⟨_, h1, ?_, ?_⟩
      · unfold z_lk5; split <;> omega
      · unfold z_lk5
        split
        · constructor
          · intro z; omega
          · intro z; exact absurd (by assumption) z.1
        · rw [hwj]; constructor
          · intro z; exact ⟨by assumption, z⟩
          · intro z; exact z.2
    have fin1 : 0 < m - c → kk = w → AW l g RX10 cX10_loses 5 (some .int) false d 0 0 10 [some (.ref 99), some (.int (nI w)), some (.int v2), some (.int (nI (m - c - 1))), some (.int (z_pm j))] [] (ZS m0 m1 md) (z_st (z_st M' 121 j (nI 5)) 123 j (nI 0)) (z_Qi Q) := fun a1 a2 => by
      obtain ⟨b1, b2⟩ := hkw.mp a2
      have b3 := hrj b2
      have e1 : K + (T - (j + 3 - o) / 4) = c + 1 := by omega
      rw [e1] at ih
      have e2 : m - c - 1 = m - (c + 1) := by omega
      have e3 : min m c + 1 = min m (c + 1) := by omega
      rw [e2]
      refine ih _ (fun c c1 c2 => by rw [z_st_ne c2, z_st_ne c1]; exact f c c1 c2) ?_
      rw [← e3]
      refine z_lB_s h (i := j) (by omega) (by omega) ?_ ?_
      · rw [z_st_ne (by decide), z_st_at]
      · rw [z_st_at, z_st_ne (by decide)]
    have fin2 : (¬ 0 < m - c ∨ ¬ kk = w) → AW l g RX10 cX10_loses 5 (some .int) false d 0 0 10 [some (.ref 99), some (.int (nI w)), some (.int v2), some (.int (nI (m - c))), some (.int (z_pm j))] [] (ZS m0 m1 md) M' (z_Qi Q) := fun a1 => by
      rw [hkw] at a1
      have e4 : j % 4 = o → (K + (T - (j + 3 - o) / 4) = c + 1 ∧ z_rk T j = c) := fun z => ⟨by omega, by rw [hrj z]; omega⟩
      have e5 : ¬ j % 4 = o → K + (T - (j + 3 - o) / 4) = c := fun z => by omega
      have e1 : m - c = m - (K + (T - (j + 3 - o) / 4)) ∧ min m c = min m (K + (T - (j + 3 - o) / 4)) := by
        by_cases z : j % 4 = o
        · have := e4 z; omega
        · have := e5 z; omega
      rw [e1.2] at h
      rw [e1.1]
      exact ih M' f h
    show AW l g RX10 cX10_loses 5 (some .int) false d 0 0 10 [some (.ref 99), some (.int (nI w)), some (.int v2), some (.int (nI (m - c))), some (.int (nI j))] [] (ZS m0 m1 md) M' (z_Qi Q)
    refine AW.iload 12 dX10_loses_10 rfl rfl ?_
    refine AW.ifN_lt 15 55 dX10_loses_12 (by decide) rfl (by omega) (fun b12 => absurd b12 (by omega)) (fun b12 => ?_)
    refine AW.iload_n 16 dX10_loses_15 rfl rfl ?_
    refine AW.ifN_le 19 49 dX10_loses_16 (by decide) rfl (by omega) (fun b16 => ?_) (fun b16 => ?_)
    · skip
      refine AW.iinc4 52 (z_pm j) dX10_loses_49 qd (by decide) rfl rfl ?_
      refine AW.goto 10 dX10_loses_52 (by decide) ?_
      first | exact fin1 (by omega) (by omega) | exact fin2 (by omega)
    · skip
      refine AW.aload_n 20 dX10_loses_19 rfl rfl ?_
      refine AW.getR 23 dX10_loses_20 fX10_78 rfl (zI rfl rfl) rfl rfl ?_
      refine AW.iload 25 dX10_loses_23 rfl rfl ?_
      refine AW.iald 26 dX10_loses_25 (zA rfl rfl) rfl (by omega) (by decide) rfl ?_
      refine AW.topi (nI kk) ekk ?_
      refine AW.iload_n 27 dX10_loses_26 rfl rfl ?_
      refine AW.icmpN_ne 30 49 dX10_loses_27 (by decide) rfl (by omega) (by omega) (fun b27 => ?_) (fun b27 => ?_)
      · skip
        refine AW.iinc4 52 (z_pm j) dX10_loses_49 qd (by decide) rfl rfl ?_
        refine AW.goto 10 dX10_loses_52 (by decide) ?_
        first | exact fin1 (by omega) (by omega) | exact fin2 (by omega)
      · skip
        refine AW.aload_n 31 dX10_loses_30 rfl rfl ?_
        refine AW.getR 34 dX10_loses_31 fX10_78 rfl (zI rfl rfl) rfl rfl ?_
        refine AW.iload 36 dX10_loses_34 rfl rfl ?_
        refine AW.iconst 37 (nI 5) dX10_loses_36 (by decide) rfl ?_
        refine AW.iast 38 dX10_loses_37 (zA rfl rfl) rfl (by omega) (by decide) rfl ?_
        refine AW.aload_n 39 dX10_loses_38 rfl rfl ?_
        refine AW.getR 42 dX10_loses_39 fX10_84 rfl (zI rfl rfl) rfl rfl ?_
        refine AW.iload 44 dX10_loses_42 rfl rfl ?_
        refine AW.iconst 45 (nI 0) dX10_loses_44 (by decide) rfl ?_
        refine AW.iast 46 dX10_loses_45 (zA rfl rfl) rfl (by omega) (by decide) rfl ?_
        refine AW.iinc3 49 (nI (m - c - 1)) dX10_loses_46 (z_dec' (by omega)) (by decide) rfl rfl ?_
        refine AW.iinc4 52 (z_pm j) dX10_loses_49 qd (by decide) rfl rfl ?_
        refine AW.goto 10 dX10_loses_52 (by decide) ?_
        first | exact fin1 (by omega) (by omega) | exact fin2 (by omega)
theorem C_X10_loses (hL : M 99 25 = nI (4 * T)) {k m : Nat} (hk : k < 4) (hT2 : T ≤ 12) (hm : m ≤ 48) (h : z_lB M 121 123 T wn (min m (k * T))) {w left : Int32} (ew : w = nI (z_lw k)) (el : left = nI (m - k * T)) {Q : Int32 → zS → zM → Prop} (hQ : ∀ M' : zM, (∀ c, c ≠ 121 → c ≠ 123 → M' c = M c) → z_lB M' 121 123 T wn (min m (k * T + T)) → Q (nI (m - (k * T + T))) (ZS m0 m1 md) M') : AMet l g yX10_loses cX10_loses 5 (some .int) d 0 0 [.ref 99, .int w, .int left] (ZS m0 m1 md) M (z_Qi Q) := by
  have ho := z_lo_lt k
  have e0 : k * T + (T - (4 * T + 3 - z_lo k) / 4) = k * T := by
    generalize k * T = K
    omega
  subst ew
  subst el
  refine AMet.of (ini := false) rfl (fun h => by first | rfl | cases h) (Nat.le_of_ble_eq_true rfl) ?_
  show AW l g RX10 cX10_loses 5 (some .int) false _ _ _ 0 [some (.ref 99), some (.int (nI (z_lw k))), some (.int (nI (m - k * T))), none, none] [] _ _ _
  refine AW.iload_n 1 dX10_loses_0 rfl rfl ?_
  refine AW.istn3 2 dX10_loses_1 (by decide) rfl rfl ?_
  refine AW.aload_n 3 dX10_loses_2 rfl rfl ?_
  refine AW.getI 6 dX10_loses_3 fX10_209 rfl (zI rfl rfl) rfl ?_
  refine AW.topi (nI (4 * T)) hL ?_
  refine AW.iconst 7 (nI 1) dX10_loses_6 (by decide) rfl ?_
  refine AW.isub 8 dX10_loses_7 rfl ?_
  refine AW.topi (z_pm (4 * T)) (z_pm_sub (by omega)) ?_
  refine AW.ist4 10 dX10_loses_8 (by decide) rfl rfl ?_
  have L := L_X10_loses (l := l) (g := g) (d := d) (m0 := m0) (m1 := m1) (md := md) (M := M) (T := T) (wn := wn) hk hT2 hm (v2 := nI (m - k * T)) hQ (4 * T) (Nat.le_refl _) M (fun _ _ _ => rfl)
  rw [e0] at L
  exact L h
theorem L_X10_write (hT : M 99 16 = nI T) (hT2 : T ≤ 12) (hv : ∀ t, t < T → M 113 t = nI (sg t) ∧ M 114 t = nI (lt t) ∧ M 119 t = nI (R t) ∧ M 120 t = nI (Ac t)) {rm : Int32} {v3 : Option Value} {Q : Int32 → zS → zM → Prop}
    (hQ : ∀ M' : zM, (∀ c, c ≠ 99 → c ≠ 121 → c ≠ 122 → c ≠ 123 → M' c = M c) → (∀ j, j ≠ 25 → M' 99 j = M 99 j) → M' 99 25 = nI (4 * T) → z_wB M' 121 122 123 (z_wn sg lt R Ac) (4 * T) → AW l g RX10 cX10_write 4 (some .int) false (d + 1) 0 0 93 [some (.ref 99), some (.int rm), some (.int (nI T)), v3] [] (ZS m0 m1 md) M' (z_Qi Q)) :
    ∀ (q t : Nat), t + q = T → ∀ M' : zM, (∀ c, c ≠ 99 → c ≠ 121 → c ≠ 122 → c ≠ 123 → M' c = M c) → (∀ j, j ≠ 25 → M' 99 j = M 99 j) → M' 99 25 = nI (4 * t) → z_wB M' 121 122 123 (z_wn sg lt R Ac) (4 * t) → AW l g RX10 cX10_write 4 (some .int) false (d + 1) 0 0 31 [some (.ref 99), some (.int rm), some (.int (nI t)), v3] [] (ZS m0 m1 md) M' (z_Qi Q) := by
  intro q
  induction q with
  | zero =>
    intro t ht M' f f2 hL h
    have ht : t = T := by omega
    subst ht
    refine AW.iload_n 32 dX10_write_31 rfl rfl ?_
    refine AW.aload_n 33 dX10_write_32 rfl rfl ?_
    refine AW.getI 36 dX10_write_33 fX10_50 rfl (zI rfl rfl) rfl ?_
    refine AW.topi (nI t) (by rw [f2 16 (by decide)]; exact hT) ?_
    refine AW.icmpN_ge 39 93 dX10_write_36 (by decide) rfl (by omega) (by omega) (fun b36 => ?_) (fun b36 => absurd b36 (by omega))
    exact hQ M' f f2 hL h
  | succ q ih =>
    intro t ht M' f f2 hL h
    have hv' : ∀ M9 : zM, (∀ c, c ≠ 99 → c ≠ 121 → c ≠ 122 → c ≠ 123 → M9 c = M c) → M9 113 t = nI (sg t) ∧ M9 114 t = nI (lt t) ∧ M9 119 t = nI (R t) ∧ M9 120 t = nI (Ac t) := fun M9 f9 => by
      rw [f9 113 (by decide) (by decide) (by decide) (by decide), f9 114 (by decide) (by decide) (by decide) (by decide), f9 119 (by decide) (by decide) (by decide) (by decide), f9 120 (by decide) (by decide) (by decide) (by decide)]; exact hv t (by omega)
    have w0 : z_wk (4 * t) = 0 ∧ 4 * t / 4 = t ∧ z_wn sg lt R Ac (4 * t) = sg t := by
      have a1 : (4 * t) % 4 = 0 := by omega
      have a2 : (4 * t) / 4 = t := by omega
      unfold z_wk z_wn; rw [a1, a2]; exact ⟨rfl, rfl, rfl⟩
    have w1 : z_wk (4 * t + 1) = 3 ∧ (4 * t + 1) / 4 = t ∧ z_wn sg lt R Ac (4 * t + 1) = lt t := by
      have a1 : (4 * t + 1) % 4 = 1 := by omega
      have a2 : (4 * t + 1) / 4 = t := by omega
      unfold z_wk z_wn; rw [a1, a2]; exact ⟨rfl, rfl, rfl⟩
    have w2 : z_wk (4 * t + 1 + 1) = 1 ∧ (4 * t + 1 + 1) / 4 = t ∧ z_wn sg lt R Ac (4 * t + 1 + 1) = R t := by
      have a1 : (4 * t + 1 + 1) % 4 = 2 := by omega
      have a2 : (4 * t + 1 + 1) / 4 = t := by omega
      unfold z_wk z_wn; rw [a1, a2]; exact ⟨rfl, rfl, rfl⟩
    have w3 : z_wk (4 * t + 1 + 1 + 1) = 2 ∧ (4 * t + 1 + 1 + 1) / 4 = t ∧ z_wn sg lt R Ac (4 * t + 1 + 1 + 1) = Ac t := by
      have a1 : (4 * t + 1 + 1 + 1) % 4 = 3 := by omega
      have a2 : (4 * t + 1 + 1 + 1) / 4 = t := by omega
      unfold z_wk z_wn; rw [a1, a2]; exact ⟨rfl, rfl, rfl⟩
    refine AW.iload_n 32 dX10_write_31 rfl rfl ?_
    refine AW.aload_n 33 dX10_write_32 rfl rfl ?_
    refine AW.getI 36 dX10_write_33 fX10_50 rfl (zI rfl rfl) rfl ?_
    refine AW.topi (nI T) (by rw [f2 16 (by decide)]; exact hT) ?_
    refine AW.icmpN_ge 39 93 dX10_write_36 (by decide) rfl (by omega) (by omega) (fun b36 => absurd b36 (by omega)) (fun b36 => ?_)
    refine AW.aload_n 40 dX10_write_39 rfl rfl ?_
    refine AW.iconst 41 (nI 0) dX10_write_40 (by decide) rfl ?_
    refine AW.iload_n 42 dX10_write_41 rfl rfl ?_
    refine AW.aload_n 43 dX10_write_42 rfl rfl ?_
    refine AW.getR 46 dX10_write_43 fX10_54 rfl (zI rfl rfl) rfl rfl ?_
    refine AW.iload_n 47 dX10_write_46 rfl rfl ?_
    refine AW.iald 48 dX10_write_47 (zA rfl rfl) rfl (by omega) (by decide) rfl ?_
    refine AW.topi (nI (sg t)) (hv' M' f).1 ?_
    refine AW.cVv3 51 dX10_write_48 kX10_212 (zI rfl rfl) (Nat.le_of_ble_eq_true rfl) rfl (C_X10_writes2 (M := M') (L := 4 * t) hL (by omega) (fun M1 a1 a2 a3 a4 a5 a6 => ?_))
    have f1 : ∀ c, c ≠ 99 → c ≠ 121 → c ≠ 122 → c ≠ 123 → M1 c = M c := fun c c1 c2 c3 c4 => by rw [a1 c c1 c2 c3 c4]; exact f c c1 c2 c3 c4
    refine AW.aload_n 52 dX10_write_51 rfl rfl ?_
    refine AW.iconst 53 (nI 3) dX10_write_52 (by decide) rfl ?_
    refine AW.iload_n 54 dX10_write_53 rfl rfl ?_
    refine AW.aload_n 55 dX10_write_54 rfl rfl ?_
    refine AW.getR 58 dX10_write_55 fX10_57 rfl (zI rfl rfl) rfl rfl ?_
    refine AW.iload_n 59 dX10_write_58 rfl rfl ?_
    refine AW.iald 60 dX10_write_59 (zA rfl rfl) rfl (by omega) (by decide) rfl ?_
    refine AW.topi (nI (lt t)) (hv' M1 f1).2.1 ?_
    refine AW.cVv3 63 dX10_write_60 kX10_212 (zI rfl rfl) (Nat.le_of_ble_eq_true rfl) rfl (C_X10_writes2 (M := M1) (L := 4 * t + 1) a3 (by omega) (fun M2 b1 b2 b3 b4 b5 b6 => ?_))
    have f12 : ∀ c, c ≠ 99 → c ≠ 121 → c ≠ 122 → c ≠ 123 → M2 c = M c := fun c c1 c2 c3 c4 => by rw [b1 c c1 c2 c3 c4]; exact f1 c c1 c2 c3 c4
    refine AW.aload_n 64 dX10_write_63 rfl rfl ?_
    refine AW.iconst 65 (nI 1) dX10_write_64 (by decide) rfl ?_
    refine AW.iload_n 66 dX10_write_65 rfl rfl ?_
    refine AW.aload_n 67 dX10_write_66 rfl rfl ?_
    refine AW.getR 70 dX10_write_67 fX10_72 rfl (zI rfl rfl) rfl rfl ?_
    refine AW.iload_n 71 dX10_write_70 rfl rfl ?_
    refine AW.iald 72 dX10_write_71 (zA rfl rfl) rfl (by omega) (by decide) rfl ?_
    refine AW.topi (nI (R t)) (hv' M2 f12).2.2.1 ?_
    refine AW.cVv3 75 dX10_write_72 kX10_212 (zI rfl rfl) (Nat.le_of_ble_eq_true rfl) rfl (C_X10_writes2 (M := M2) (L := 4 * t + 1 + 1) b3 (by omega) (fun M3 c1 c2 c3 c4 c5 c6 => ?_))
    have f13 : ∀ c, c ≠ 99 → c ≠ 121 → c ≠ 122 → c ≠ 123 → M3 c = M c := fun c e1 e2 e3 e4 => by rw [c1 c e1 e2 e3 e4]; exact f12 c e1 e2 e3 e4
    refine AW.aload_n 76 dX10_write_75 rfl rfl ?_
    refine AW.iconst 77 (nI 2) dX10_write_76 (by decide) rfl ?_
    refine AW.iload_n 78 dX10_write_77 rfl rfl ?_
    refine AW.aload_n 79 dX10_write_78 rfl rfl ?_
    refine AW.getR 82 dX10_write_79 fX10_75 rfl (zI rfl rfl) rfl rfl ?_
    refine AW.iload_n 83 dX10_write_82 rfl rfl ?_
    refine AW.iald 84 dX10_write_83 (zA rfl rfl) rfl (by omega) (by decide) rfl ?_
    refine AW.topi (nI (Ac t)) (hv' M3 f13).2.2.2 ?_
    refine AW.cVv3 87 dX10_write_84 kX10_212 (zI rfl rfl) (Nat.le_of_ble_eq_true rfl) rfl (C_X10_writes2 (M := M3) (L := 4 * t + 1 + 1 + 1) c3 (by omega) (fun M4 d1 d2 d3 d4 d5 d6 => ?_))
    refine AW.iinc2 90 _ dX10_write_87 (z_inc1 _) (by decide) rfl rfl ?_
    refine AW.goto 31 dX10_write_90 (by decide) ?_
    refine ih (t + 1) (by omega) M4 (fun c e1 e2 e3 e4 => by rw [d1 c e1 e2 e3 e4]; exact f13 c e1 e2 e3 e4) (fun j hj => by rw [d2 j hj, c2 j hj, b2 j hj, a2 j hj]; exact f2 j hj) d3 ?_
    have p1 := z_wB_s h (by rw [w0.1]) (by rw [w0.2.1]) (by rw [w0.2.2]) a4 a5 a6
    have p2 := z_wB_s p1 (by rw [w1.1]) (by rw [w1.2.1]) (by rw [w1.2.2]) b4 b5 b6
    have p3 := z_wB_s p2 (by rw [w2.1]) (by rw [w2.2.1]) (by rw [w2.2.2]) c4 c5 c6
    have p4 := z_wB_s p3 (by rw [w3.1]) (by rw [w3.2.1]) (by rw [w3.2.2]) d4 d5 d6
    exact p4
end WRITE
