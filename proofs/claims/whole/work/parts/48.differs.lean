/-- a place counted down: one ahead of j -/
def z_pm : Nat → Int32
  | 0 => -1
  | j + 1 => nI j
theorem z_pm_sub {n : Nat} (h : n < 49) : nI n - nI 1 = z_pm n := by
  have : ∀ n, n < 49 → nI n - nI 1 = z_pm n := by decide +kernel
  exact this n h
theorem z_pm_dec {n : Nat} (h : n < 49) : nI n + Int32.ofInt (-1) = z_pm n := by
  have : ∀ n, n < 49 → nI n + Int32.ofInt (-1) = z_pm n := by decide +kernel
  exact this n h
/-- what is seen by the book: the lines of a kind, from the last to the first -/
def z_see (kd tk nb : Nat → Nat) (w : Nat) : Nat → (Nat → Nat) → (Nat → Nat)
  | 0, f => f
  | i + 1, f => z_see kd tk nb w i (if kd i = w then (fun t => if t = tk i then nb i else f t) else f)
def z_nm (k : Nat) : Nat := match k with | 0 => 15 | 1 => 8 | 2 => 3 | 3 => 1 | _ => 99
def g_bk (M : zM) (L : Nat) (kd tk nb : Nat → Nat) : Prop := M 99 25 = nI L ∧ L ≤ 48 ∧ ∀ i, i < L → M 121 i = nI (kd i) ∧ M 122 i = nI (tk i) ∧ M 123 i = nI (nb i) ∧ kd i < 6 ∧ tk i < 12 ∧ nb i ≤ z_nm (kd i)
section DIFFERS
variable {l : Launch} {g : zG} {d m0 m1 md : Nat} {M : zM} {L : Nat} {kd tk nb : Nat → Nat}
theorem L_X10_differs1 (hB : g_bk M L kd tk nb) {S U : Nat → Nat} {Q : Int32 → zS → zM → Prop}
    (hQ : ∀ M', (∀ c, c ≠ 116 → c ≠ 117 → M' c = M c) → (∀ t, t < 12 → M' 116 t = nI (S t) ∧ M' 117 t = nI (U t) ∧ S t < 16 ∧ U t < 2) → AW l g RX10 cX10_differs 4 (some .int) false d 0 0 77 [some (.ref 99), some (.int (-1)), none, none] [] (ZS m0 m1 md) M' (z_Qi Q)) :
    ∀ j, j ≤ L → ∀ (M' : zM) (s u : Nat → Nat), (∀ c, c ≠ 116 → c ≠ 117 → M' c = M c) → (∀ t, t < 12 → M' 116 t = nI (s t) ∧ M' 117 t = nI (u t) ∧ s t < 16 ∧ u t < 2) → z_see kd tk nb 0 j s = S → z_see kd tk nb 3 j u = U → AW l g RX10 cX10_differs 4 (some .int) false d 0 0 11 [some (.ref 99), some (.int (z_pm j)), none, none] [] (ZS m0 m1 md) M' (z_Qi Q) := by
  intro j
  induction j with
  | zero =>
    intro hj M' s u f h1 e1 e2
    subst e1
    subst e2
    show AW l g RX10 cX10_differs 4 (some .int) false d 0 0 11 [some (.ref 99), some (.int (-1)), none, none] [] (ZS m0 m1 md) M' (z_Qi Q)
    refine AW.iload_n 12 dX10_differs_11 rfl rfl ?_
    refine AW.if_lt 15 77 dX10_differs_12 (by decide) rfl (fun _ => ?_) (fun h => absurd h (by decide))
    exact hQ M' f h1
  | succ j ih =>
    intro hj M' s u f h1 e1 e2
    obtain ⟨b1, b2, b3⟩ := hB
    obtain ⟨k1, k2, k3, k4, k5, k6⟩ := b3 j (by omega)
    have q1 : M' 121 j = nI (kd j) := by rw [f 121 (by decide) (by decide)]; exact k1
    have q2 : M' 122 j = nI (tk j) := by rw [f 122 (by decide) (by decide)]; exact k2
    have q3 : M' 123 j = nI (nb j) := by rw [f 123 (by decide) (by decide)]; exact k3
    have qd := z_pm_dec (n := j) (by omega)
    rw [z_see] at e1 e2
    have fin1 : kd j = 0 → AW l g RX10 cX10_differs 4 (some .int) false d 0 0 11 [some (.ref 99), some (.int (z_pm j)), none, none] [] (ZS m0 m1 md) (z_st M' 116 (tk j) (nI (nb j))) (z_Qi Q) := fun h0 => by
      rw [if_pos h0] at e1
      rw [if_neg (by omega)] at e2
      rw [h0] at k6
      refine ih (by omega) _ _ _ (fun c c1 c2 => by rw [z_st_ne c1]; exact f c c1 c2) (fun t ht => ?_) e1 e2
      rw [z_st_at, z_st_ne (by decide)]
      by_cases h : t = tk j
      · subst h
        simp only [upd, if_true]
        exact ⟨trivial, (h1 _ ht).2.1, Nat.lt_succ_of_le k6, (h1 _ ht).2.2.2⟩
      · simp only [upd, if_neg h]; exact h1 t ht
    have fin2 : kd j = 3 → AW l g RX10 cX10_differs 4 (some .int) false d 0 0 11 [some (.ref 99), some (.int (z_pm j)), none, none] [] (ZS m0 m1 md) (z_st M' 117 (tk j) (nI (nb j))) (z_Qi Q) := fun h0 => by
      rw [if_neg (by omega)] at e1
      rw [if_pos h0] at e2
      rw [h0] at k6
      refine ih (by omega) _ _ _ (fun c c1 c2 => by rw [z_st_ne c2]; exact f c c1 c2) (fun t ht => ?_) e1 e2
      rw [z_st_at, z_st_ne (by decide)]
      by_cases h : t = tk j
      · subst h
        simp only [upd, if_true]
        exact ⟨(h1 _ ht).1, trivial, (h1 _ ht).2.2.1, Nat.lt_succ_of_le k6⟩
      · simp only [upd, if_neg h]; exact h1 t ht
    have fin3 : ¬ kd j = 0 → ¬ kd j = 3 → AW l g RX10 cX10_differs 4 (some .int) false d 0 0 11 [some (.ref 99), some (.int (z_pm j)), none, none] [] (ZS m0 m1 md) M' (z_Qi Q) := fun h0 h3 => by
      rw [if_neg h0] at e1
      rw [if_neg h3] at e2
      exact ih (by omega) M' s u f h1 e1 e2
    show AW l g RX10 cX10_differs 4 (some .int) false d 0 0 11 [some (.ref 99), some (.int (nI j)), none, none] [] (ZS m0 m1 md) M' (z_Qi Q)
    refine AW.iload_n 12 dX10_differs_11 rfl rfl ?_
    refine AW.ifN_lt 15 77 dX10_differs_12 (by decide) rfl (by omega) (fun b12 => absurd b12 (by omega)) (fun b12 => ?_)
    refine AW.aload_n 16 dX10_differs_15 rfl rfl ?_
    refine AW.getR 19 dX10_differs_16 fX10_78 rfl (zI rfl rfl) rfl rfl ?_
    refine AW.iload_n 20 dX10_differs_19 rfl rfl ?_
    refine AW.iald 21 dX10_differs_20 (zA rfl rfl) rfl (by omega) (by decide) rfl ?_
    refine AW.topi (nI (kd j)) q1 ?_
    refine AW.ifN_ne 24 44 dX10_differs_21 (by decide) rfl (by omega) (fun b21 => ?_) (fun b21 => ?_)
    · skip
      refine AW.aload_n 45 dX10_differs_44 rfl rfl ?_
      refine AW.getR 48 dX10_differs_45 fX10_78 rfl (zI rfl rfl) rfl rfl ?_
      refine AW.iload_n 49 dX10_differs_48 rfl rfl ?_
      refine AW.iald 50 dX10_differs_49 (zA rfl rfl) rfl (by omega) (by decide) rfl ?_
      refine AW.topi (nI (kd j)) q1 ?_
      refine AW.iconst 51 (nI 3) dX10_differs_50 (by decide) rfl ?_
      refine AW.icmpN_ne 54 71 dX10_differs_51 (by decide) rfl (by omega) (by omega) (fun b51 => ?_) (fun b51 => ?_)
      · skip
        refine AW.iinc1 74 (z_pm j) dX10_differs_71 qd (by decide) rfl rfl ?_
        refine AW.goto 11 dX10_differs_74 (by decide) ?_
        first | exact fin1 b21 | exact fin2 (by omega) | exact fin3 b21 (by omega)
      · skip
        refine AW.aload_n 55 dX10_differs_54 rfl rfl ?_
        refine AW.getR 58 dX10_differs_55 fX10_66 rfl (zI rfl rfl) rfl rfl ?_
        refine AW.aload_n 59 dX10_differs_58 rfl rfl ?_
        refine AW.getR 62 dX10_differs_59 fX10_81 rfl (zI rfl rfl) rfl rfl ?_
        refine AW.iload_n 63 dX10_differs_62 rfl rfl ?_
        refine AW.iald 64 dX10_differs_63 (zA rfl rfl) rfl (by omega) (by decide) rfl ?_
        refine AW.topi (nI (tk j)) q2 ?_
        refine AW.aload_n 65 dX10_differs_64 rfl rfl ?_
        refine AW.getR 68 dX10_differs_65 fX10_84 rfl (zI rfl rfl) rfl rfl ?_
        refine AW.iload_n 69 dX10_differs_68 rfl rfl ?_
        refine AW.iald 70 dX10_differs_69 (zA rfl rfl) rfl (by omega) (by decide) rfl ?_
        refine AW.topi (nI (nb j)) q3 ?_
        refine AW.iast 71 dX10_differs_70 (zA rfl rfl) rfl (by omega) (by decide) rfl ?_
        refine AW.iinc1 74 (z_pm j) dX10_differs_71 qd (by decide) rfl rfl ?_
        refine AW.goto 11 dX10_differs_74 (by decide) ?_
        first | exact fin1 b21 | exact fin2 (by omega) | exact fin3 b21 (by omega)
    · skip
      refine AW.aload_n 25 dX10_differs_24 rfl rfl ?_
      refine AW.getR 28 dX10_differs_25 fX10_63 rfl (zI rfl rfl) rfl rfl ?_
      refine AW.aload_n 29 dX10_differs_28 rfl rfl ?_
      refine AW.getR 32 dX10_differs_29 fX10_81 rfl (zI rfl rfl) rfl rfl ?_
      refine AW.iload_n 33 dX10_differs_32 rfl rfl ?_
      refine AW.iald 34 dX10_differs_33 (zA rfl rfl) rfl (by omega) (by decide) rfl ?_
      refine AW.topi (nI (tk j)) q2 ?_
      refine AW.aload_n 35 dX10_differs_34 rfl rfl ?_
      refine AW.getR 38 dX10_differs_35 fX10_84 rfl (zI rfl rfl) rfl rfl ?_
      refine AW.iload_n 39 dX10_differs_38 rfl rfl ?_
      refine AW.iald 40 dX10_differs_39 (zA rfl rfl) rfl (by omega) (by decide) rfl ?_
      refine AW.topi (nI (nb j)) q3 ?_
      refine AW.iast 41 dX10_differs_40 (zA rfl rfl) rfl (by omega) (by decide) rfl ?_
      refine AW.goto 71 dX10_differs_41 (by decide) ?_
      refine AW.iinc1 74 (z_pm j) dX10_differs_71 qd (by decide) rfl rfl ?_
      refine AW.goto 11 dX10_differs_74 (by decide) ?_
      first | exact fin1 b21 | exact fin2 (by omega) | exact fin3 b21 (by omega)
end DIFFERS
