theorem z_nI {v : Int32} {n : Nat} (h0 : 0 ≤ v.toInt) (h1 : v.toInt ≤ n) : ∃ k : Nat, k ≤ n ∧ v = nI k ∧ v.toInt = k := by
  refine ⟨v.toInt.toNat, by omega, ?_, by omega⟩
  apply Int32.toInt_inj.mp
  have hlt : v.toInt.toNat < 2 ^ 31 := by have := Int32.toInt_lt v; omega
  rw [nI_toInt hlt]
  omega
theorem z_ti {n : Nat} (h : n < 2 ^ 31) : (nI n).toInt = (n : Int) := nI_toInt h
theorem z_lt {a b : Int32} : a < b ↔ a.toInt < b.toInt := Int32.lt_iff_toInt_lt
theorem z_le {a b : Int32} : a ≤ b ↔ a.toInt ≤ b.toInt := Int32.le_iff_toInt_le
theorem z_eq {a b : Int32} : a = b ↔ a.toInt = b.toInt := Int32.toInt_inj.symm
theorem z_cmp_lt (x y : Int64) : lg_cmp x y < 0 ↔ x.toInt < y.toInt := by
  have := lg_cmp_ge x y
  rw [Int64.le_iff_toInt_le] at this
  constructor
  · intro h
    rcases Int.lt_or_le x.toInt y.toInt with q | q
    · exact q
    · exact absurd h (Int32.not_lt.mpr (this.mpr q))
  · intro h
    rcases Int32.lt_or_le (lg_cmp x y) 0 with q | q
    · exact q
    · exact absurd (this.mp q) (by omega)
theorem z_cmp_gt (x y : Int64) : 0 < lg_cmp x y ↔ y.toInt < x.toInt := by
  unfold lg_cmp
  by_cases h : y.toInt < x.toInt
  · rw [if_pos (Int64.lt_iff_toInt_lt.mpr h)]; exact ⟨fun _ => h, fun _ => by decide⟩
  · rw [if_neg (fun q => h (Int64.lt_iff_toInt_lt.mp q))]
    constructor
    · intro q
      split at q <;> exact absurd q (by decide)
    · intro q; exact absurd q h
theorem z_lN {n : Nat} (h : n < 2 ^ 31) : (lN n).toInt = (n : Int) := lN_toInt h
theorem z_cmp_lt0 {x y : Int64} : (lg_cmp x y).toInt < 0 ↔ x.toInt < y.toInt := by
  rw [← z_cmp_lt, z_lt]; exact Iff.rfl
theorem z_cmp_gt0 {x y : Int64} : 0 < (lg_cmp x y).toInt ↔ y.toInt < x.toInt := by
  rw [← z_cmp_gt, z_lt]; exact Iff.rfl
section BASE
variable {l : Launch} {g : zG} {d : Nat} {S : zS} {M : zM}
theorem C_in {v low high : Int64} {x lo hi : Int} {Q : Int32 → zS → zM → Prop} (hv : v.toInt = x) (hl : low.toInt = lo) (hh : high.toInt = hi) (h1 : lo ≤ x ∧ x ≤ hi → Q (nI 1) S M) (h0 : ¬ (lo ≤ x ∧ x ≤ hi) → Q (nI 0) S M) : AMet l g yX10_in cX10_in 6 (some .boolean) d 0 0 [.long v, .long low, .long high] S M (z_Qi Q) := by
  refine AMet.of (ini := false) rfl (fun h => by first | rfl | cases h) (Nat.le_of_ble_eq_true rfl) ?_
  show AW l g RX10 cX10_in 6 (some .boolean) false _ _ _ 0 [some (.long v), none, some (.long low), none, some (.long high), none] [] _ _ _
  refine AW.lload_n 1 dX10_in_0 rfl rfl ?_
  refine AW.lload_n 2 dX10_in_1 rfl rfl ?_
  refine AW.lcmp 3 dX10_in_2 rfl ?_
  refine AW.zif_lt 6 17 dX10_in_3 (by decide) rfl rfl (fun b3 => ?_) (fun b3 => ?_)
  · skip
    refine AW.iconst 18 (nI 0) dX10_in_17 (by decide) rfl ?_
    refine AW.iret dX10_in_18 .boolean rfl rfl rfl ⟨_, rfl, ?_⟩
    (try rw [z_cmp_lt0] at b3)
    (try rw [z_cmp_gt0] at b10)
    first | exact h1 (by omega) | exact h0 (by omega)
  · skip
    refine AW.lload_n 7 dX10_in_6 rfl rfl ?_
    refine AW.lload 9 dX10_in_7 rfl rfl ?_
    refine AW.lcmp 10 dX10_in_9 rfl ?_
    refine AW.zif_gt 13 17 dX10_in_10 (by decide) rfl rfl (fun b10 => ?_) (fun b10 => ?_)
    · skip
      refine AW.iconst 18 (nI 0) dX10_in_17 (by decide) rfl ?_
      refine AW.iret dX10_in_18 .boolean rfl rfl rfl ⟨_, rfl, ?_⟩
      (try rw [z_cmp_lt0] at b3)
      (try rw [z_cmp_gt0] at b10)
      first | exact h1 (by omega) | exact h0 (by omega)
    · skip
      refine AW.iconst 14 (nI 1) dX10_in_13 (by decide) rfl ?_
      refine AW.goto 18 dX10_in_14 (by decide) ?_
      refine AW.iret dX10_in_18 .boolean rfl rfl rfl ⟨_, rfl, ?_⟩
      (try rw [z_cmp_lt0] at b3)
      (try rw [z_cmp_gt0] at b10)
      first | exact h1 (by omega) | exact h0 (by omega)
theorem C_beyond {v last : Int32} {V L : Int} {Q : Int32 → zS → zM → Prop} (hv : v.toInt = V) (hL : last.toInt = L) (h1 : (V < 0 ∨ L < V) → Q (nI 1) S M) (h0 : ¬ (V < 0 ∨ L < V) → Q (nI 0) S M) : AMet l g yX9_beyond cX9_beyond 2 (some .boolean) d 0 0 [.int v, .int last] S M (z_Qi Q) := by
  refine AMet.of (ini := false) rfl (fun h => by first | rfl | cases h) (Nat.le_of_ble_eq_true rfl) ?_
  show AW l g RX9 cX9_beyond 2 (some .boolean) false _ _ _ 0 [some (.int v), some (.int last)] [] _ _ _
  refine AW.iload_n 1 dX9_beyond_0 rfl rfl ?_
  refine AW.zif_lt 4 9 dX9_beyond_1 (by decide) rfl rfl (fun b1 => ?_) (fun b1 => ?_)
  · skip
    refine AW.iconst 10 (nI 1) dX9_beyond_9 (by decide) rfl ?_
    refine AW.goto 14 dX9_beyond_10 (by decide) ?_
    refine AW.iret dX9_beyond_14 .boolean rfl rfl rfl ⟨_, rfl, ?_⟩
    first | exact h1 (by omega) | exact h0 (by omega)
  · skip
    refine AW.iload_n 5 dX9_beyond_4 rfl rfl ?_
    refine AW.iload_n 6 dX9_beyond_5 rfl rfl ?_
    refine AW.zicmp_le 9 13 dX9_beyond_6 (by decide) rfl rfl rfl (fun b6 => ?_) (fun b6 => ?_)
    · skip
      refine AW.iconst 14 (nI 0) dX9_beyond_13 (by decide) rfl ?_
      refine AW.iret dX9_beyond_14 .boolean rfl rfl rfl ⟨_, rfl, ?_⟩
      first | exact h1 (by omega) | exact h0 (by omega)
    · skip
      refine AW.iconst 10 (nI 1) dX9_beyond_9 (by decide) rfl ?_
      refine AW.goto 14 dX9_beyond_10 (by decide) ?_
      refine AW.iret dX9_beyond_14 .boolean rfl rfl rfl ⟨_, rfl, ?_⟩
      first | exact h1 (by omega) | exact h0 (by omega)
theorem AW.max {own : String} {cc : ByteArray} {nL : Nat} {rt : Option FieldType} {ini : Bool} {bc bs pc : Nat} {ls : List (Option Value)} {st : List Value} {Q : Option Value → zS → zM → Prop} (pc' : Nat) {ix : Nat} {x y : Int32} (hd : decode cc pc = .ok (.invokestatic ix, 3)) (hw : Cond.methodLink own ix Lib.Math.max.name ∈ z_U) (hcat : (st.map fun v => v.category).sum ≤ 8) (hp : pc + 3 = pc') (kk : AW l g own cc nL rt ini (d + 1) bc bs pc' ls (.int (if x < y then y else x) :: st) S M Q) : AW l g own cc nL rt ini (d + 1) bc bs pc ls (.int y :: .int x :: st) S M Q := by
  subst hp
  intro p e R s m args below meth c H locs cells slots mc ms hx hb hr hml hown hlk hin hA h1 h2 h3 h4 h5 h6 h7 h8 h9 hP hS la hl
  exact va_mmax hx hb (hml.trans hl.2.1.symm) hown (hA.word _ hw) (hA.word _ (by decide +kernel)) (hA.word _ (by decide +kernel)) (hA.word _ (by decide +kernel)) (by omega) (by rw [zc_cats]; omega) (by omega) (by omega) hd (kk p e R s m args below meth c H locs cells slots mc ms hx hb hr hml hown hlk hin hA h1 h2 h3 h4 h5 h6 h7 h8 h9 hP hS la hl)
theorem z_row_row (k : Nat) (f f' : Nat → Int32) : z_row (z_row M k f) k f' = z_row M k f' := bx_uu M k f f'
theorem z_st_row (k i : Nat) (f : Nat → Int32) (v : Int32) : z_st (z_row M k f) k i v = z_row M k (upd f i v) := by
  unfold z_st z_row; rw [va_up_self, bx_uu]
theorem z_row_self (k : Nat) : z_row M k (M k) = M := by
  funext a; unfold z_row va_up; split
  · rename_i h; rw [h]
  · rfl
theorem z_row_at (k : Nat) (f : Nat → Int32) : z_row M k f k = f := va_up_self _ _ _
theorem z_row_ne {k a : Nat} (f : Nat → Int32) (h : a ≠ k) : z_row M k f a = M a := va_up_ne _ _ h
theorem z_st_eq (k i : Nat) (v : Int32) : z_st M k i v = z_row M k (upd (M k) i v) := rfl
/-- Arrays.fill of a row of n ints -/
def z_fill (f : Nat → Int32) (n : Nat) (v : Int32) : Nat → Int32 := fun j => if j < n then v else f j
theorem z_fill_0 (f : Nat → Int32) (v : Int32) : z_fill f 0 v = f := by funext j; simp [z_fill]
theorem z_fill_s (f : Nat → Int32) (i : Nat) (v : Int32) : upd (z_fill f i v) i v = z_fill f (i + 1) v := by
  funext j
  unfold upd z_fill
  by_cases h : j = i
  · subst h; simp
  · by_cases h2 : j < i
    · simp [h, h2, Nat.lt_succ_of_lt h2]
    · simp [h, h2, show ¬ j < i + 1 by omega]
theorem L_fill {k n : Nat} {v : Int32} (hc : z_ar S k 11 n) (hn : n < 2 ^ 31) {Q : zS → zM → Prop} (hQ : Q S (z_row M k (z_fill (M k) n v))) : ∀ (q i : Nat), i + q = n → AW l g RJ7 cJ7_fill_53178 4 none false d 0 0 5 [some (.ref k), some (.int v), some (.int (nI i)), some (.int (nI n))] [] S (z_row M k (z_fill (M k) i v)) (z_Qv Q) := by
  intro q
  induction q with
  | zero =>
    intro i hi
    have hi : i = n := by omega
    subst hi
    refine AW.iload_n 6 dJ7_fill_53178_5 rfl rfl ?_
    refine AW.iload_n 7 dJ7_fill_53178_6 rfl rfl ?_
    refine AW.icmpN_ge 10 20 dJ7_fill_53178_7 (by decide) rfl (by omega) (by omega) (fun b7 => ?_) (fun b7 => absurd b7 (by omega))
    refine AW.vret dJ7_fill_53178_20 rfl rfl ⟨rfl, ?_⟩
    exact hQ
  | succ q ih =>
    intro i hi
    refine AW.iload_n 6 dJ7_fill_53178_5 rfl rfl ?_
    refine AW.iload_n 7 dJ7_fill_53178_6 rfl rfl ?_
    refine AW.icmpN_ge 10 20 dJ7_fill_53178_7 (by decide) rfl (by omega) (by omega) (fun b7 => absurd b7 (by omega)) (fun b7 => ?_)
    refine AW.aload_n 11 dJ7_fill_53178_10 rfl rfl ?_
    refine AW.iload_n 12 dJ7_fill_53178_11 rfl rfl ?_
    refine AW.iload_n 13 dJ7_fill_53178_12 rfl rfl ?_
    refine AW.iast 14 dJ7_fill_53178_13 hc rfl (by omega) hn rfl ?_
    rw [z_st_row, z_fill_s]
    refine AW.iinc2 17 _ dJ7_fill_53178_14 (z_inc1 _) (by decide) rfl rfl ?_
    refine AW.goto 5 dJ7_fill_53178_17 (by decide) ?_
    exact ih (i + 1) (by omega)
theorem C_fill {k n : Nat} {v : Int32} (hc : z_ar S k 11 n) (hn : n < 2 ^ 31) {Q : zS → zM → Prop} (hQ : Q S (z_row M k (z_fill (M k) n v))) : AMet l g yJ7_fill_53178 cJ7_fill_53178 4 none d 0 0 [.ref k, .int v] S M (z_Qv Q) := by
  refine AMet.of (ini := false) rfl (fun h => by first | rfl | cases h) (Nat.le_of_ble_eq_true rfl) ?_
  show AW l g RJ7 cJ7_fill_53178 4 none false _ _ _ 0 [some (.ref k), some (.int v), none, none] [] _ _ _
  have L := L_fill (l := l) (g := g) (d := d) (M := M) (v := v) hc hn hQ n 0 (by omega)
  rw [z_fill_0, z_row_self] at L
  refine AW.iconst 1 (nI 0) dJ7_fill_53178_0 (by decide) rfl ?_
  refine AW.istn2 2 dJ7_fill_53178_1 (by decide) rfl rfl ?_
  refine AW.aload_n 3 dJ7_fill_53178_2 rfl rfl ?_
  refine AW.alen 4 dJ7_fill_53178_3 hc (by decide) (by decide) rfl ?_
  refine AW.istn3 5 dJ7_fill_53178_4 (by decide) rfl rfl ?_
  exact L
end BASE
