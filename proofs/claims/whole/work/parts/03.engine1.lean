/-! THE ABSTRACT MACHINE over the kit: cells by number, a shape (how many cells, their kinds, their references) and a memory of ints. -/
abbrev zS : Type := Nat × (Nat → Nat × Nat) × (Nat → Nat → Option Nat)
abbrev zM : Type := Nat → Nat → Int32
/-- tables' numbers, array classes by kind, where the cells begin, outside arrays, the script -/
abbrev zG : Type := va_G × (Nat → ClassId) × Nat × (Nat → Nat) × Nat × (Nat → Int32)
abbrev gD (g : zG) : va_G := g.1
abbrev gY (g : zG) : Nat → ClassId := g.2.1
abbrev gB (g : zG) : Nat := g.2.2.1
abbrev gE (g : zG) : Nat → Nat := g.2.2.2.1
abbrev gL (g : zG) : Nat := g.2.2.2.2.1
abbrev gX (g : zG) : Nat → Int32 := g.2.2.2.2.2
abbrev gA (g : zG) : Nat → Prop := fun q => gB g ≤ q
/-- how many fields a class has; which hold references -/
def z_n (t : Nat) : Nat := match t with
  | 0 => 2 | 1 => 2 | 2 => 5 | 3 => 5 | 4 => 7 | 5 => 3 | 6 => 2 | 7 => 4 | 8 => 2 | 9 => 16 | _ => 46
def z_rf (t j : Nat) : Bool := match t with
  | 0 => j == 0 | 1 => j == 0 | 2 => Nat.blt j 4 | 3 => true | 4 => Nat.blt j 4 | 5 => j == 0 | 6 => j == 0 | 7 => Nat.blt j 3 | 8 => j == 0 | 9 => Nat.blt j 13
  | _ => match j with | 1 => false | 2 => false | 3 => false | 16 => false | 25 => false | 32 => false | 33 => false | 34 => false | 39 => false | _ => true
/-- outside arrays: four tables of the class, and the script -/
def z_sn (i : Nat) : String := match i with | 0 => "NUMBER_LAST" | 1 => "LOST_FIRST" | 2 => "ORDERS" | _ => "WITH_FEATURE"
def z_sv (i j : Nat) : Int32 := match i with
  | 0 => ([15, 8, 3, 1, 99, 99] : List Int32).getD j 0
  | 1 => ([2, 1, 0, 3] : List Int32).getD j 0
  | 2 => ([6, 2, 2, 6] : List Int32).getD j 0
  | _ => ([-858993460, -252645136, -16711936, -65536] : List Int32).getD j 0
def z_sl (i : Nat) : Nat := match i with | 0 => 6 | _ => 4
def z_el (g : zG) (i : Nat) : Nat := if i < 4 then z_sl i else gL g
def z_ev (g : zG) (i j : Nat) : Int32 := if i < 4 then z_sv i j else gX g j
def z_ad (g : zG) (k : Nat) : Nat := if k < 1000000 then gB g + k else gE g (k - 1000000)
def zc (g : zG) (v : Value) : Value := match v with | .ref k => .ref (z_ad g k) | v => v
theorem zc_int (g : zG) (x : Int32) : zc g (.int x) = .int x := rfl
theorem zc_cat (g : zG) (v : Value) : (zc g v).category = v.category := by cases v <;> rfl
theorem zc_cats (g : zG) (st : List Value) : ((st.map (zc g)).map fun v => v.category) = st.map fun v => v.category := by
  rw [List.map_map]; exact List.map_congr_left (fun v _ => zc_cat g v)
def z_cell (g : zG) (S : zS) (M : zM) (k : Nat) : va_E :=
  if (S.2.1 k).1 < 11 then .inr ((S.2.1 k).1, (List.range (z_n (S.2.1 k).1)).map (fun j => if z_rf (S.2.1 k).1 j then va_rf ((S.2.2 k j).map (z_ad g)) else .int (M k j)))
  else if (S.2.1 k).1 < 13 then .inl (gY g (S.2.1 k).1, (S.2.1 k).2, .inl (M k))
  else .inl (gY g (S.2.1 k).1, (S.2.1 k).2, .inr (.inr (.inr (.inr (fun j => (S.2.2 k j).map (z_ad g))))))
def z_w (g : zG) (S : zS) (M : zM) : va_W := (List.range S.1).map (fun k => (gB g + k, z_cell g S M k))
theorem z_w_at (g : zG) (S : zS) (M : zM) {k : Nat} (h : k < S.1) : (z_w g S M)[k]? = some (gB g + k, z_cell g S M k) := by simp [z_w, h]
theorem z_w_of {g : zG} {S : zS} {M : zM} {k : Nat} {q : Nat × va_E} (h : (z_w g S M)[k]? = some q) : k < S.1 ∧ q = (gB g + k, z_cell g S M k) := by
  have hk : k < S.1 := by have := (List.getElem?_eq_some_iff.mp h).1; simpa [z_w] using this
  exact ⟨hk, Option.some.inj (h.symm.trans (z_w_at g S M hk))⟩
theorem z_w_D (g : zG) (S : zS) (M : zM) : va_D (gA g) (z_w g S M) := by
  refine ⟨fun i j p q hi hj hpq => ?_, fun k q hk => ?_⟩
  · rw [(z_w_of hi).2, (z_w_of hj).2] at hpq
    have : gB g + i = gB g + j := hpq
    omega
  · rw [(z_w_of hk).2]; exact Nat.le_add_right _ _
theorem z_w_len (g : zG) (S : zS) (M : zM) : (z_w g S M).length = S.1 := by simp [z_w]
/-- one int of a cell changes -/
def z_st (M : zM) (k j : Nat) (v : Int32) : zM := va_up M k (upd (M k) j v)
/-- a whole row changes -/
def z_row (M : zM) (k : Nat) (f : Nat → Int32) : zM := va_up M k f
def z_sR (S : zS) (k j i : Nat) : zS := (S.1, S.2.1, va_up S.2.2 k (va_up (S.2.2 k) j (some i)))
theorem z_cell_ne {g : zG} {S : zS} {M : zM} {k i : Nat} {f : Nat → Int32} (h : i ≠ k) : z_cell g S (va_up M k f) i = z_cell g S M i := by
  unfold z_cell; rw [va_up_ne _ _ h]
theorem z_set_arr {g : zG} {S : zS} {M : zM} {k : Nat} (f : Nat → Int32) (hk : k < S.1) (h1 : ¬ (S.2.1 k).1 < 11) (h2 : (S.2.1 k).1 < 13) :
    (z_w g S M).set k (gB g + k, .inl (gY g (S.2.1 k).1, (S.2.1 k).2, .inl f)) = z_w g S (z_row M k f) := by
  apply List.ext_getElem?
  intro i
  by_cases hi : i < S.1
  · by_cases hik : i = k
    · subst hik
      rw [List.getElem?_set_self (by rw [z_w_len]; exact hi), z_w_at g S _ hi]
      unfold z_cell z_row
      rw [if_neg h1, if_pos h2, va_up_self]
    · rw [List.getElem?_set_ne (Ne.symm hik), z_w_at g S _ hi, z_w_at g S _ hi]
      rw [z_row, z_cell_ne hik]
  · rw [List.getElem?_eq_none (by rw [List.length_set, z_w_len]; omega), List.getElem?_eq_none (by rw [z_w_len]; omega)]
theorem z_set_obj {g : zG} {S : zS} {M : zM} {k j : Nat} {fs : List Value} (v : Int32) (hk : k < S.1) (h1 : (S.2.1 k).1 < 11) (hr : z_rf (S.2.1 k).1 j = false)
    (hfs : fs = (List.range (z_n (S.2.1 k).1)).map (fun j => if z_rf (S.2.1 k).1 j then va_rf ((S.2.2 k j).map (z_ad g)) else .int (M k j))) :
    (z_w g S M).set k (gB g + k, .inr ((S.2.1 k).1, fs.set j (.int v))) = z_w g S (z_st M k j v) := by
  apply List.ext_getElem?
  intro i
  by_cases hi : i < S.1
  · by_cases hik : i = k
    · subst hik
      rw [List.getElem?_set_self (by rw [z_w_len]; exact hi), z_w_at g S _ hi]
      unfold z_cell z_st
      rw [if_pos h1, va_up_self, hfs]
      congr 4
      apply List.ext_getElem?
      intro a
      by_cases ha : a < z_n (S.2.1 i).1
      · by_cases haj : a = j
        · subst haj
          rw [List.getElem?_set_self (by simp [ha])]
          simp [ha, hr, upd]
        · rw [List.getElem?_set_ne (Ne.symm haj)]
          simp [ha, upd, haj]
      · rw [List.getElem?_eq_none (by simp; omega), List.getElem?_eq_none (by simp; omega)]
    · rw [List.getElem?_set_ne (Ne.symm hik), z_w_at g S _ hi, z_w_at g S _ hi]
      rw [z_st, z_cell_ne hik]
  · rw [List.getElem?_eq_none (by rw [List.length_set, z_w_len]; omega), List.getElem?_eq_none (by rw [z_w_len]; omega)]
theorem z_cellR_ne {g : zG} {S : zS} {M : zM} {k j i a : Nat} (h : a ≠ k) : z_cell g (z_sR S k j i) M a = z_cell g S M a := by
  unfold z_cell z_sR; simp only [va_up_ne _ _ h]
theorem z_set_ref {g : zG} {S : zS} {M : zM} {k j i : Nat} {fs : List Value} (hk : k < S.1) (h1 : (S.2.1 k).1 < 11) (hr : z_rf (S.2.1 k).1 j = true)
    (hfs : fs = (List.range (z_n (S.2.1 k).1)).map (fun j => if z_rf (S.2.1 k).1 j then va_rf ((S.2.2 k j).map (z_ad g)) else .int (M k j))) :
    (z_w g S M).set k (gB g + k, .inr ((S.2.1 k).1, fs.set j (.ref (z_ad g i)))) = z_w g (z_sR S k j i) M := by
  apply List.ext_getElem?
  intro a
  by_cases hi : a < S.1
  · by_cases hik : a = k
    · subst hik
      rw [List.getElem?_set_self (by rw [z_w_len]; exact hi), z_w_at g (z_sR S a j i) _ hi]
      unfold z_cell z_sR
      simp only [va_up_self]
      rw [if_pos h1, hfs]
      congr 4
      apply List.ext_getElem?
      intro b
      by_cases hb : b < z_n (S.2.1 a).1
      · by_cases hbj : b = j
        · subst hbj
          rw [List.getElem?_set_self (by simp [hb])]
          simp [hb, hr, va_up, va_rf]
        · rw [List.getElem?_set_ne (Ne.symm hbj)]
          simp [hb, va_up, hbj]
      · rw [List.getElem?_eq_none (by simp; omega), List.getElem?_eq_none (by simp; omega)]
    · rw [List.getElem?_set_ne (Ne.symm hik), z_w_at g S _ hi, z_w_at g (z_sR S k j i) _ hi, z_cellR_ne hik]
  · rw [List.getElem?_eq_none (by rw [List.length_set, z_w_len]; omega), List.getElem?_eq_none (by rw [z_w_len]; exact Nat.not_lt.mp hi)]
theorem z_set_rarr {g : zG} {S : zS} {M : zM} {k j i : Nat} (hk : k < S.1) (h1 : ¬ (S.2.1 k).1 < 13) :
    (z_w g S M).set k (gB g + k, .inl (gY g (S.2.1 k).1, (S.2.1 k).2, .inr (.inr (.inr (.inr (va_up (fun j => (S.2.2 k j).map (z_ad g)) j (some (z_ad g i)))))))) = z_w g (z_sR S k j i) M := by
  apply List.ext_getElem?
  intro a
  by_cases hi : a < S.1
  · by_cases hik : a = k
    · subst hik
      rw [List.getElem?_set_self (by rw [z_w_len]; exact hi), z_w_at g (z_sR S a j i) _ hi]
      unfold z_cell z_sR
      simp only [va_up_self]
      rw [if_neg (by omega), if_neg h1]
      congr 9
      funext b
      by_cases hb : b = j
      · subst hb; simp [va_up]
      · simp [va_up, hb]
    · rw [List.getElem?_set_ne (Ne.symm hik), z_w_at g S _ hi, z_w_at g (z_sR S k j i) _ hi, z_cellR_ne hik]
  · rw [List.getElem?_eq_none (by rw [List.length_set, z_w_len]; omega), List.getElem?_eq_none (by rw [z_w_len]; exact Nat.not_lt.mp hi)]
/-- the tables' words that stay -/
def z_good (w : Cond) : Bool := goodWord w || (match w with | .methodLinkNest _ _ _ _ => true | .fieldLinkNest _ _ _ _ _ _ => true | _ => false)
/-- the words that every method of the system may use -/
def z_U : List Cond := lw_tbl.filter z_good
theorem z_U_in {w : Cond} (h : w ∈ z_U) : w ∈ lw_tbl ∧ z_good w = true := List.mem_filter.mp h
theorem z_U_of {w : Cond} (h : w ∈ lw_tbl) (hg : z_good w = true) : w ∈ z_U := List.mem_filter.mpr ⟨h, hg⟩
theorem z_word {w : Cond} (hg : z_good w = true) {a a' : Array Value} {s U : State} (hW : s.WarmedH U.vm) (h : w.before a s = true) : w.before a' U = true := by
  unfold z_good at hg
  rcases Bool.or_eq_true_iff.mp hg with h1 | h1
  · exact word_at hW (good_of_word h1) h
  · cases w <;> first | (simp at h1; done) | (exact va_Nw.use rfl (va_Nw.warmM hW (va_Nw.of rfl h))) | (exact va_Nw.use rfl (va_Nw.warmF hW (va_Nw.of rfl h)))
