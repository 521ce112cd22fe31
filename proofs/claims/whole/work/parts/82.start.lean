def lw_P (b : Addr) (xs : List Int32) (args : Array Value) (s : State) : Prop := args = #[.ref b] ∧ s.IntsAt b xs ∧ xs.length ≤ 3072 ∧ (Jvm.Cond.and given_1 narrow_1).before args s = true
def lw_Q (_ : Array Value) (s : State) (o : Outcome) (t : State) : Prop := o = .returned (some (.int 1)) ∧ Framed s o t [] 600000 7302250
def lw_Z (below : List Frame) (a : Array Value) (s : State) : State → Prop := fun t => ∃ o, t.status = .running ∧ Ended t below o ∧ lw_Q a s o t
/-- the law's own end, with 1 on the stack, nothing written that was there before, its room as the claim has it -/
theorem lw_ret {p : Program} {l : Launch} {e : Env} {s : State} {m : MethodId} {below : List Frame} {meth : Method} {c : Code} {b : Nat} (hx : p.tables.exec = Jvm.exec) (hb : c.code = code) (hr : meth.sig.returnType = ret) (hlocks : meth.locks = false) {pc : Nat} {H : Heap} {ls : Array Slot} (hdg : decode code pc = .ok (.ireturn, 1)) : W p l e room_1 s m #[Value.ref b] below meth c H [] 600000 7302250 (lw_Z below #[Value.ref b] s) (F0 m pc ls [.int 1]) := by
  intro T hT X
  obtain ⟨fs, hret, hrun, hended, hW, hframe⟩ := X.leave (v := some (.int 1)) (hlocks := hlocks) (fun h => by rw [hr] at h; cases h)
  have hmeth' : T.vm.method? m = some meth := X.method'
  refine ⟨T.setFrames fs, ?_, .returned (some (.int 1)), hrun, hended, rfl, ⟨_, rfl⟩, hW, hframe⟩
  jvm_step X.here [X.here.top, hx, hb, hdg, hmeth', hr, ret, narrow_b1]
  (try refine ⟨rfl, ?_⟩); (try refine ⟨rfl, ?_⟩)
  first | (intro acts; rw [hret _ acts rfl rfl rfl]) | rw [hret _ _ rfl rfl rfl]
  exact Steps.refl _
/-- what holds at the law's entry: the machine, the code, the tables' words (any of lw_tbl by 'hts w (by decide +kernel)'), the script of L ints xs at the cell b, what the Statement gives of the start (any of its parts by flat_of_before) -/
def lw_At (p : Program) (s : State) (m : MethodId) (meth : Method) (c : Code) (b L : Nat) (xs : Nat → Int32) : Prop :=
  p.tables.exec = Jvm.exec ∧ c.code = code ∧ meth.sig.returnType = ret ∧ c.maxLocals = 4 ∧ s.vm.findClass R_law = some m.cls ∧ (∀ w ∈ lw_tbl, w.before #[Value.ref b] s = true) ∧ va_X b L xs s s.heap ∧ b < s.heap.size ∧ meth.locks = false ∧ (Jvm.Cond.and given_1 narrow_1).before #[Value.ref b] s = true
theorem z_fe {s t : State} {o : Outcome} {L : List Loc} {k n k' n' : Nat} (h : FrameEnd s o t L k n) (hf : ∀ q ∈ L, s.heap.size ≤ q.base) (hk : k ≤ k') (hn : n ≤ n') : Framed s o t [] k' n' := by
  obtain ⟨h0, hw, h1, h2, h3, h4, h5, h6⟩ := h
  refine ⟨h0, hw, h1, h2, Nat.le_trans h3 (Nat.add_le_add_left hk _), h4, Nat.le_trans h5 hn, fun a c hc => ?_⟩
  obtain ⟨c', g1, g2, g3, g4⟩ := h6 a c hc
  exact ⟨c', g1, g2, g3, fun i _ => g4 i (fun hm => absurd (hf _ hm) (Nat.not_le.mpr (Array.getElem?_eq_some_iff.mp hc).1))⟩
theorem z_allK {s : State} {args : Array Value} (hts : ∀ w ∈ lw_tbl, w.before args s = true) : ∃ D : va_G, ∀ (k : Nat) (q : vw_C), vwCl[k]? = some q → u_Kn s q.1 q.2.1 q.2.2 (D.1 k) (D.2 k) := by
  obtain ⟨c0, i0, h0⟩ := u_known (C := RX0) (T := TX0) (N := 2) (n := 2) hts inX0 (hts (.instantiable RX0 2) (by decide +kernel))
  obtain ⟨c1, i1, h1⟩ := u_known (C := RX1) (T := TX1) (N := 2) (n := 2) hts inX1 (hts (.instantiable RX1 2) (by decide +kernel))
  obtain ⟨c2, i2, h2⟩ := u_known (C := RX2) (T := TX2) (N := 5) (n := 5) hts inX2 (hts (.instantiable RX2 5) (by decide +kernel))
  obtain ⟨c3, i3, h3⟩ := u_known (C := RX3) (T := TX3) (N := 5) (n := 5) hts inX3 (hts (.instantiable RX3 5) (by decide +kernel))
  obtain ⟨c4, i4, h4⟩ := u_known (C := RX4) (T := TX4) (N := 7) (n := 7) hts inX4 (hts (.instantiable RX4 7) (by decide +kernel))
  obtain ⟨c5, i5, h5⟩ := u_known (C := RX5) (T := TX5) (N := 3) (n := 3) hts inX5 (hts (.instantiable RX5 3) (by decide +kernel))
  obtain ⟨c6, i6, h6⟩ := u_known (C := RX6) (T := TX6) (N := 2) (n := 2) hts inX6 (hts (.instantiable RX6 2) (by decide +kernel))
  obtain ⟨c7, i7, h7⟩ := u_known (C := RX7) (T := TX7) (N := 4) (n := 4) hts inX7 (hts (.instantiable RX7 4) (by decide +kernel))
  obtain ⟨c8, i8, h8⟩ := u_known (C := RX8) (T := TX8) (N := 2) (n := 2) hts inX8 (hts (.instantiable RX8 2) (by decide +kernel))
  obtain ⟨c9, i9, h9⟩ := u_known (C := RX9) (T := TX9) (N := 16) (n := 16) hts inX9 (hts (.instantiable RX9 16) (by decide +kernel))
  obtain ⟨c10, i10, h10⟩ := u_known (C := RX10) (T := TX10) (N := 46) (n := 46) hts inX10 (hts (.instantiable RX10 46) (by decide +kernel))
  refine ⟨(fun k => match k with | 0 => c0 | 1 => c1 | 2 => c2 | 3 => c3 | 4 => c4 | 5 => c5 | 6 => c6 | 7 => c7 | 8 => c8 | 9 => c9 | _ => c10, fun k => match k with | 0 => i0 | 1 => i1 | 2 => i2 | 3 => i3 | 4 => i4 | 5 => i5 | 6 => i6 | 7 => i7 | 8 => i8 | 9 => i9 | _ => i10), ?_⟩
  intro k q hq
  match k, hq with
  | 0, hq => cases hq; exact h0
  | 1, hq => cases hq; exact h1
  | 2, hq => cases hq; exact h2
  | 3, hq => cases hq; exact h3
  | 4, hq => cases hq; exact h4
  | 5, hq => cases hq; exact h5
  | 6, hq => cases hq; exact h6
  | 7, hq => cases hq; exact h7
  | 8, hq => cases hq; exact h8
  | 9, hq => cases hq; exact h9
  | 10, hq => cases hq; exact h10
  | k + 11, hq => simp at hq
theorem z_aOf {s : State} {cA : ClassId} {kA : Class} {comp : ClassId} {ty : FieldType} (h1 : s.vm.classes[cA]? = some kA) (h2 : kA.kind = .array comp ty) : ArrOfT s cA ty := fun n z => ⟨fun k h => (by cases h), kA, h1, comp, h2⟩
theorem z_allA {s : State} {args : Array Value} (hts : ∀ w ∈ lw_tbl, w.before args s = true) : ∃ Y : Nat → ClassId, ∀ (k : Nat) (q : ClassId × FieldType), [(Y 11, FieldType.int), (Y 12, .boolean), (Y 13, .object RX1), (Y 14, .object RX2), (Y 15, .object RX5), (Y 16, .array .int)][k]? = some q → ArrOfT s q.1 q.2 ∧ va_RA s q.1 q.2 := by
  obtain ⟨c1, k1, m1, a1, b1, d1⟩ := Cond.arrayClass_spec (hts (.arrayClass .int) (by decide +kernel))
  obtain ⟨c2, k2, m2, a2, b2, d2⟩ := Cond.arrayClass_spec (hts (.arrayClass .boolean) (by decide +kernel))
  obtain ⟨m3, c3, k3, a3, -, b3, d3, e3⟩ := Cond.arrayOver_spec (hts (.arrayOver (.object RX1)) (by decide +kernel))
  obtain ⟨m4, c4, k4, a4, -, b4, d4, e4⟩ := Cond.arrayOver_spec (hts (.arrayOver (.object RX2)) (by decide +kernel))
  obtain ⟨m5, c5, k5, a5, -, b5, d5, e5⟩ := Cond.arrayOver_spec (hts (.arrayOver (.object RX5)) (by decide +kernel))
  obtain ⟨m6, c6, k6, a6, e6, b6, d6⟩ := z_over (hts (.arrayOver (.array .int)) (by decide +kernel))
  refine ⟨fun k => match k with | 11 => c1 | 12 => c2 | 13 => c3 | 14 => c4 | 15 => c5 | _ => c6, ?_⟩
  intro k q hq
  match k, hq with
  | 0, hq => cases hq; exact ⟨z_aOf b1 d1, a1⟩
  | 1, hq => cases hq; exact ⟨z_aOf b2 d2, a2⟩
  | 2, hq => cases hq; exact ⟨z_aOf b3 d3, k3, m3, b3, d3, a3, e3⟩
  | 3, hq => cases hq; exact ⟨z_aOf b4 d4, k4, m4, b4, d4, a4, e4⟩
  | 4, hq => cases hq; exact ⟨z_aOf b5 d5, k5, m5, b5, d5, a5, e5⟩
  | 5, hq => cases hq; exact ⟨z_aOf b6 d6, e6⟩
  | k + 6, hq => simp at hq
theorem z_nf : ∀ i, i < 4 → Cond.arrayOf (.static "MachineBench" (z_sn i) "[I") .int ∈ flatC (Cond.and given_1 narrow_1) ∧ Cond.eq (.length (.static "MachineBench" (z_sn i) "[I")) (.int (Int32.ofNat (z_sl i))) ∈ flatC (Cond.and given_1 narrow_1) ∧ (∀ j, j < z_sl i → Cond.eq (.elem (.static "MachineBench" (z_sn i) "[I") (.int (Int32.ofNat j))) (.int (z_sv i j)) ∈ flatC (Cond.and given_1 narrow_1)) ∧ Cond.laysStatic "MachineBench" (z_sn i) "[I" ∈ lw_tbl := by decide +kernel
theorem z_allE {s : State} {args : Array Value} {A : Nat → Prop} (hts : ∀ w ∈ lw_tbl, w.before args s = true) (hgv : (Jvm.Cond.and given_1 narrow_1).before args s = true) (hA : ∀ a : Nat, a < s.heap.size → ¬ A a) : ∃ E : Nat → Nat, ∀ i, i < 4 → va_Z "MachineBench" (z_sn i) "[I" (.ref (E i)) A s s.heap ∧ va_T .int (E i) (z_sl i) (fun j => .int (z_sv i j)) A s s.heap := by
  have hs := flat_of_before _ hgv
  have h : ∀ i, ∃ t : Nat, i < 4 → va_Z "MachineBench" (z_sn i) "[I" (.ref t) A s s.heap ∧ va_T .int t (z_sl i) (fun j => .int (z_sv i j)) A s s.heap := by
    intro i
    by_cases hi : i < 4
    · obtain ⟨f1, f2, f3, f4⟩ := z_nf i hi
      obtain ⟨t, ht, hT⟩ := va_Tof (f := fun j => .int (z_sv i j)) (A := A) (show z_sl i < 2 ^ 31 by unfold z_sl; split <;> decide) (hs _ f1) (va_eqt (hs _ f2)) (fun j hj => va_eqt (hs _ (f3 j hj))) hA
      exact ⟨t, fun _ => ⟨va_Zref (hts _ f4) (hts (.initialized "MachineBench") (by decide +kernel)) ht hA, hT⟩⟩
    · exact ⟨0, fun q => absurd q hi⟩
  exact ⟨fun i => Classical.choose (h i), fun i hi => Classical.choose_spec (h i) hi⟩
theorem whole_start {p : Program} {e : Env} {s : State} {m : MethodId} {below : List Frame} {meth : Method} {c : Code} (l : Launch) {b L : Nat} {xs : Nat → Int32} (hL : L ≤ 3072) (C0 : lw_At p s m meth c b L xs) : W p l e room_1 s m #[Value.ref b] below meth c s.heap [] 0 0 (lw_Z below #[Value.ref b] s) (entryFrame m ([Value.ref b] : List Value).toArray 4) := by
  obtain ⟨hx, hb, hr, hml, hown, hts, hX, hbl, hlocks, hgv⟩ := C0
  obtain ⟨D, hD⟩ := z_allK hts
  obtain ⟨Y, hY⟩ := z_allA hts
  obtain ⟨E, hE⟩ := z_allE (A := fun q : Nat => s.heap.size ≤ q) hts hgv (fun a h => Nat.not_le.mpr h)
  obtain ⟨g, hg⟩ : ∃ g : zG, g = (D, Y, s.heap.size, (fun i => if i < 4 then E i else b), L, xs) := ⟨_, rfl⟩
  have hAm : z_Amb g s := by
    subst hg
    refine ⟨fun w hw => z_word (z_U_in hw).2 (State.WarmedH.refl s) (hts w (z_U_in hw).1), ⟨hD, hY⟩, Nat.le_refl _, fun i hi => ?_, fun i hi => ?_, fun C hC => va_AO.of (hts _ hC), hts (.arrayOver (.array .int)) (by decide +kernel)⟩
    · show va_Z "MachineBench" (z_sn i) "[I" (.ref (if i < 4 then E i else b)) _ s s.heap
      rw [if_pos hi]
      exact (hE i hi).1
    · by_cases h4 : i < 4
      · show va_T .int (if i < 4 then E i else b) (if i < 4 then z_sl i else L) (fun j => .int (if i < 4 then z_sv i j else xs j)) _ s s.heap
        simp only [if_pos h4]
        exact (hE i h4).2
      · show va_T .int (if i < 4 then E i else b) (if i < 4 then z_sl i else L) (fun j => .int (if i < 4 then z_sv i j else xs j)) _ s s.heap
        simp only [if_neg h4]
        obtain ⟨scr, x1, x2, x3, x4, x5⟩ := hX
        exact ⟨scr, x1, x2, x3, by omega, by rw [x4], x5, Nat.not_le.mpr hbl⟩
  have hl := lv_entry ([.ref b]) (n := 4) (Nat.le_of_ble_eq_true rfl)
  rw [lg_entry_eq]
  generalize (lg_sl ([.ref b]) ++ List.replicate (4 - (lg_sl ([.ref b])).length) Slot.unset).toArray = la at hl ⊢
  have hl : lv_has la 4 [(0, .ref b)] := hl
  have hh : z_has g la 4 [some (.ref (1000000 + 4)), none, none, none] := by
    subst hg
    exact ⟨rfl, hl⟩
  have hgL : gL g = L := by rw [hg]
  have hgB : gB g = s.heap.size := by rw [hg]
  intro T hT X
  obtain ⟨t, a1, o, b1, b2, ⟨⟨v, S, M, e1, ⟨x, e2, e3⟩, -⟩, -⟩, Lc, hF, hLc⟩ := L_start (l := l) (g := g) (Q := fun x _ _ => x = nI 1) (by omega) (fun _ _ => rfl) p e room_1 s m #[Value.ref b] below meth c s.heap [] 0 0 137 6589 hx hb hr hml hown hlocks (fun h => by cases h) hAm (by decide) (by decide) (by decide) (by decide) (by decide) (by decide) (by rw [hgB]; rfl) (by rw [hgB]; exact Nat.le_refl _) (Nat.zero_le _) (fun k q h => by simp [z_w, zS0] at h) va_S.rf la hh T hT X
  refine ⟨t, a1, o, b1, b2, ?_, z_fe hF (fun q hq => by have := hLc q hq; rw [← hgB]; exact this) (by decide) (by decide)⟩
  subst e3 e2
  rw [e1]
  rfl
