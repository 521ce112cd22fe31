theorem z_U_ix {i : Nat} {w : Cond} (h : lw_tbl[i]? = some w) (hg : z_good w = true) : w ∈ z_U := z_U_of (List.mem_of_getElem? h) hg
theorem z_fl_of (i : Nat) {own : String} {ix ci j : Nat} {q : vw_C} (hq : vwCl[ci]? = some q) (hj : Nat.blt j q.2.2 = true) (hi : lw_tbl[i]? = some (Cond.fieldLink own ix (q.2.1 j).1 (q.2.1 j).2.1 (q.2.1 j).2.2.1)) : z_flB own ix ci j = true := by
  unfold z_flB
  rw [hq]
  simp only [hj, Bool.true_and, decide_eq_true_eq]
  exact z_U_ix hi rfl
theorem z_fp_of {own : String} {ix ci j : Nat} {q : vw_C} {fin : Bool} {ty : FieldType} (hf : z_flB own ix ci j = true) (hq : vwCl[ci]? = some q) (h : ((q.2.1 j).2.2.2 == fin && decide (parseFieldDescriptor (q.2.1 j).2.2.1 = some ty) && (!fin || (q.2.1 j).1 == own)) = true) : z_fpB own ix ci j fin ty = true := by
  unfold z_fpB
  rw [hf, hq]
  exact h
theorem z_good_g {w : Cond} (h : goodWord w = true) : z_good w = true := by unfold z_good; rw [h]; rfl
theorem z_all_of {ws : List Cond} (is : List Nat) (h : is.map (fun i => lw_tbl[i]?) = ws.map some) (hg : ws.all goodWord = true) : ws.all (fun w => decide (w ∈ z_U) && goodWord w) = true := by
  refine List.all_eq_true.mpr (fun w hw => ?_)
  have h1 := List.all_eq_true.mp hg w hw
  have h2 : some w ∈ is.map (fun i => lw_tbl[i]?) := by rw [h]; exact List.mem_map.mpr ⟨w, hw, rfl⟩
  obtain ⟨i, -, hi⟩ := List.mem_map.mp h2
  simp only [h1, Bool.and_true, decide_eq_true_eq]
  exact z_U_ix hi (z_good_g h1)
theorem z_cv_of (is : List Nat) {own : String} {ix ci : Nat} {y : MethodName} {c2 : ByteArray} {n2 : Nat} {r2 : Option FieldType} {n : Nat} {q : vw_C} (hq : vwCl[ci]? = some q) (h : is.map (fun i => lw_tbl[i]?) = (wsV own ix q.1 y [Cond.code y c2 n2 r2]).map some) (hd : y.cls = q.1 ∧ y.cls ≠ "java/lang/invoke/MethodHandle" ∧ y.cls ≠ "java/lang/invoke/VarHandle" ∧ (parseMethodDescriptor y.desc).map (fun d => d.parameters.length) = some n) (hn : Nat.ble n2 21 = true) : z_cvB own ix ci y c2 n2 r2 n = true := by
  unfold z_cvB
  rw [hq]
  dsimp only
  rw [z_all_of is h rfl, decide_eq_true hd, hn]; rfl
theorem z_cs_of (is : List Nat) {own : String} {ix : Nat} {y : MethodName} {c2 : ByteArray} {n2 : Nat} {r2 : Option FieldType} {n : Nat} (h : is.map (fun i => lw_tbl[i]?) = (va_wsS own ix y [Cond.code y c2 n2 r2]).map some) (hd : y.cls ≠ "java/lang/invoke/MethodHandle" ∧ y.cls ≠ "java/lang/invoke/VarHandle" ∧ (parseMethodDescriptor y.desc).map (fun d => d.parameters.length) = some n) (hn : Nat.ble n2 21 = true) : z_csB own ix y c2 n2 r2 n = true := by
  unfold z_csB
  rw [z_all_of is h rfl, decide_eq_true hd, hn]; rfl
theorem z_csN_of (i0 i1 i2 i3 : Nat) {own : String} {ix : Nat} {y : MethodName} {c2 : ByteArray} {n2 : Nat} {r2 : Option FieldType} {n : Nat} (h0 : [i0].map (fun i => lw_tbl[i]?) = [Cond.code y c2 n2 r2].map some) (h1 : lw_tbl[i1]? = some (Cond.methodLinkNest own ix y "MachineBench")) (h2 : lw_tbl[i2]? = some (Cond.initialized y.cls)) (h3 : lw_tbl[i3]? = some (Cond.static y)) (hd : y.cls ≠ "java/lang/invoke/MethodHandle" ∧ y.cls ≠ "java/lang/invoke/VarHandle" ∧ (parseMethodDescriptor y.desc).map (fun d => d.parameters.length) = some n) (hn : Nat.ble n2 21 = true) : z_csNB own ix y c2 n2 r2 n = true := by
  unfold z_csNB
  rw [z_all_of [i0] h0 rfl, decide_eq_true (z_U_ix h1 rfl), decide_eq_true (z_U_ix h2 rfl), decide_eq_true (z_U_ix h3 rfl), decide_eq_true hd, hn]; rfl
theorem z_ci_of (i0 i1 i2 i3 : Nat) {own : String} {ix : Nat} {y : MethodName} {c2 : ByteArray} {n2 : Nat} {n : Nat} (h0 : [i0].map (fun i => lw_tbl[i]?) = [Cond.code y c2 n2 none].map some) (h1 : lw_tbl[i1]? = some (Cond.methodLink own ix y)) (h2 : lw_tbl[i2]? = some (Cond.initialized y.cls)) (h3 : lw_tbl[i3]? = some (Cond.instanceMethod y)) (hy : y.name = "<init>") (hd : y.cls ≠ "java/lang/invoke/MethodHandle" ∧ y.cls ≠ "java/lang/invoke/VarHandle" ∧ (parseMethodDescriptor y.desc).map (fun d => d.parameters.length) = some n) (hn : Nat.ble n2 21 = true) : z_ciB own ix y c2 n2 n = true := by
  unfold z_ciB
  rw [z_all_of [i0] h0 rfl, decide_eq_true (z_U_ix h1 rfl), decide_eq_true (z_U_ix h2 rfl), decide_eq_true (z_U_ix h3 rfl), decide_eq_true hy, decide_eq_true hd, hn]; rfl
theorem z_ciN_of (i0 i1 i2 i3 : Nat) {own : String} {ix : Nat} {y : MethodName} {c2 : ByteArray} {n2 : Nat} {n : Nat} (h0 : [i0].map (fun i => lw_tbl[i]?) = [Cond.code y c2 n2 none].map some) (h1 : lw_tbl[i1]? = some (Cond.methodLinkNest own ix y "MachineBench")) (h2 : lw_tbl[i2]? = some (Cond.initialized y.cls)) (h3 : lw_tbl[i3]? = some (Cond.instanceMethod y)) (hy : y.name = "<init>") (hd : y.cls ≠ "java/lang/invoke/MethodHandle" ∧ y.cls ≠ "java/lang/invoke/VarHandle" ∧ (parseMethodDescriptor y.desc).map (fun d => d.parameters.length) = some n) (hn : Nat.ble n2 21 = true) : z_ciNB own ix y c2 n2 n = true := by
  unfold z_ciNB
  rw [z_all_of [i0] h0 rfl, decide_eq_true (z_U_ix h1 rfl), decide_eq_true (z_U_ix h2 rfl), decide_eq_true (z_U_ix h3 rfl), decide_eq_true hy, decide_eq_true hd, hn]; rfl
