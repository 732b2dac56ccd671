/-! One step of the interpreter is a walk of the machine. -/
/-- of a field that an instruction names: its sort of object, its place there, its type, and the tables' words -/
def xi_Fok (own : String) (Ts : List Cond) (cl : List vw_C) (ft : Nat → List Nat) (idx ci k t : Nat) : Prop :=
  ∃ (C : String) (T : u_T) (n : Nat) (ty0 : Nat → FieldType), cl[ci]? = some (C, T, n) ∧ k < n ∧ (∀ w ∈ u_ws C T n, w ∈ Ts) ∧ Cond.fieldLink own idx (T k).1 (T k).2.1 (T k).2.2.1 ∈ Ts ∧ (ft ci)[k]? = some t ∧
    (∀ j, j < n → parseFieldDescriptor (T j).2.2.1 = some (ty0 j)) ∧ (∀ a, a < n → ∀ b, b < n → a ≠ b → (T a).2.1 ≠ (T b).2.1) ∧ (t = 0 → ty0 k = .int) ∧ (t = 1 → ty0 k = .boolean) ∧ (t = 2 → ty0 k = .long) ∧ (t < 3 → (T k).2.2.2 = false)
/-- the tables, and the links to what nest mates keep for themselves -/
def xi_Kn (D : va_G) (cl : List vw_C) (tys : List (ClassId × FieldType)) (Ns : List (String × Nat × MethodName × String)) (U : State) : Prop := va_K D cl tys U ∧ ∀ q ∈ Ns, va_Nw (.methodLinkNest q.1 q.2.1 q.2.2.1 q.2.2.2) U
theorem xi_Kn.moved {D : va_G} {cl : List vw_C} {tys : List (ClassId × FieldType)} {Ns : List (String × Nat × MethodName × String)} {s U : State} (hW : s.WarmedH U.vm) (h : xi_Kn D cl tys Ns s) : xi_Kn D cl tys Ns U := ⟨va_K.moved hW.alike h.1, fun q hq => va_Nw.warmM hW (h.2 q hq)⟩
/-- a call, at the machine: from the world m with the arguments on the stack to the world m2 with the answer there -/
def xi_Cal (l : Launch) (E : xi_E) (S : xi_S) (D : va_G) (cl : List vw_C) (tys : List (ClassId × FieldType)) (Ns : List (String × Nat × MethodName × String)) (own : String) (Ts : List Cond) (cc : ByteArray) (nL d : Nat) (ins : Instr) (As : List Value) (m1 : xi_M) (r : Option Value) (m2 : xi_M) : Prop :=
  ∀ (p : Program) (e : Env) (R : Room) (s : State) (m : MethodId) (args : Array Value) (below : List Frame) (meth : Method) (c : Code) (H : Heap) (locs : List Loc) (Q : State → Prop) (pc : Nat) (ls : Array Slot) (rest : List Value),
    CallFix p m c cc nL s args Ts own → xi_Kn D cl tys Ns s → d ≤ R.frames → 100 * d ≤ R.locals → ls.size = nL → xi_cs rest ≤ 8 → decode cc pc = .ok (ins, 3) →
    va_P D cl (xi_wld E S m1) H → va_S (xi_A E) s.heap H locs →
    (∀ (H1 : Heap) (locs1 : List Loc), va_P D cl (xi_wld E S m2) H1 → va_S (xi_A E) s.heap H1 locs1 → W p l e R s m args below meth c H1 locs1 0 0 Q (F0 m (pc + 3) ls ((r.map (xi_cv E)).toList ++ rest))) →
    W p l e R s m args below meth c H locs 0 0 Q (F0 m pc ls ((As.map (xi_cv E)).reverse ++ rest))
/-- the shape and the addresses are as the machine's tables want them -/
def xi_Eok (E : xi_E) (S : xi_S) (cl : List vw_C) (tys : List (ClassId × FieldType)) : Prop :=
  (∀ a b, a < E.2.1 → b < E.2.1 → E.1 a = E.1 b → a = b) ∧ (∀ a, S.1 a < cl.length + 3 → a < E.2.1) ∧ tys[0]? = some (E.2.2.2 0, .int) ∧ (∃ C, tys[1]? = some (E.2.2.2 1, .object C)) ∧ (∃ C, tys[2]? = some (E.2.2.2 2, .object C))
/-- how long an instruction is -/
def xi_len (i : Instr) (n : Nat) : Nat := match i with
  | .bipush _ | .ldc _ | .iload _ | .lload _ | .aload _ | .istore _ | .lstore _ => 2
  | .sipush _ | .ldc_w _ | .ldc2_w _ | .iinc _ _ | .goto _ | .ifCond _ _ | .if_icmp _ _ | .getfield _ | .putfield _ | .invokestatic _ | .invokevirtual _ => 3
  | .tableswitch _ _ _ _ | .lookupswitch _ _ => n
  | _ => 1
/-- a method's tables are those of its bytes and of its constants -/
def xi_Pok (l : Launch) (E : xi_E) (S : xi_S) (D : va_G) (cl : List vw_C) (tys : List (ClassId × FieldType)) (Ns : List (String × Nat × MethodName × String)) (own : String) (Ts : List Cond) (cc : ByteArray) (nL d : Nat) (P : xi_P) : Prop :=
  (∀ pc i n, P.1 pc = some (i, n) → decode cc pc = .ok (i, n) ∧ n = xi_len i n) ∧
  (∀ x ci k t, P.2.1 x = some (ci, k, t) → xi_Fok own Ts cl E.2.2.1 x ci k t) ∧
  (∀ x v, P.2.2.1 x = some v → Cond.constant own x v ∈ Ts) ∧
  (∀ x v, P.2.2.2.1 x = some v → Cond.constantLong own x v ∈ Ts) ∧
  (∀ x As m1 r m2, P.2.2.2.2.2.2.1 x As m1 = some (r, m2) → xi_Cal l E S D cl tys Ns own Ts cc nL d (.invokestatic x) As m1 r m2) ∧
  (∀ x As m1 r m2, P.2.2.2.2.2.2.2.1 x As m1 = some (r, m2) → xi_Cal l E S D cl tys Ns own Ts cc nL d (.invokevirtual x) As m1 r m2)
def xi_rty (rt : Nat) : Option FieldType := match rt with
  | 0 => none
  | 1 => some .int
  | 2 => some .boolean
  | _ => some .long
/-- what holds when a method has answered -/
def xi_Q (E : xi_E) (S : xi_S) (D : va_G) (cl : List vw_C) (res : xi_R) : Array Value → State → Outcome → State → Prop :=
  fun _ st o t => o = .returned (res.1.map (xi_cv E)) ∧ va_P D cl (xi_wld E S res.2) t.heap ∧ va_F (xi_A E) st t
section XW
variable {p : Program} {l : Launch} {e : Env} {R : Room} {s : State} {m : MethodId} {args : Array Value} {below : List Frame} {meth : Method} {c : Code}
variable {E : xi_E} {S : xi_S} {D : va_G} {cl : List vw_C} {tys : List (ClassId × FieldType)} {Ns : List (String × Nat × MethodName × String)} {own : String} {Ts : List Cond} {cc : ByteArray} {nL d : Nat} {P : xi_P} {res : xi_R}
def xi_G (p : Program) (l : Launch) (e : Env) (R : Room) (s : State) (m : MethodId) (args : Array Value) (below : List Frame) (meth : Method) (c : Code) (E : xi_E) (S : xi_S) (D : va_G) (cl : List vw_C) (nL : Nat) (Q : State → Prop) (t : xi_T) : Prop :=
  ∀ (H : Heap) (locs : List Loc) (ls : Array Slot), va_P D cl (xi_wld E S t.2.2.2) H → va_S (xi_A E) s.heap H locs → xi_lv E ls nL t.2.1 →
    W p l e R s m args below meth c H locs 0 0 Q (F0 m t.1 ls (t.2.2.1.map (xi_cv E)))
theorem xi_cel_obj {m0 : xi_M} {a ci : Nat} (h : S.1 a = ci + 3) : xi_cel E S m0 a = .inr (ci, xi_fs E S m0 a ci) := by
  unfold xi_cel
  rw [if_neg (by omega), if_neg (by omega), if_neg (by omega), h]
  rfl
theorem xi_cel_row {m0 : xi_M} {a : Nat} (h : S.1 a = 0) : xi_cel E S m0 a = .inl (E.2.2.2 0, S.2.1 a, .inl (m0.1 a)) := by
  unfold xi_cel
  rw [if_pos h]
theorem xi_fs_get {m0 : xi_M} {a ci k t : Nat} (h : (E.2.2.1 ci)[k]? = some t) : (xi_fs E S m0 a ci)[k]? = some (xi_fv E S m0 a k t) := by
  unfold xi_fs
  rw [List.getElem?_mapIdx, h]
  rfl
theorem xi_fs_set {m0 m1 : xi_M} {a ci k t : Nat} {v : Value} (h : (E.2.2.1 ci)[k]? = some t) (hv : xi_fv E S m1 a k t = v) (ho : ∀ j u, j ≠ k → xi_fv E S m1 a j u = xi_fv E S m0 a j u) : (xi_fs E S m0 a ci).set k v = xi_fs E S m1 a ci := by
  apply List.ext_getElem?
  intro i
  rw [List.getElem?_set]
  by_cases hi : k = i
  · subst hi
    have hl : k < (xi_fs E S m0 a ci).length := by
      have := (List.getElem?_eq_some_iff.mp h).1
      simpa [xi_fs] using this
    rw [if_pos rfl, if_pos hl, xi_fs_get h, hv]
  · rw [if_neg hi]
    unfold xi_fs
    rw [List.getElem?_mapIdx, List.getElem?_mapIdx]
    cases (E.2.2.1 ci)[i]? with
    | none => rfl
    | some u => exact congrArg some (ho i u (fun q => hi q.symm)).symm
theorem xi_up_ne {f : Nat → Nat → Int32} {a k b : Nat} {v : Int32} (h : b ≠ a) : xi_up f a k v b = f b := if_neg h
theorem xi_up_eq {f : Nat → Nat → Int32} {a k : Nat} {v : Int32} : xi_up f a k v a = upd (f a) k v := if_pos rfl
theorem xi_upL_ne {f : Nat → Nat → Int64} {a k b : Nat} {v : Int64} (h : b ≠ a) : xi_upL f a k v b = f b := if_neg h
theorem xi_upL_eq {f : Nat → Nat → Int64} {a k : Nat} {v : Int64} : xi_upL f a k v a = vp_updL (f a) k v := if_pos rfl
theorem xi_cel_ne {m0 m1 : xi_M} {b : Nat} (h1 : m1.1 b = m0.1 b) (h2 : m1.2 b = m0.2 b) : xi_cel E S m1 b = xi_cel E S m0 b := by
  unfold xi_cel xi_fs xi_fv
  rw [h1, h2]
theorem xi_setI {m0 : xi_M} {a ci k t : Nat} {v : Int32} (ha : a < E.2.1) (hk : S.1 a = ci + 3) (ht : (E.2.2.1 ci)[k]? = some t) (h2 : t ≠ 2) (h3 : t ≠ 3) : (xi_wld E S m0).set a (E.1 a, .inr (ci, (xi_fs E S m0 a ci).set k (.int v))) = xi_wld E S (xi_up m0.1 a k v, m0.2) := by
  refine xi_wld_set ha ?_ (fun b hb => xi_cel_ne (xi_up_ne hb) rfl)
  rw [xi_cel_obj hk, xi_fs_set (m1 := (xi_up m0.1 a k v, m0.2)) ht ?_ ?_]
  · unfold xi_fv
    dsimp only
    rw [if_neg h2, if_neg h3, xi_up_eq]
    simp [upd]
  · intro j u hj
    unfold xi_fv
    dsimp only
    rw [xi_up_eq]
    simp [upd, hj]
theorem xi_setJ {m0 : xi_M} {a ci k : Nat} {v : Int64} (ha : a < E.2.1) (hk : S.1 a = ci + 3) (ht : (E.2.2.1 ci)[k]? = some 2) : (xi_wld E S m0).set a (E.1 a, .inr (ci, (xi_fs E S m0 a ci).set k (.long v))) = xi_wld E S (m0.1, xi_upL m0.2 a k v) := by
  refine xi_wld_set ha ?_ (fun b hb => xi_cel_ne rfl (xi_upL_ne hb))
  rw [xi_cel_obj hk, xi_fs_set (m1 := (m0.1, xi_upL m0.2 a k v)) ht ?_ ?_]
  · unfold xi_fv
    rw [if_pos rfl]
    show Value.long (xi_upL m0.2 a k v a k) = _
    rw [xi_upL_eq]
    simp [vp_updL]
  · intro j u hj
    unfold xi_fv
    dsimp only
    rw [xi_upL_eq]
    simp [vp_updL, hj]
theorem xi_setR {m0 : xi_M} {a k : Nat} {v : Int32} (ha : a < E.2.1) (hk : S.1 a = 0) : (xi_wld E S m0).set a (E.1 a, .inl (E.2.2.2 0, S.2.1 a, .inl (upd (m0.1 a) k v))) = xi_wld E S (xi_up m0.1 a k v, m0.2) := by
  refine xi_wld_set ha ?_ (fun b hb => xi_cel_ne (xi_up_ne hb) rfl)
  rw [xi_cel_row hk]
  dsimp only
  rw [xi_up_eq]
theorem xi_01 {v : Int32} (h : v = 0 ∨ v = 1) : v &&& 1 = v := by
  rcases h with rfl | rfl <;> decide +kernel
theorem xi_app (st : List Value) (n : Nat) : st.map (xi_cv E) = (((st.take n).reverse.map (xi_cv E)).reverse ++ (st.drop n).map (xi_cv E)) := by
  rw [List.map_reverse, List.reverse_reverse, ← List.map_append, List.take_append_drop]
theorem xi_cs_cv (st : List Value) : xi_cs (st.map (xi_cv E)) = xi_cs st := by
  unfold xi_cs
  rw [List.map_map]
  congr 1
  apply List.map_congr_left
  intro v _
  exact xi_cv_cat E v
theorem xi_toL (r : Option Value) (st : List Value) : ((r.map (xi_cv E)).toList ++ st.map (xi_cv E)) = (r.toList ++ st).map (xi_cv E) := by
  cases r <;> rfl
end XW
