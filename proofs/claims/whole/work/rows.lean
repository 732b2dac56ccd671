section
/-! An interpreter of the bytecode that this system uses, over a memory of numbered cells of fixed shape:
    a cell is an int row, a row of references, or an object; references never change; what changes are ints and longs. -/
abbrev xi_M : Type := (Nat → Nat → Int32) × (Nat → Nat → Int64)
abbrev xi_L : Type := List (Option Value)
abbrev xi_T : Type := Nat × xi_L × List Value × xi_M
abbrev xi_R : Type := Option Value × xi_M
abbrev xi_C : Type := Nat → List Value → xi_M → Option xi_R
/-- the shape: the kind of a cell (0 int row, 1 and 2 rows of references, k + 3 an object of the k-th sort), a row's length, the references -/
abbrev xi_S : Type := (Nat → Nat) × (Nat → Nat) × (Nat → Nat → Option Nat)
/-- a method: instructions, fields (sort, place, type: 0 int 1 boolean 2 long 3 reference), constants, callees' arguments and results (0 void 1 int 2 long), callees (static, by object), its own result (0 void 1 int 2 boolean 3 long) -/
abbrev xi_P : Type := (Nat → Option (Instr × Nat)) × (Nat → Option (Nat × Nat × Nat)) × (Nat → Option Int32) × (Nat → Option Int64) × (Nat → Option (Nat × Nat)) × (Nat → Option (Nat × Nat)) × xi_C × xi_C × Nat
def xi_get : xi_L → Nat → Option Value
  | [], _ => none
  | v :: _, 0 => v
  | _ :: t, n + 1 => xi_get t n
def xi_set : xi_L → Nat → Option Value → xi_L
  | [], _, _ => []
  | _ :: t, 0, x => x :: t
  | v :: t, n + 1, x => v :: xi_set t n x
def xi_clr (L : xi_L) : Nat → xi_L
  | 0 => L
  | n + 1 => match xi_get L n with
    | some v => bif Nat.beq v.category 2 then xi_set L n none else L
    | none => L
def xi_st1 (L : xi_L) (i : Nat) (v : Value) : xi_L := xi_set (xi_clr L i) i (some v)
def xi_st2 (L : xi_L) (i : Nat) (v : Value) : xi_L := xi_set (xi_set (xi_clr L i) i (some v)) (i + 1) none
def xi_up (f : Nat → Nat → Int32) (a k : Nat) (v : Int32) : Nat → Nat → Int32 := fun b => if b = a then upd (f a) k v else f b
def xi_upL (f : Nat → Nat → Int64) (a k : Nat) (v : Int64) : Nat → Nat → Int64 := fun b => if b = a then vp_updL (f a) k v else f b
def xi_bI (q : Option xi_R) (k : Int32 → xi_M → Option xi_R) : Option xi_R := match q with
  | some (some (.int v), m) => k v m
  | _ => none
def xi_bJ (q : Option xi_R) (k : Int64 → xi_M → Option xi_R) : Option xi_R := match q with
  | some (some (.long v), m) => k v m
  | _ => none
def xi_bV (q : Option xi_R) (k : xi_M → Option xi_R) : Option xi_R := match q with
  | some (none, m) => k m
  | _ => none
def xi_sI (st : List Value) (k : Int32 → List Value → Option xi_R) : Option xi_R := match st with
  | .int x :: r => k x r
  | _ => none
def xi_sJ (st : List Value) (k : Int64 → List Value → Option xi_R) : Option xi_R := match st with
  | .long x :: r => k x r
  | _ => none
def xi_sR (st : List Value) (k : Nat → List Value → Option xi_R) : Option xi_R := match st with
  | .ref x :: r => k x r
  | _ => none
def xi_lI (v : Option Value) (k : Int32 → Option xi_R) : Option xi_R := match v with
  | some (.int x) => k x
  | _ => none
def xi_lJ (v : Option Value) (k : Int64 → Option xi_R) : Option xi_R := match v with
  | some (.long x) => k x
  | _ => none
def xi_lR (v : Option Value) (k : Nat → Option xi_R) : Option xi_R := match v with
  | some (.ref x) => k x
  | _ => none
def xi_to (pc : Nat) (off : Int) (k : Nat → Option xi_R) : Option xi_R := match (pc : Int) + off with
  | .ofNat t => k t
  | .negSucc _ => none
def xi_sw (k : Int → Option xi_R) (x : Int32) (d : Int) : Int → List Int → Option xi_R
  | _, [] => k d
  | lo, o :: os => if x.toInt = lo then k o else xi_sw k x d (lo + 1) os
def xi_lk (k : Int → Option xi_R) (x : Int32) (d : Int) : List (Int × Int) → Option xi_R
  | [] => k d
  | q :: ps => if q.1 = x.toInt then k q.2 else xi_lk k x d ps
def xi_cs (st : List Value) : Nat := (st.map fun v => v.category).sum
/-- a call's answer by its kind -/
def xi_an (rk : Nat) (q : Option xi_R) (rest : List Value) (k : List Value → xi_M → Option xi_R) : Option xi_R := match rk with
  | 0 => xi_bV q fun m => k rest m
  | 1 => xi_bI q fun v m => k (.int v :: rest) m
  | 2 => xi_bJ q fun v m => k (.long v :: rest) m
  | _ => none
/-- one instruction: what comes of it, if K tells what comes of the next state -/
def xi_op (S : xi_S) (P : xi_P) (K : xi_T → Option xi_R) (pc : Nat) (L : xi_L) (st : List Value) (m : xi_M) (i : Instr) : Option xi_R := match i with
  | .iconst n => K (pc + 1, L, .int (Int32.ofInt n) :: st, m)
  | .bipush n => K (pc + 2, L, .int (Int8.ofInt n).toInt32 :: st, m)
  | .sipush n => K (pc + 3, L, .int (Int16.ofInt n).toInt32 :: st, m)
  | .lconst n => K (pc + 1, L, .long (Int64.ofNat (n : Nat)) :: st, m)
  | .ldc x => (P.2.2.1 x).bind fun v => K (pc + 2, L, .int v :: st, m)
  | .ldc_w x => (P.2.2.1 x).bind fun v => K (pc + 3, L, .int v :: st, m)
  | .ldc2_w x => (P.2.2.2.1 x).bind fun v => K (pc + 3, L, .long v :: st, m)
  | .iload i => xi_lI (xi_get L i) fun x => K (pc + 2, L, .int x :: st, m)
  | .iload_n i => xi_lI (xi_get L i) fun x => K (pc + 1, L, .int x :: st, m)
  | .lload i => xi_lJ (xi_get L i) fun x => K (pc + 2, L, .long x :: st, m)
  | .lload_n i => xi_lJ (xi_get L i) fun x => K (pc + 1, L, .long x :: st, m)
  | .aload i => xi_lR (xi_get L i) fun x => K (pc + 2, L, .ref x :: st, m)
  | .aload_n i => xi_lR (xi_get L i) fun x => K (pc + 1, L, .ref x :: st, m)
  | .istore i => xi_sI st fun x r => bif Nat.blt i L.length then K (pc + 2, xi_st1 L i (.int x), r, m) else none
  | .istore_n i => xi_sI st fun x r => bif Nat.blt i L.length then K (pc + 1, xi_st1 L i (.int x), r, m) else none
  | .lstore i => xi_sJ st fun x r => bif Nat.blt (i + 1) L.length then K (pc + 2, xi_st2 L i (.long x), r, m) else none
  | .lstore_n i => xi_sJ st fun x r => bif Nat.blt (i + 1) L.length then K (pc + 1, xi_st2 L i (.long x), r, m) else none
  | .iinc i n => xi_lI (xi_get L i) fun x => bif Nat.blt i L.length then K (pc + 3, xi_st1 L i (.int (x + Int32.ofInt n)), st, m) else none
  | .iadd => xi_sI st fun y r => xi_sI r fun x r => K (pc + 1, L, .int (x + y) :: r, m)
  | .isub => xi_sI st fun y r => xi_sI r fun x r => K (pc + 1, L, .int (x - y) :: r, m)
  | .imul => xi_sI st fun y r => xi_sI r fun x r => K (pc + 1, L, .int (x * y) :: r, m)
  | .iand => xi_sI st fun y r => xi_sI r fun x r => K (pc + 1, L, .int (x &&& y) :: r, m)
  | .ior => xi_sI st fun y r => xi_sI r fun x r => K (pc + 1, L, .int (x ||| y) :: r, m)
  | .ixor => xi_sI st fun y r => xi_sI r fun x r => K (pc + 1, L, .int (x ^^^ y) :: r, m)
  | .ishl => xi_sI st fun y r => xi_sI r fun x r => K (pc + 1, L, .int (x <<< (y &&& 31)) :: r, m)
  | .ishr => xi_sI st fun y r => xi_sI r fun x r => K (pc + 1, L, .int (x >>> (y &&& 31)) :: r, m)
  | .iushr => xi_sI st fun y r => xi_sI r fun x r => K (pc + 1, L, .int (x.toUInt32 >>> (y.toUInt32 &&& Int32.toUInt32 31)).toInt32 :: r, m)
  | .ineg => xi_sI st fun x r => K (pc + 1, L, .int (-x) :: r, m)
  | .idiv => xi_sI st fun y r => xi_sI r fun x r => if y = 0 then none else K (pc + 1, L, .int (x / y) :: r, m)
  | .irem => xi_sI st fun y r => xi_sI r fun x r => if y = 0 then none else K (pc + 1, L, .int (x - x / y * y) :: r, m)
  | .i2l => xi_sI st fun x r => K (pc + 1, L, .long x.toInt64 :: r, m)
  | .l2i => xi_sJ st fun x r => K (pc + 1, L, .int x.toInt32 :: r, m)
  | .i2b => xi_sI st fun x r => K (pc + 1, L, .int x.toInt8.toInt32 :: r, m)
  | .ladd => xi_sJ st fun y r => xi_sJ r fun x r => K (pc + 1, L, .long (x + y) :: r, m)
  | .lsub => xi_sJ st fun y r => xi_sJ r fun x r => K (pc + 1, L, .long (x - y) :: r, m)
  | .lmul => xi_sJ st fun y r => xi_sJ r fun x r => K (pc + 1, L, .long (x * y) :: r, m)
  | .ldiv => xi_sJ st fun y r => xi_sJ r fun x r => if y = 0 then none else K (pc + 1, L, .long (x / y) :: r, m)
  | .lrem => xi_sJ st fun y r => xi_sJ r fun x r => if y = 0 then none else K (pc + 1, L, .long (x - x / y * y) :: r, m)
  | .lcmp => xi_sJ st fun y r => xi_sJ r fun x r => K (pc + 1, L, .int (lg_cmp x y) :: r, m)
  | .dup => match st with
    | .ref a :: r => K (pc + 1, L, .ref a :: .ref a :: r, m)
    | .int a :: r => K (pc + 1, L, .int a :: .int a :: r, m)
    | _ => none
  | .dup2 => xi_sI st fun i r => xi_sR r fun a r => K (pc + 1, L, .int i :: .ref a :: .int i :: .ref a :: r, m)
  | .pop => xi_sI st fun _ r => K (pc + 1, L, r, m)
  | .goto o => xi_to pc o fun t => K (t, L, st, m)
  | .ifCond .eq o => xi_sI st fun x r => xi_to pc o fun t => if x = 0 then K (t, L, r, m) else K (pc + 3, L, r, m)
  | .ifCond .ne o => xi_sI st fun x r => xi_to pc o fun t => if x = 0 then K (pc + 3, L, r, m) else K (t, L, r, m)
  | .ifCond .lt o => xi_sI st fun x r => xi_to pc o fun t => if x < 0 then K (t, L, r, m) else K (pc + 3, L, r, m)
  | .ifCond .ge o => xi_sI st fun x r => xi_to pc o fun t => if 0 ≤ x then K (t, L, r, m) else K (pc + 3, L, r, m)
  | .ifCond .gt o => xi_sI st fun x r => xi_to pc o fun t => if 0 < x then K (t, L, r, m) else K (pc + 3, L, r, m)
  | .ifCond .le o => xi_sI st fun x r => xi_to pc o fun t => if x ≤ 0 then K (t, L, r, m) else K (pc + 3, L, r, m)
  | .if_icmp .eq o => xi_sI st fun y r => xi_sI r fun x r => xi_to pc o fun t => if x = y then K (t, L, r, m) else K (pc + 3, L, r, m)
  | .if_icmp .ne o => xi_sI st fun y r => xi_sI r fun x r => xi_to pc o fun t => if x = y then K (pc + 3, L, r, m) else K (t, L, r, m)
  | .if_icmp .lt o => xi_sI st fun y r => xi_sI r fun x r => xi_to pc o fun t => if x < y then K (t, L, r, m) else K (pc + 3, L, r, m)
  | .if_icmp .ge o => xi_sI st fun y r => xi_sI r fun x r => xi_to pc o fun t => if y ≤ x then K (t, L, r, m) else K (pc + 3, L, r, m)
  | .if_icmp .gt o => xi_sI st fun y r => xi_sI r fun x r => xi_to pc o fun t => if y < x then K (t, L, r, m) else K (pc + 3, L, r, m)
  | .if_icmp .le o => xi_sI st fun y r => xi_sI r fun x r => xi_to pc o fun t => if x ≤ y then K (t, L, r, m) else K (pc + 3, L, r, m)
  | .tableswitch d lo hi os => xi_sI st fun x r => bif decide (hi - lo + 1 = (os.toList.length : Int)) then xi_sw (fun o => xi_to pc o fun t => K (t, L, r, m)) x d lo os.toList else none
  | .lookupswitch d ps => xi_sI st fun x r => bif (ps.toList.zip (ps.toList.drop 1)).all (fun (a, next) => a.1 < next.1) then xi_lk (fun o => xi_to pc o fun t => K (t, L, r, m)) x d ps.toList else none
  | .getfield x => xi_sR st fun a r => (P.2.1 x).bind fun q => if S.1 a = q.1 + 3 then (match q.2.2 with
    | 2 => K (pc + 3, L, .long (m.2 a q.2.1) :: r, m)
    | 3 => (S.2.2 a q.2.1).bind fun b => K (pc + 3, L, .ref b :: r, m)
    | _ => K (pc + 3, L, .int (m.1 a q.2.1) :: r, m)) else none
  | .putfield x => (P.2.1 x).bind fun q => match q.2.2 with
    | 0 => xi_sI st fun v r => xi_sR r fun a r => if S.1 a = q.1 + 3 then K (pc + 3, L, r, (xi_up m.1 a q.2.1 v, m.2)) else none
    | 1 => xi_sI st fun v r => xi_sR r fun a r => if S.1 a = q.1 + 3 ∧ (v = 0 ∨ v = 1) then K (pc + 3, L, r, (xi_up m.1 a q.2.1 v, m.2)) else none
    | 2 => xi_sJ st fun v r => xi_sR r fun a r => if S.1 a = q.1 + 3 then K (pc + 3, L, r, (m.1, xi_upL m.2 a q.2.1 v)) else none
    | _ => none
  | .iaload => xi_sI st fun i r => xi_sR r fun a r => if S.1 a = 0 ∧ ¬ (i < 0 ∨ S.2.1 a ≤ i.toNatClampNeg) then K (pc + 1, L, .int (m.1 a i.toNatClampNeg) :: r, m) else none
  | .iastore => xi_sI st fun v r => xi_sI r fun i r => xi_sR r fun a r => if S.1 a = 0 ∧ ¬ (i < 0 ∨ S.2.1 a ≤ i.toNatClampNeg) then K (pc + 1, L, r, (xi_up m.1 a i.toNatClampNeg v, m.2)) else none
  | .aaload => xi_sI st fun i r => xi_sR r fun a r => if (S.1 a = 1 ∨ S.1 a = 2) ∧ ¬ (i < 0 ∨ S.2.1 a ≤ i.toNatClampNeg) then (S.2.2 a i.toNatClampNeg).bind fun b => K (pc + 1, L, .ref b :: r, m) else none
  | .arraylength => xi_sR st fun a r => if S.1 a = 0 ∨ S.1 a = 1 ∨ S.1 a = 2 then K (pc + 1, L, .int (Int32.ofNat (S.2.1 a)) :: r, m) else none
  | .invokestatic x => (P.2.2.2.2.1 x).bind fun q => bif Nat.ble q.1 st.length && Nat.ble (xi_cs (st.drop q.1)) 8 then xi_an q.2 (P.2.2.2.2.2.2.1 x (st.take q.1).reverse m) (st.drop q.1) fun st m => K (pc + 3, L, st, m) else none
  | .invokevirtual x => (P.2.2.2.2.2.1 x).bind fun q => bif Nat.ble q.1 st.length && Nat.ble (xi_cs (st.drop q.1)) 8 then xi_an q.2 (P.2.2.2.2.2.2.2.1 x (st.take q.1).reverse m) (st.drop q.1) fun st m => K (pc + 3, L, st, m) else none
  | .ireturn => match st, P.2.2.2.2.2.2.2.2 with
    | [.int v], 1 => some (some (.int v), m)
    | [.int v], 2 => if v = 0 ∨ v = 1 then some (some (.int v), m) else none
    | _, _ => none
  | .lreturn => match st, P.2.2.2.2.2.2.2.2 with
    | [.long v], 3 => some (some (.long v), m)
    | _, _ => none
  | .return_ => match st, P.2.2.2.2.2.2.2.2 with
    | [], 0 => some (none, m)
    | _, _ => none
  | _ => none
def xi_run (S : xi_S) (P : xi_P) (K : xi_T → Option xi_R) (t : xi_T) : Option xi_R := match P.1 t.1 with
  | none => none
  | some q => xi_op S P K t.1 t.2.1 t.2.2.1 t.2.2.2 q.1
/-- n steps at most, up to a stop -/
def xi_go (S : xi_S) (P : xi_P) (sp : Nat → Bool) (K : xi_T → Option xi_R) : Nat → xi_T → Option xi_R
  | 0 => K
  | n + 1 => xi_run S P fun t => bif sp t.1 then K t else xi_go S P sp K n t
end
section
/-! The interpreter's cells in the machine's heap. -/
/-- the world: addresses, how many cells, the field types of each sort of object, the rows' sorts -/
abbrev xi_E : Type := (Nat → Nat) × Nat × (Nat → List Nat) × (Nat → ClassId)
def xi_cv (E : xi_E) (v : Value) : Value := match v with
  | .ref a => .ref (E.1 a)
  | v => v
def xi_fv (E : xi_E) (S : xi_S) (m : xi_M) (a k t : Nat) : Value := if t = 2 then .long (m.2 a k) else if t = 3 then va_rf ((S.2.2 a k).map E.1) else .int (m.1 a k)
def xi_fs (E : xi_E) (S : xi_S) (m : xi_M) (a ci : Nat) : List Value := (E.2.2.1 ci).mapIdx fun k t => xi_fv E S m a k t
def xi_cel (E : xi_E) (S : xi_S) (m : xi_M) (a : Nat) : va_E :=
  if S.1 a = 0 then .inl (E.2.2.2 0, S.2.1 a, .inl (m.1 a))
  else if S.1 a = 1 then .inl (E.2.2.2 1, S.2.1 a, .inr (.inr (.inr (.inr fun i => (S.2.2 a i).map E.1))))
  else if S.1 a = 2 then .inl (E.2.2.2 2, S.2.1 a, .inr (.inr (.inr (.inr fun i => (S.2.2 a i).map E.1))))
  else .inr (S.1 a - 3, xi_fs E S m a (S.1 a - 3))
def xi_wld (E : xi_E) (S : xi_S) (m : xi_M) : va_W := (List.range E.2.1).map fun a => (E.1 a, xi_cel E S m a)
def xi_A (E : xi_E) : Nat → Prop := fun q => ∃ a, a < E.2.1 ∧ E.1 a = q
theorem xi_wld_get {E : xi_E} {S : xi_S} {m : xi_M} {a : Nat} (h : a < E.2.1) : (xi_wld E S m)[a]? = some (E.1 a, xi_cel E S m a) := by
  simp [xi_wld, h]
theorem xi_wld_set {E : xi_E} {S : xi_S} {m m' : xi_M} {a : Nat} {e : va_E} (h : a < E.2.1) (he : xi_cel E S m' a = e) (ho : ∀ b, b ≠ a → xi_cel E S m' b = xi_cel E S m b) : (xi_wld E S m).set a (E.1 a, e) = xi_wld E S m' := by
  apply List.ext_getElem?
  intro i
  rw [List.getElem?_set]
  by_cases hi : a = i
  · subst hi
    have hl : a < (xi_wld E S m).length := by simpa [xi_wld] using h
    rw [if_pos rfl, if_pos hl, xi_wld_get h, he]
  · rw [if_neg hi]
    by_cases hn : i < E.2.1
    · rw [xi_wld_get hn, xi_wld_get hn, ho i (fun q => hi q.symm)]
    · rw [List.getElem?_eq_none (by simpa [xi_wld] using hn), List.getElem?_eq_none (by simpa [xi_wld] using hn)]
theorem xi_wld_D {E : xi_E} {S : xi_S} {m : xi_M} (hi : ∀ a b, a < E.2.1 → b < E.2.1 → E.1 a = E.1 b → a = b) : va_D (xi_A E) (xi_wld E S m) := by
  refine ⟨fun i j p q hp hq e => ?_, fun k q hq => ?_⟩
  · have h1 : i < E.2.1 := by
      have := (List.getElem?_eq_some_iff.mp hp).1
      simpa [xi_wld] using this
    have h2 : j < E.2.1 := by
      have := (List.getElem?_eq_some_iff.mp hq).1
      simpa [xi_wld] using this
    rw [xi_wld_get h1] at hp
    rw [xi_wld_get h2] at hq
    cases hp
    cases hq
    exact hi i j h1 h2 e
  · have h1 : k < E.2.1 := by
      have := (List.getElem?_eq_some_iff.mp hq).1
      simpa [xi_wld] using this
    rw [xi_wld_get h1] at hq
    cases hq
    exact ⟨k, h1, rfl⟩
/-! locals -/
theorem xi_get_len {L : xi_L} : ∀ {i : Nat} {v : Value}, xi_get L i = some v → i < L.length := by
  induction L with
  | nil => intro i v h; cases h
  | cons w t ih =>
    intro i v h
    cases i with
    | zero => exact Nat.succ_pos _
    | succ n => exact Nat.succ_lt_succ (ih h)
theorem xi_get_set {L : xi_L} : ∀ {i j : Nat} {x : Option Value} {v : Value}, xi_get (xi_set L i x) j = some v → (j = i ∧ x = some v) ∨ (j ≠ i ∧ xi_get L j = some v) := by
  induction L with
  | nil => intro i j x v h; cases h
  | cons w t ih =>
    intro i j x v h
    cases i with
    | zero =>
      cases j with
      | zero => exact Or.inl ⟨rfl, h⟩
      | succ n => exact Or.inr ⟨Nat.succ_ne_zero n, h⟩
    | succ k =>
      cases j with
      | zero => exact Or.inr ⟨fun q => Nat.succ_ne_zero k q.symm, h⟩
      | succ n =>
        rcases ih (i := k) (j := n) h with ⟨e, hx⟩ | ⟨e, hx⟩
        · exact Or.inl ⟨by rw [e], hx⟩
        · exact Or.inr ⟨fun q => e (Nat.succ.inj q), hx⟩
theorem xi_set_len {L : xi_L} : ∀ {i : Nat} {x : Option Value}, (xi_set L i x).length = L.length := by
  induction L with
  | nil => intro i x; rfl
  | cons w t ih =>
    intro i x
    cases i with
    | zero => rfl
    | succ n => exact congrArg Nat.succ (ih (i := n) (x := x))
theorem xi_get_clr {L : xi_L} {i j : Nat} {v : Value} (h : xi_get (xi_clr L i) j = some v) : xi_get L j = some v ∧ ¬ (j + 1 = i ∧ v.category = 2) := by
  cases i with
  | zero => exact ⟨h, fun q => Nat.succ_ne_zero j q.1⟩
  | succ n =>
    unfold xi_clr at h
    dsimp only at h
    cases hg : xi_get L n with
    | none =>
      rw [hg] at h
      dsimp only at h
      refine ⟨h, fun q => ?_⟩
      have e : j = n := Nat.succ.inj q.1
      rw [e, hg] at h
      cases h
    | some w =>
      rw [hg] at h
      dsimp only at h
      cases hc : Nat.beq w.category 2 with
      | true =>
        rw [hc] at h
        rcases xi_get_set h with ⟨e, hx⟩ | ⟨e, hx⟩
        · cases hx
        · exact ⟨hx, fun q => e (Nat.succ.inj q.1)⟩
      | false =>
        rw [hc] at h
        have h : xi_get L j = some v := h
        refine ⟨h, fun q => ?_⟩
        have e : j = n := Nat.succ.inj q.1
        rw [e, hg] at h
        cases h
        rw [q.2] at hc
        cases hc
def xi_lv (E : xi_E) (ls : Array Slot) (nL : Nat) (L : xi_L) : Prop := L.length = nL ∧ ls.size = nL ∧ lv_wf ls ∧ ∀ (i : Nat) (v : Value), xi_get L i = some v → ls[i]? = some (.val (xi_cv E v))
def xi_lo (E : xi_E) (L : xi_L) : List (Nat × Value) := (List.range L.length).filterMap fun i => (xi_get L i).map fun v => (i, xi_cv E v)
theorem xi_lo_mem {E : xi_E} {L : xi_L} {q : Nat × Value} : q ∈ xi_lo E L ↔ ∃ v, xi_get L q.1 = some v ∧ q.2 = xi_cv E v := by
  unfold xi_lo
  rw [List.mem_filterMap]
  constructor
  · rintro ⟨i, -, h⟩
    cases hg : xi_get L i with
    | none => rw [hg] at h; cases h
    | some v =>
      rw [hg] at h
      cases h
      exact ⟨v, hg, rfl⟩
  · rintro ⟨v, h1, h2⟩
    refine ⟨q.1, List.mem_range.mpr (xi_get_len h1), ?_⟩
    rw [h1]
    show some (q.1, xi_cv E v) = some q
    rw [← h2]
theorem xi_lv.has {E : xi_E} {ls : Array Slot} {nL : Nat} {L : xi_L} (h : xi_lv E ls nL L) : lv_has ls nL (xi_lo E L) := by
  refine ⟨h.2.1, h.2.2.1, fun q hq => ?_⟩
  obtain ⟨v, h1, h2⟩ := xi_lo_mem.mp hq
  rw [h2]
  exact h.2.2.2 _ _ h1
theorem xi_cv_cat (E : xi_E) (v : Value) : (xi_cv E v).category = v.category := by cases v <;> rfl
theorem xi_lv_st1 {E : xi_E} {ls ls' : Array Slot} {nL i : Nat} {L : xi_L} {v : Value} (h0 : xi_lv E ls nL L) (h : lv_has ls' nL ((i, xi_cv E v) :: (xi_lo E L).filter (fun q => !(q.1 == i) && !(q.1 + 1 == i && q.2.category == 2)))) : xi_lv E ls' nL (xi_st1 L i v) := by
  refine ⟨?_, h.1, h.2.1, fun j w hw => ?_⟩
  · unfold xi_st1 xi_clr
    rw [xi_set_len]
    cases i with
    | zero => exact h0.1
    | succ n =>
      dsimp only
      split
      · rename_i u _
        cases Nat.beq u.category 2
        · exact h0.1
        · exact xi_set_len.trans h0.1
      · exact h0.1
  · rcases xi_get_set hw with ⟨e, hx⟩ | ⟨e, hx⟩
    · cases hx
      rw [e]
      exact h.2.2 (i, xi_cv E v) List.mem_cons_self
    · obtain ⟨g1, g2⟩ := xi_get_clr hx
      refine h.2.2 (j, xi_cv E w) (List.mem_cons_of_mem _ (List.mem_filter.mpr ⟨xi_lo_mem.mpr ⟨w, g1, rfl⟩, ?_⟩))
      have e1 : (j == i) = false := by simpa using e
      show (!(j == i) && !(j + 1 == i && (xi_cv E w).category == 2)) = true
      rw [e1, xi_cv_cat]
      by_cases e2 : j + 1 = i
      · have e3 : ¬ w.category = 2 := fun q => g2 ⟨e2, q⟩
        simp [e2, e3]
      · simp [e2]
theorem xi_lv_st2 {E : xi_E} {ls ls' : Array Slot} {nL i : Nat} {L : xi_L} {v : Value} (h0 : xi_lv E ls nL L) (h : lv_has ls' nL ((i, xi_cv E v) :: (xi_lo E L).filter (fun q => !(q.1 == i) && (!(q.1 == i + 1) && !(q.1 + 1 == i && q.2.category == 2))))) : xi_lv E ls' nL (xi_st2 L i v) := by
  refine ⟨?_, h.1, h.2.1, fun j w hw => ?_⟩
  · unfold xi_st2 xi_clr
    rw [xi_set_len, xi_set_len]
    cases i with
    | zero => exact h0.1
    | succ n =>
      dsimp only
      split
      · rename_i u _
        cases Nat.beq u.category 2
        · exact h0.1
        · exact xi_set_len.trans h0.1
      · exact h0.1
  · rcases xi_get_set hw with ⟨e, hx⟩ | ⟨e, hx⟩
    · cases hx
    · rcases xi_get_set hx with ⟨e4, hy⟩ | ⟨e4, hy⟩
      · cases hy
        rw [e4]
        exact h.2.2 (i, xi_cv E v) List.mem_cons_self
      · obtain ⟨g1, g2⟩ := xi_get_clr hy
        refine h.2.2 (j, xi_cv E w) (List.mem_cons_of_mem _ (List.mem_filter.mpr ⟨xi_lo_mem.mpr ⟨w, g1, rfl⟩, ?_⟩))
        have e1 : (j == i) = false := by simpa using e4
        have e5 : (j == i + 1) = false := by simpa using e
        show (!(j == i) && (!(j == i + 1) && !(j + 1 == i && (xi_cv E w).category == 2))) = true
        rw [e1, e5, xi_cv_cat]
        by_cases e2 : j + 1 = i
        · have e3 : ¬ w.category = 2 := fun q => g2 ⟨e2, q⟩
          simp [e2, e3]
        · simp [e2]
/-! what a pop, a load, a jump that came to something says -/
theorem xi_sI_some {st : List Value} {k : Int32 → List Value → Option xi_R} {res : xi_R} (h : xi_sI st k = some res) : ∃ x r, st = .int x :: r ∧ k x r = some res := by
  unfold xi_sI at h
  split at h
  · exact ⟨_, _, rfl, h⟩
  · cases h
theorem xi_sJ_some {st : List Value} {k : Int64 → List Value → Option xi_R} {res : xi_R} (h : xi_sJ st k = some res) : ∃ x r, st = .long x :: r ∧ k x r = some res := by
  unfold xi_sJ at h
  split at h
  · exact ⟨_, _, rfl, h⟩
  · cases h
theorem xi_sR_some {st : List Value} {k : Nat → List Value → Option xi_R} {res : xi_R} (h : xi_sR st k = some res) : ∃ x r, st = .ref x :: r ∧ k x r = some res := by
  unfold xi_sR at h
  split at h
  · exact ⟨_, _, rfl, h⟩
  · cases h
theorem xi_lI_some {v : Option Value} {k : Int32 → Option xi_R} {res : xi_R} (h : xi_lI v k = some res) : ∃ x, v = some (.int x) ∧ k x = some res := by
  unfold xi_lI at h
  split at h
  · exact ⟨_, rfl, h⟩
  · cases h
theorem xi_lJ_some {v : Option Value} {k : Int64 → Option xi_R} {res : xi_R} (h : xi_lJ v k = some res) : ∃ x, v = some (.long x) ∧ k x = some res := by
  unfold xi_lJ at h
  split at h
  · exact ⟨_, rfl, h⟩
  · cases h
theorem xi_lR_some {v : Option Value} {k : Nat → Option xi_R} {res : xi_R} (h : xi_lR v k = some res) : ∃ x, v = some (.ref x) ∧ k x = some res := by
  unfold xi_lR at h
  split at h
  · exact ⟨_, rfl, h⟩
  · cases h
theorem xi_to_some {pc : Nat} {off : Int} {k : Nat → Option xi_R} {res : xi_R} (h : xi_to pc off k = some res) : ∃ t : Nat, (pc : Int) + off = (t : Int) ∧ k t = some res := by
  unfold xi_to at h
  split at h
  · rename_i t ht
    exact ⟨t, ht, h⟩
  · cases h
theorem xi_bind_some {α β : Type} {o : Option α} {k : α → Option β} {res : β} (h : o.bind k = some res) : ∃ x, o = some x ∧ k x = some res := by
  cases o with
  | none => cases h
  | some x => exact ⟨x, rfl, h⟩
theorem xi_bif_some {b : Bool} {x : Option xi_R} {res : xi_R} (h : (bif b then x else none) = some res) : b = true ∧ x = some res := by
  cases b with
  | true => exact ⟨rfl, h⟩
  | false => cases h
theorem xi_if_some {c : Prop} [Decidable c] {x : Option xi_R} {res : xi_R} (h : (if c then x else none) = some res) : c ∧ x = some res := by
  by_cases hc : c
  · rw [if_pos hc] at h; exact ⟨hc, h⟩
  · rw [if_neg hc] at h; cases h
theorem xi_ifn_some {c : Prop} [Decidable c] {x : Option xi_R} {res : xi_R} (h : (if c then none else x) = some res) : ¬ c ∧ x = some res := by
  by_cases hc : c
  · rw [if_pos hc] at h; cases h
  · rw [if_neg hc] at h; exact ⟨hc, h⟩
theorem xi_an_some {rk : Nat} {q : Option xi_R} {rest : List Value} {k : List Value → xi_M → Option xi_R} {res : xi_R} (h : xi_an rk q rest k = some res) : ∃ (r : Option Value) (m : xi_M), q = some (r, m) ∧ k (r.toList ++ rest) m = some res := by
  unfold xi_an at h
  split at h
  · unfold xi_bV at h
    split at h
    · exact ⟨_, _, rfl, h⟩
    · cases h
  · unfold xi_bI at h
    split at h
    · exact ⟨_, _, rfl, h⟩
    · cases h
  · unfold xi_bJ at h
    split at h
    · exact ⟨_, _, rfl, h⟩
    · cases h
  · cases h
end
section
/-! One step of the interpreter is a walk of the machine. -/
/-- of a field that an instruction names: its sort of object, its place there, its type, and the tables' words -/
def xi_Fok (own : String) (Ts : List Cond) (cl : List vw_C) (ft : Nat → List Nat) (idx ci k t : Nat) : Prop :=
  ∃ (C : String) (T : u_T) (n : Nat) (ty0 : Nat → FieldType), cl[ci]? = some (C, T, n) ∧ k < n ∧ (∀ w ∈ u_ws C T n, w ∈ Ts) ∧ Cond.fieldLink own idx (T k).1 (T k).2.1 (T k).2.2.1 ∈ Ts ∧ (ft ci)[k]? = some t ∧
    (∀ j, j < n → parseFieldDescriptor (T j).2.2.1 = some (ty0 j)) ∧ (∀ a, a < n → ∀ b, b < n → a ≠ b → (T a).2.1 ≠ (T b).2.1) ∧ (t = 0 → ty0 k = .int) ∧ (t = 1 → ty0 k = .boolean) ∧ (t = 2 → ty0 k = .long) ∧ (t < 3 → (T k).2.2.2 = false)
/-- the tables, and the links to what nest mates keep for themselves -/
def xi_Kn (D : va_G) (cl : List vw_C) (tys : List (ClassId × FieldType)) (Ns : List (String × Nat × MethodName × String)) (U : State) : Prop := va_K D cl tys U ∧ ∀ q ∈ Ns, va_Nw (.methodLinkNest q.1 q.2.1 q.2.2.1 q.2.2.2) U
theorem xi_Kn.moved {D : va_G} {cl : List vw_C} {tys : List (ClassId × FieldType)} {Ns : List (String × Nat × MethodName × String)} {s U : State} (hW : s.WarmedH U.vm) (h : xi_Kn D cl tys Ns s) : xi_Kn D cl tys Ns U := ⟨va_K.moved hW.alike h.1, fun q hq => va_Nw.warmM hW (h.2 q hq)⟩
/-- a call, at the machine: from the world m with the arguments on the stack to the world m2 with the answer there -/
def xi_Cal (l : Launch) (E : xi_E) (S : xi_S) (D : va_G) (cl : List vw_C) (tys : List (ClassId × FieldType)) (Ns : List (String × Nat × MethodName × String)) (own : String) (Ts : List Cond) (cc : ByteArray) (nL d : Nat) (ins : Instr) (As : List Value) (m1 : xi_M) (r : Option Value) (m2 : xi_M) : Prop :=
  ∀ (p : Program) (e : Env) (R : Room) (s : State) (m : MethodId) (args : Array Value) (below : List Frame) (meth : Method) (c : Code) (H : Heap) (locs : List Loc) (Q : State → Prop) (pc : Nat) (ls : Array Slot) (rest : List Value),
    CallFix p m c cc nL s args Ts own → xi_Kn D cl tys Ns s → d ≤ R.frames → 100 * d ≤ R.locals → ls.size = nL → xi_cs rest ≤ 8 → decode cc pc = .ok (ins, 3) →
    va_P D cl (xi_wld E S m1) H → va_S (xi_A E) s.heap H locs →
    (∀ (H1 : Heap) (locs1 : List Loc), va_P D cl (xi_wld E S m2) H1 → va_S (xi_A E) s.heap H1 locs1 → W p l e R s m args below meth c H1 locs1 0 0 Q (F0 m (pc + 3) ls ((r.map (xi_cv E)).toList ++ rest))) →
    W p l e R s m args below meth c H locs 0 0 Q (F0 m pc ls ((As.map (xi_cv E)).reverse ++ rest))
/-- the shape and the addresses are as the machine's tables want them -/
def xi_Eok (E : xi_E) (S : xi_S) (cl : List vw_C) (tys : List (ClassId × FieldType)) : Prop :=
  (∀ a b, a < E.2.1 → b < E.2.1 → E.1 a = E.1 b → a = b) ∧ (∀ a, S.1 a < cl.length + 3 → a < E.2.1) ∧ tys[0]? = some (E.2.2.2 0, .int) ∧ (∃ C, tys[1]? = some (E.2.2.2 1, .object C)) ∧ (∃ C, tys[2]? = some (E.2.2.2 2, .object C))
/-- how long an instruction is -/
def xi_len (i : Instr) (n : Nat) : Nat := match i with
  | .bipush _ | .ldc _ | .iload _ | .lload _ | .aload _ | .istore _ | .lstore _ => 2
  | .sipush _ | .ldc_w _ | .ldc2_w _ | .iinc _ _ | .goto _ | .ifCond _ _ | .if_icmp _ _ | .getfield _ | .putfield _ | .invokestatic _ | .invokevirtual _ => 3
  | .tableswitch _ _ _ _ | .lookupswitch _ _ => n
  | _ => 1
/-- a method's tables are those of its bytes and of its constants -/
def xi_Pok (l : Launch) (E : xi_E) (S : xi_S) (D : va_G) (cl : List vw_C) (tys : List (ClassId × FieldType)) (Ns : List (String × Nat × MethodName × String)) (own : String) (Ts : List Cond) (cc : ByteArray) (nL d : Nat) (P : xi_P) : Prop :=
  (∀ pc i n, P.1 pc = some (i, n) → decode cc pc = .ok (i, n) ∧ n = xi_len i n) ∧
  (∀ x ci k t, P.2.1 x = some (ci, k, t) → xi_Fok own Ts cl E.2.2.1 x ci k t) ∧
  (∀ x v, P.2.2.1 x = some v → Cond.constant own x v ∈ Ts) ∧
  (∀ x v, P.2.2.2.1 x = some v → Cond.constantLong own x v ∈ Ts) ∧
  (∀ x As m1 r m2, P.2.2.2.2.2.2.1 x As m1 = some (r, m2) → xi_Cal l E S D cl tys Ns own Ts cc nL d (.invokestatic x) As m1 r m2) ∧
  (∀ x As m1 r m2, P.2.2.2.2.2.2.2.1 x As m1 = some (r, m2) → xi_Cal l E S D cl tys Ns own Ts cc nL d (.invokevirtual x) As m1 r m2)
def xi_rty (rt : Nat) : Option FieldType := match rt with
  | 0 => none
  | 1 => some .int
  | 2 => some .boolean
  | _ => some .long
/-- what holds when a method has answered -/
def xi_Q (E : xi_E) (S : xi_S) (D : va_G) (cl : List vw_C) (res : xi_R) : Array Value → State → Outcome → State → Prop :=
  fun _ st o t => o = .returned (res.1.map (xi_cv E)) ∧ va_P D cl (xi_wld E S res.2) t.heap ∧ va_F (xi_A E) st t
section XW
variable {p : Program} {l : Launch} {e : Env} {R : Room} {s : State} {m : MethodId} {args : Array Value} {below : List Frame} {meth : Method} {c : Code}
variable {E : xi_E} {S : xi_S} {D : va_G} {cl : List vw_C} {tys : List (ClassId × FieldType)} {Ns : List (String × Nat × MethodName × String)} {own : String} {Ts : List Cond} {cc : ByteArray} {nL d : Nat} {P : xi_P} {res : xi_R}
def xi_G (p : Program) (l : Launch) (e : Env) (R : Room) (s : State) (m : MethodId) (args : Array Value) (below : List Frame) (meth : Method) (c : Code) (E : xi_E) (S : xi_S) (D : va_G) (cl : List vw_C) (nL : Nat) (Q : State → Prop) (t : xi_T) : Prop :=
  ∀ (H : Heap) (locs : List Loc) (ls : Array Slot), va_P D cl (xi_wld E S t.2.2.2) H → va_S (xi_A E) s.heap H locs → xi_lv E ls nL t.2.1 →
    W p l e R s m args below meth c H locs 0 0 Q (F0 m t.1 ls (t.2.2.1.map (xi_cv E)))
theorem xi_cel_obj {m0 : xi_M} {a ci : Nat} (h : S.1 a = ci + 3) : xi_cel E S m0 a = .inr (ci, xi_fs E S m0 a ci) := by
  unfold xi_cel
  rw [if_neg (by omega), if_neg (by omega), if_neg (by omega), h]
  rfl
theorem xi_cel_row {m0 : xi_M} {a : Nat} (h : S.1 a = 0) : xi_cel E S m0 a = .inl (E.2.2.2 0, S.2.1 a, .inl (m0.1 a)) := by
  unfold xi_cel
  rw [if_pos h]
theorem xi_fs_get {m0 : xi_M} {a ci k t : Nat} (h : (E.2.2.1 ci)[k]? = some t) : (xi_fs E S m0 a ci)[k]? = some (xi_fv E S m0 a k t) := by
  unfold xi_fs
  rw [List.getElem?_mapIdx, h]
  rfl
theorem xi_fs_set {m0 m1 : xi_M} {a ci k t : Nat} {v : Value} (h : (E.2.2.1 ci)[k]? = some t) (hv : xi_fv E S m1 a k t = v) (ho : ∀ j u, j ≠ k → xi_fv E S m1 a j u = xi_fv E S m0 a j u) : (xi_fs E S m0 a ci).set k v = xi_fs E S m1 a ci := by
  apply List.ext_getElem?
  intro i
  rw [List.getElem?_set]
  by_cases hi : k = i
  · subst hi
    have hl : k < (xi_fs E S m0 a ci).length := by
      have := (List.getElem?_eq_some_iff.mp h).1
      simpa [xi_fs] using this
    rw [if_pos rfl, if_pos hl, xi_fs_get h, hv]
  · rw [if_neg hi]
    unfold xi_fs
    rw [List.getElem?_mapIdx, List.getElem?_mapIdx]
    cases (E.2.2.1 ci)[i]? with
    | none => rfl
    | some u => exact congrArg some (ho i u (fun q => hi q.symm)).symm
theorem xi_up_ne {f : Nat → Nat → Int32} {a k b : Nat} {v : Int32} (h : b ≠ a) : xi_up f a k v b = f b := if_neg h
theorem xi_up_eq {f : Nat → Nat → Int32} {a k : Nat} {v : Int32} : xi_up f a k v a = upd (f a) k v := if_pos rfl
theorem xi_upL_ne {f : Nat → Nat → Int64} {a k b : Nat} {v : Int64} (h : b ≠ a) : xi_upL f a k v b = f b := if_neg h
theorem xi_upL_eq {f : Nat → Nat → Int64} {a k : Nat} {v : Int64} : xi_upL f a k v a = vp_updL (f a) k v := if_pos rfl
theorem xi_cel_ne {m0 m1 : xi_M} {b : Nat} (h1 : m1.1 b = m0.1 b) (h2 : m1.2 b = m0.2 b) : xi_cel E S m1 b = xi_cel E S m0 b := by
  unfold xi_cel xi_fs xi_fv
  rw [h1, h2]
theorem xi_setI {m0 : xi_M} {a ci k t : Nat} {v : Int32} (ha : a < E.2.1) (hk : S.1 a = ci + 3) (ht : (E.2.2.1 ci)[k]? = some t) (h2 : t ≠ 2) (h3 : t ≠ 3) : (xi_wld E S m0).set a (E.1 a, .inr (ci, (xi_fs E S m0 a ci).set k (.int v))) = xi_wld E S (xi_up m0.1 a k v, m0.2) := by
  refine xi_wld_set ha ?_ (fun b hb => xi_cel_ne (xi_up_ne hb) rfl)
  rw [xi_cel_obj hk, xi_fs_set (m1 := (xi_up m0.1 a k v, m0.2)) ht ?_ ?_]
  · unfold xi_fv
    dsimp only
    rw [if_neg h2, if_neg h3, xi_up_eq]
    simp [upd]
  · intro j u hj
    unfold xi_fv
    dsimp only
    rw [xi_up_eq]
    simp [upd, hj]
theorem xi_setJ {m0 : xi_M} {a ci k : Nat} {v : Int64} (ha : a < E.2.1) (hk : S.1 a = ci + 3) (ht : (E.2.2.1 ci)[k]? = some 2) : (xi_wld E S m0).set a (E.1 a, .inr (ci, (xi_fs E S m0 a ci).set k (.long v))) = xi_wld E S (m0.1, xi_upL m0.2 a k v) := by
  refine xi_wld_set ha ?_ (fun b hb => xi_cel_ne rfl (xi_upL_ne hb))
  rw [xi_cel_obj hk, xi_fs_set (m1 := (m0.1, xi_upL m0.2 a k v)) ht ?_ ?_]
  · unfold xi_fv
    rw [if_pos rfl]
    show Value.long (xi_upL m0.2 a k v a k) = _
    rw [xi_upL_eq]
    simp [vp_updL]
  · intro j u hj
    unfold xi_fv
    dsimp only
    rw [xi_upL_eq]
    simp [vp_updL, hj]
theorem xi_setR {m0 : xi_M} {a k : Nat} {v : Int32} (ha : a < E.2.1) (hk : S.1 a = 0) : (xi_wld E S m0).set a (E.1 a, .inl (E.2.2.2 0, S.2.1 a, .inl (upd (m0.1 a) k v))) = xi_wld E S (xi_up m0.1 a k v, m0.2) := by
  refine xi_wld_set ha ?_ (fun b hb => xi_cel_ne (xi_up_ne hb) rfl)
  rw [xi_cel_row hk]
  dsimp only
  rw [xi_up_eq]
theorem xi_01 {v : Int32} (h : v = 0 ∨ v = 1) : v &&& 1 = v := by
  rcases h with rfl | rfl <;> decide +kernel
theorem xi_app (st : List Value) (n : Nat) : st.map (xi_cv E) = (((st.take n).reverse.map (xi_cv E)).reverse ++ (st.drop n).map (xi_cv E)) := by
  rw [List.map_reverse, List.reverse_reverse, ← List.map_append, List.take_append_drop]
theorem xi_cs_cv (st : List Value) : xi_cs (st.map (xi_cv E)) = xi_cs st := by
  unfold xi_cs
  rw [List.map_map]
  congr 1
  apply List.map_congr_left
  intro v _
  exact xi_cv_cat E v
theorem xi_toL (r : Option Value) (st : List Value) : ((r.map (xi_cv E)).toList ++ st.map (xi_cv E)) = (r.toList ++ st).map (xi_cv E) := by
  cases r <;> rfl
end XW
end
section
/-! One step of the interpreter is a walk of the machine: instruction by instruction. -/
section XV
variable {p : Program} {l : Launch} {e : Env} {R : Room} {s : State} {m : MethodId} {args : Array Value} {below : List Frame} {meth : Method} {c : Code}
variable {E : xi_E} {S : xi_S} {D : va_G} {cl : List vw_C} {tys : List (ClassId × FieldType)} {Ns : List (String × Nat × MethodName × String)} {own : String} {Ts : List Cond} {cc : ByteArray} {nL d : Nat} {P : xi_P} {res : xi_R}
theorem xi_jump {Q : State → Prop} {pc : Nat} {o : Int} {K : xi_T → Option xi_R} {L : xi_L} {st : List Value} {m0 : xi_M} (ih : ∀ t', K t' = some res → xi_G p l e R s m args below meth c E S D cl nL Q t') (h : xi_to pc o (fun t => K (t, L, st, m0)) = some res) : ∃ t : Nat, (pc : Int) + o = (t : Int) ∧ xi_G p l e R s m args below meth c E S D cl nL Q (t, L, st, m0) := by
  obtain ⟨t, h1, h2⟩ := xi_to_some h
  exact ⟨t, h1, ih _ h2⟩
theorem xi_sw_some {k : Int → Option xi_R} {x : Int32} {d0 : Int} : ∀ {os : List Int} {lo : Int}, xi_sw k x d0 lo os = some res → (∃ o, (¬ x.toInt < lo ∧ ¬ lo + os.length - 1 < x.toInt ∧ os[(x.toInt - lo).toNat]? = some o) ∧ k o = some res) ∨ ((x.toInt < lo ∨ lo + os.length - 1 < x.toInt) ∧ k d0 = some res) := by
  intro os
  induction os with
  | nil =>
    intro lo h
    refine Or.inr ⟨?_, h⟩
    simp only [List.length_nil]
    omega
  | cons o os ih =>
    intro lo h
    unfold xi_sw at h
    by_cases hx : x.toInt = lo
    · rw [if_pos hx] at h
      refine Or.inl ⟨o, ⟨by omega, by simp only [List.length_cons]; omega, ?_⟩, h⟩
      rw [hx, Int.sub_self]
      rfl
    · rw [if_neg hx] at h
      rcases ih h with ⟨o2, ⟨g1, g2, g3⟩, g4⟩ | ⟨g1, g2⟩
      · refine Or.inl ⟨o2, ⟨by omega, by simp only [List.length_cons]; omega, ?_⟩, g4⟩
        have e1 : (x.toInt - lo).toNat = (x.toInt - (lo + 1)).toNat + 1 := by omega
        rw [e1, List.getElem?_cons_succ]
        exact g3
      · refine Or.inr ⟨?_, g2⟩
        simp only [List.length_cons]
        omega
theorem xi_lk_some {k : Int → Option xi_R} {x : Int32} {d0 : Int} : ∀ {ps : List (Int × Int)}, xi_lk k x d0 ps = some res → k (Op.lookupswitch.offset ps d0 x.toInt) = some res := by
  intro ps
  induction ps with
  | nil => intro h; exact h
  | cons q ps ih =>
    intro h
    obtain ⟨a, o⟩ := q
    unfold xi_lk at h
    rw [Op.lookupswitch.offset_cons]
    by_cases hx : a = x.toInt
    · rw [if_pos hx] at h ⊢
      exact h
    · rw [if_neg hx] at h ⊢
      exact ih h
set_option maxHeartbeats 4000000 in
theorem xi_walk {K : xi_T → Option xi_R} {t : xi_T} (hF : CallFix p m c cc nL s args Ts own) (hKn : xi_Kn D cl tys Ns s) (hlocks : meth.locks = false) (hr : meth.sig.returnType = xi_rty P.2.2.2.2.2.2.2.2) (hd1 : d ≤ R.frames) (hd2 : 100 * d ≤ R.locals) (hE : xi_Eok E S cl tys) (hPo : xi_Pok l E S D cl tys Ns own Ts cc nL d P)
    (h : xi_run S P K t = some res) (ih : ∀ t', K t' = some res → xi_G p l e R s m args below meth c E S D cl nL (MQ below (xi_Q E S D cl res) args s 0 0 (xi_A E)) t') : xi_G p l e R s m args below meth c E S D cl nL (MQ below (xi_Q E S D cl res) args s 0 0 (xi_A E)) t := by
  obtain ⟨pc, L, st, m0⟩ := t
  have hK := hKn.1
  obtain ⟨hx, hb, hml, hown, hts⟩ := id hF
  obtain ⟨hinj, hshape, hty0, ⟨C1, hty1⟩, ⟨C2, hty2⟩⟩ := hE
  obtain ⟨hdec, hfd, hki, hkl, hcs, hcv⟩ := hPo
  have hD : ∀ mm : xi_M, va_D (xi_A E) (xi_wld E S mm) := fun mm => xi_wld_D hinj
  unfold xi_run at h
  cases hi : P.1 pc with
  | none => rw [hi] at h; cases h
  | some q =>
    obtain ⟨i, n⟩ := q
    rw [hi] at h
    obtain ⟨hdg, hn⟩ := hdec pc i n hi
    dsimp only at h
    intro H locs ls hP hS hl
    dsimp only at hP hl ⊢
    have go : ∀ {pc2 : Nat} {st2 : List Value}, K (pc2, L, st2, m0) = some res → W p l e R s m args below meth c H locs 0 0 (MQ below (xi_Q E S D cl res) args s 0 0 (xi_A E)) (F0 m pc2 ls (st2.map (xi_cv E))) := fun h => ih _ h H locs ls hP hS hl
    cases i
    case iconst k =>
      cases (show n = 1 from hn)
      exact lv_iconst hx hb hdg rfl (go h)
    case bipush k =>
      cases (show n = 2 from hn)
      exact lv_bipush hx hb hdg rfl (go h)
    case sipush k =>
      cases (show n = 3 from hn)
      exact lv_sipush hx hb hdg rfl (go h)
    case lconst k =>
      cases (show n = 1 from hn)
      exact lv_lconst hx hb hdg rfl (go h)
    case ldc x =>
      cases (show n = 2 from hn)
      obtain ⟨v, hv, h⟩ := xi_bind_some h
      exact lv_ldc hx hb hown (hts _ (hki _ _ hv)) hdg (go h)
    case ldc_w x =>
      cases (show n = 3 from hn)
      obtain ⟨v, hv, h⟩ := xi_bind_some h
      exact lv_ldcw hx hb hown (hts _ (hki _ _ hv)) hdg (go h)
    case ldc2_w x =>
      cases (show n = 3 from hn)
      obtain ⟨v, hv, h⟩ := xi_bind_some h
      exact lv_ldc2 hx hb hown (hts _ (hkl _ _ hv)) hdg (go h)
    case iload k =>
      cases (show n = 2 from hn)
      obtain ⟨x, hv, h⟩ := xi_lI_some h
      exact lv_iload hx hb hdg (hl.2.2.2 _ _ hv) (go h)
    case iload_n k =>
      cases (show n = 1 from hn)
      obtain ⟨x, hv, h⟩ := xi_lI_some h
      exact lv_iload_n hx hb hdg rfl (hl.2.2.2 _ _ hv) (go h)
    case lload k =>
      cases (show n = 2 from hn)
      obtain ⟨x, hv, h⟩ := xi_lJ_some h
      exact lv_lload hx hb hdg (hl.2.2.2 _ _ hv) (go h)
    case lload_n k =>
      cases (show n = 1 from hn)
      obtain ⟨x, hv, h⟩ := xi_lJ_some h
      exact lv_lload_n hx hb hdg rfl (hl.2.2.2 _ _ hv) (go h)
    case aload k =>
      cases (show n = 2 from hn)
      obtain ⟨x, hv, h⟩ := xi_lR_some h
      exact lv_aload hx hb hdg (hl.2.2.2 _ _ hv) (go h)
    case aload_n k =>
      cases (show n = 1 from hn)
      obtain ⟨x, hv, h⟩ := xi_lR_some h
      exact lv_aload_n hx hb hdg rfl (hl.2.2.2 _ _ hv) (go h)
    case istore k =>
      cases (show n = 2 from hn)
      obtain ⟨x, r, rfl, h⟩ := xi_sI_some h
      obtain ⟨hlt, h⟩ := xi_bif_some h
      have hlt : k < nL := by rw [← hl.1]; exact Nat.blt_eq.mp hlt
      exact lv_istore hx hb hdg hl.has hlt rfl (fun ls2 hl2 => ih _ h H locs ls2 hP hS (xi_lv_st1 (v := .int x) hl hl2))
    case istore_n k =>
      cases (show n = 1 from hn)
      obtain ⟨x, r, rfl, h⟩ := xi_sI_some h
      obtain ⟨hlt, h⟩ := xi_bif_some h
      have hlt : (k : Nat) < nL := by rw [← hl.1]; exact Nat.blt_eq.mp hlt
      exact lv_istore_n hx hb hdg rfl hl.has hlt rfl (fun ls2 hl2 => ih _ h H locs ls2 hP hS (xi_lv_st1 (v := .int x) hl hl2))
    case lstore k =>
      cases (show n = 2 from hn)
      obtain ⟨x, r, rfl, h⟩ := xi_sJ_some h
      obtain ⟨hlt, h⟩ := xi_bif_some h
      have hlt : k + 1 < nL := by rw [← hl.1]; exact Nat.blt_eq.mp hlt
      exact lv_lstore hx hb hdg hl.has hlt rfl (fun ls2 hl2 => ih _ h H locs ls2 hP hS (xi_lv_st2 (v := .long x) hl hl2))
    case lstore_n k =>
      cases (show n = 1 from hn)
      obtain ⟨x, r, rfl, h⟩ := xi_sJ_some h
      obtain ⟨hlt, h⟩ := xi_bif_some h
      have hlt : (k : Nat) + 1 < nL := by rw [← hl.1]; exact Nat.blt_eq.mp hlt
      exact lv_lstore_n hx hb hdg rfl hl.has hlt rfl (fun ls2 hl2 => ih _ h H locs ls2 hP hS (xi_lv_st2 (v := .long x) hl hl2))
    case iinc k w =>
      cases (show n = 3 from hn)
      obtain ⟨x, hv, h⟩ := xi_lI_some h
      obtain ⟨hlt, h⟩ := xi_bif_some h
      have hlt : k < nL := by rw [← hl.1]; exact Nat.blt_eq.mp hlt
      obtain ⟨j, hj⟩ := List.getElem?_of_mem (xi_lo_mem (E := E) (q := (k, .int x)).mpr ⟨_, hv, rfl⟩)
      exact lv_iinc hx hb hdg hl.has hj rfl hlt rfl (fun ls2 hl2 => ih _ h H locs ls2 hP hS (xi_lv_st1 (v := .int (x + Int32.ofInt w)) hl hl2))
    case iadd =>
      cases (show n = 1 from hn)
      obtain ⟨y, r, rfl, h⟩ := xi_sI_some h
      obtain ⟨x, r, rfl, h⟩ := xi_sI_some h
      exact lv_iadd hx hb hdg (go h)
    case isub =>
      cases (show n = 1 from hn)
      obtain ⟨y, r, rfl, h⟩ := xi_sI_some h
      obtain ⟨x, r, rfl, h⟩ := xi_sI_some h
      exact lv_isub hx hb hdg (go h)
    case imul =>
      cases (show n = 1 from hn)
      obtain ⟨y, r, rfl, h⟩ := xi_sI_some h
      obtain ⟨x, r, rfl, h⟩ := xi_sI_some h
      exact lv_imul hx hb hdg (go h)
    case iand =>
      cases (show n = 1 from hn)
      obtain ⟨y, r, rfl, h⟩ := xi_sI_some h
      obtain ⟨x, r, rfl, h⟩ := xi_sI_some h
      exact lv_iand hx hb hdg (go h)
    case ior =>
      cases (show n = 1 from hn)
      obtain ⟨y, r, rfl, h⟩ := xi_sI_some h
      obtain ⟨x, r, rfl, h⟩ := xi_sI_some h
      exact lv_ior hx hb hdg (go h)
    case ixor =>
      cases (show n = 1 from hn)
      obtain ⟨y, r, rfl, h⟩ := xi_sI_some h
      obtain ⟨x, r, rfl, h⟩ := xi_sI_some h
      exact lv_ixor hx hb hdg (go h)
    case ishl =>
      cases (show n = 1 from hn)
      obtain ⟨y, r, rfl, h⟩ := xi_sI_some h
      obtain ⟨x, r, rfl, h⟩ := xi_sI_some h
      exact lv_ishl hx hb hdg (go h)
    case ishr =>
      cases (show n = 1 from hn)
      obtain ⟨y, r, rfl, h⟩ := xi_sI_some h
      obtain ⟨x, r, rfl, h⟩ := xi_sI_some h
      exact lv_ishr hx hb hdg (go h)
    case iushr =>
      cases (show n = 1 from hn)
      obtain ⟨y, r, rfl, h⟩ := xi_sI_some h
      obtain ⟨x, r, rfl, h⟩ := xi_sI_some h
      exact lv_iushr hx hb hdg rfl (go h)
    case ineg =>
      cases (show n = 1 from hn)
      obtain ⟨x, r, rfl, h⟩ := xi_sI_some h
      exact lv_ineg hx hb hdg (go h)
    case idiv =>
      cases (show n = 1 from hn)
      obtain ⟨y, r, rfl, h⟩ := xi_sI_some h
      obtain ⟨x, r, rfl, h⟩ := xi_sI_some h
      obtain ⟨h0, h⟩ := xi_ifn_some h
      exact lv_idiv hx hb hdg h0 (go h)
    case irem =>
      cases (show n = 1 from hn)
      obtain ⟨y, r, rfl, h⟩ := xi_sI_some h
      obtain ⟨x, r, rfl, h⟩ := xi_sI_some h
      obtain ⟨h0, h⟩ := xi_ifn_some h
      exact lv_irem hx hb hdg h0 (go h)
    case i2l =>
      cases (show n = 1 from hn)
      obtain ⟨x, r, rfl, h⟩ := xi_sI_some h
      exact lv_i2l hx hb hdg rfl (go h)
    case i2b =>
      cases (show n = 1 from hn)
      obtain ⟨x, r, rfl, h⟩ := xi_sI_some h
      exact lv_i2b hx hb hdg rfl (go h)
    case l2i =>
      cases (show n = 1 from hn)
      obtain ⟨x, r, rfl, h⟩ := xi_sJ_some h
      exact lv_l2i hx hb hdg rfl (go h)
    case ladd =>
      cases (show n = 1 from hn)
      obtain ⟨y, r, rfl, h⟩ := xi_sJ_some h
      obtain ⟨x, r, rfl, h⟩ := xi_sJ_some h
      exact lv_ladd hx hb hdg (go h)
    case lsub =>
      cases (show n = 1 from hn)
      obtain ⟨y, r, rfl, h⟩ := xi_sJ_some h
      obtain ⟨x, r, rfl, h⟩ := xi_sJ_some h
      exact lv_lsub hx hb hdg (go h)
    case lmul =>
      cases (show n = 1 from hn)
      obtain ⟨y, r, rfl, h⟩ := xi_sJ_some h
      obtain ⟨x, r, rfl, h⟩ := xi_sJ_some h
      exact lv_lmul hx hb hdg (go h)
    case ldiv =>
      cases (show n = 1 from hn)
      obtain ⟨y, r, rfl, h⟩ := xi_sJ_some h
      obtain ⟨x, r, rfl, h⟩ := xi_sJ_some h
      obtain ⟨h0, h⟩ := xi_ifn_some h
      exact lv_ldiv hx hb hdg h0 (go h)
    case lrem =>
      cases (show n = 1 from hn)
      obtain ⟨y, r, rfl, h⟩ := xi_sJ_some h
      obtain ⟨x, r, rfl, h⟩ := xi_sJ_some h
      obtain ⟨h0, h⟩ := xi_ifn_some h
      exact lv_lrem hx hb hdg h0 (go h)
    case lcmp =>
      cases (show n = 1 from hn)
      obtain ⟨y, r, rfl, h⟩ := xi_sJ_some h
      obtain ⟨x, r, rfl, h⟩ := xi_sJ_some h
      exact W.lcmp hx hb hdg (go h)
    case dup =>
      cases (show n = 1 from hn)
      unfold xi_op at h
      dsimp only at h
      split at h
      · exact lv_dup hx hb hdg rfl (go h)
      · exact lv_dup hx hb hdg rfl (go h)
      · cases h
    case dup2 =>
      cases (show n = 1 from hn)
      obtain ⟨x, r, rfl, h⟩ := xi_sI_some h
      obtain ⟨a, r, rfl, h⟩ := xi_sR_some h
      exact lv_dup2_11 hx hb hdg rfl rfl (go h)
    case pop =>
      cases (show n = 1 from hn)
      obtain ⟨x, r, rfl, h⟩ := xi_sI_some h
      exact lv_pop hx hb hdg rfl (go h)
    case goto o =>
      cases (show n = 3 from hn)
      obtain ⟨t, ht, hg⟩ := xi_jump ih h
      exact lv_goto hx hb hdg ht (hg H locs ls hP hS hl)
    case ifCond cd o =>
      cases (show n = 3 from hn)
      cases cd
      case eq =>
        obtain ⟨x, r, rfl, h⟩ := xi_sI_some h
        obtain ⟨t, ht, h⟩ := xi_to_some h
        exact lv_if_eq hx hb hdg ht (fun hc => go ((if_pos hc).symm.trans h)) (fun hc => go ((if_neg hc).symm.trans h))
      case ne =>
        obtain ⟨x, r, rfl, h⟩ := xi_sI_some h
        obtain ⟨t, ht, h⟩ := xi_to_some h
        exact lv_if_ne hx hb hdg ht (fun hc => go ((if_neg hc).symm.trans h)) (fun hc => go ((if_pos hc).symm.trans h))
      case lt =>
        obtain ⟨x, r, rfl, h⟩ := xi_sI_some h
        obtain ⟨t, ht, h⟩ := xi_to_some h
        exact lv_if_lt hx hb hdg ht (fun hc => go ((if_pos hc).symm.trans h)) (fun hc => go ((if_neg hc).symm.trans h))
      case ge =>
        obtain ⟨x, r, rfl, h⟩ := xi_sI_some h
        obtain ⟨t, ht, h⟩ := xi_to_some h
        exact lv_if_ge hx hb hdg ht (fun hc => go ((if_pos hc).symm.trans h)) (fun hc => go ((if_neg hc).symm.trans h))
      case gt =>
        obtain ⟨x, r, rfl, h⟩ := xi_sI_some h
        obtain ⟨t, ht, h⟩ := xi_to_some h
        exact lv_if_gt hx hb hdg ht (fun hc => go ((if_pos hc).symm.trans h)) (fun hc => go ((if_neg hc).symm.trans h))
      case le =>
        obtain ⟨x, r, rfl, h⟩ := xi_sI_some h
        obtain ⟨t, ht, h⟩ := xi_to_some h
        exact lv_if_le hx hb hdg ht (fun hc => go ((if_pos hc).symm.trans h)) (fun hc => go ((if_neg hc).symm.trans h))
    case if_icmp cd o =>
      cases (show n = 3 from hn)
      cases cd
      case eq =>
        obtain ⟨y, r, rfl, h⟩ := xi_sI_some h
        obtain ⟨x, r, rfl, h⟩ := xi_sI_some h
        obtain ⟨t, ht, h⟩ := xi_to_some h
        exact lv_icmp_eq hx hb hdg ht (fun hc => go ((if_pos hc).symm.trans h)) (fun hc => go ((if_neg hc).symm.trans h))
      case ne =>
        obtain ⟨y, r, rfl, h⟩ := xi_sI_some h
        obtain ⟨x, r, rfl, h⟩ := xi_sI_some h
        obtain ⟨t, ht, h⟩ := xi_to_some h
        exact lv_icmp_ne hx hb hdg ht (fun hc => go ((if_neg hc).symm.trans h)) (fun hc => go ((if_pos hc).symm.trans h))
      case lt =>
        obtain ⟨y, r, rfl, h⟩ := xi_sI_some h
        obtain ⟨x, r, rfl, h⟩ := xi_sI_some h
        obtain ⟨t, ht, h⟩ := xi_to_some h
        exact lv_icmp_lt hx hb hdg ht (fun hc => go ((if_pos hc).symm.trans h)) (fun hc => go ((if_neg hc).symm.trans h))
      case ge =>
        obtain ⟨y, r, rfl, h⟩ := xi_sI_some h
        obtain ⟨x, r, rfl, h⟩ := xi_sI_some h
        obtain ⟨t, ht, h⟩ := xi_to_some h
        exact lv_icmp_ge hx hb hdg ht (fun hc => go ((if_pos hc).symm.trans h)) (fun hc => go ((if_neg hc).symm.trans h))
      case gt =>
        obtain ⟨y, r, rfl, h⟩ := xi_sI_some h
        obtain ⟨x, r, rfl, h⟩ := xi_sI_some h
        obtain ⟨t, ht, h⟩ := xi_to_some h
        exact lv_icmp_gt hx hb hdg ht (fun hc => go ((if_pos hc).symm.trans h)) (fun hc => go ((if_neg hc).symm.trans h))
      case le =>
        obtain ⟨y, r, rfl, h⟩ := xi_sI_some h
        obtain ⟨x, r, rfl, h⟩ := xi_sI_some h
        obtain ⟨t, ht, h⟩ := xi_to_some h
        exact lv_icmp_le hx hb hdg ht (fun hc => go ((if_pos hc).symm.trans h)) (fun hc => go ((if_neg hc).symm.trans h))
    case tableswitch d0 lo hi os =>
      obtain ⟨x, r, rfl, h⟩ := xi_sI_some h
      obtain ⟨hc, h⟩ := xi_bif_some h
      have hc := of_decide_eq_true hc
      rcases xi_sw_some h with ⟨o, ⟨g1, g2, g3⟩, h⟩ | ⟨g, h⟩
      · obtain ⟨t, ht, hg⟩ := xi_jump ih h
        exact lv_tableIn hx hb hdg g1 (by omega) (by rw [← Array.getElem?_toList]; exact g3) ht (hg H locs ls hP hS hl)
      · obtain ⟨t, ht, hg⟩ := xi_jump ih h
        exact lv_tableOut hx hb hdg (by omega) ht (hg H locs ls hP hS hl)
    case lookupswitch d0 ps =>
      obtain ⟨x, r, rfl, h⟩ := xi_sI_some h
      obtain ⟨hc, h⟩ := xi_bif_some h
      obtain ⟨t, ht, hg⟩ := xi_jump ih (xi_lk_some h)
      exact lv_lookup hx hb hdg hc rfl ht (hg H locs ls hP hS hl)
    case getfield x =>
      cases (show n = 3 from hn)
      obtain ⟨a, r, rfl, h⟩ := xi_sR_some h
      obtain ⟨⟨ci, k, t⟩, hq, h⟩ := xi_bind_some h
      obtain ⟨hk, h⟩ := xi_if_some h
      obtain ⟨C, T, nf, ty0, hc, hkn, hin, hlk, ht, hty, hnm, h0, h1, h2, hfin⟩ := hfd _ _ _ _ hq
      have hci : ci < cl.length := (List.getElem?_eq_some_iff.mp hc).1
      have ha : a < E.2.1 := hshape a (by rw [hk]; dsimp only; omega)
      have hg := xi_wld_get (E := E) (S := S) (m := m0) ha
      rw [xi_cel_obj hk] at hg
      refine va_get (a := E.1 a) (fs := xi_fs E S m0 a ci) hx hb hts hin hown hK hP a hg hc k hkn (hts _ hlk) (fun _ h9 => h9) (xi_fs_get ht) hdg ?_
      dsimp only at h
      split at h
      · exact go h
      · obtain ⟨b, hb2, h⟩ := xi_bind_some h
        have e1 : xi_fv E S m0 a k 3 = .ref (E.1 b) := by
          unfold xi_fv
          rw [if_neg (by decide), if_pos rfl, hb2]
          rfl
        rw [e1]
        exact go h
      · rename_i e2 e3
        have e1 : xi_fv E S m0 a k t = .int (m0.1 a k) := by
          unfold xi_fv
          rw [if_neg e2, if_neg e3]
        rw [e1]
        exact go h
    case putfield x =>
      cases (show n = 3 from hn)
      obtain ⟨⟨ci, k, t⟩, hq, h⟩ := xi_bind_some h
      dsimp only at h
      split at h
      · obtain ⟨v, r, rfl, h⟩ := xi_sI_some h
        obtain ⟨a, r, rfl, h⟩ := xi_sR_some h
        obtain ⟨hk, h⟩ := xi_if_some h
        obtain ⟨C, T, nf, ty0, hc, hkn, hin, hlk, ht, hty, hnm, h0, h1, h2, hfin⟩ := hfd _ _ _ _ hq
        have hci : ci < cl.length := (List.getElem?_eq_some_iff.mp hc).1
        have ha : a < E.2.1 := hshape a (by omega)
        have hg := xi_wld_get (E := E) (S := S) (m := m0) ha
        rw [xi_cel_obj hk] at hg
        have hfl : k < (xi_fs E S m0 a ci).length := (List.getElem?_eq_some_iff.mp (xi_fs_get ht)).1
        refine va_put (a := E.1 a) (v := .int v) (ty := .int) (fs := xi_fs E S m0 a ci) hx hb hts hin ty0 hty hnm hown hK hP (hD m0) hS a hg hc k hkn (hts _ hlk) (fun _ h9 => h9) (hfin (by decide)) (by rw [hty k hkn, h0 rfl]) rfl rfl hfl hdg (fun H1 locs1 hP1 hD1 hS1 => ?_)
        rw [xi_setI ha hk ht (by decide) (by decide)] at hP1
        exact ih _ h H1 locs1 ls hP1 hS1 hl
      · obtain ⟨v, r, rfl, h⟩ := xi_sI_some h
        obtain ⟨a, r, rfl, h⟩ := xi_sR_some h
        obtain ⟨hk, h⟩ := xi_if_some h
        obtain ⟨hk, hv⟩ := hk
        obtain ⟨C, T, nf, ty0, hc, hkn, hin, hlk, ht, hty, hnm, h0, h1, h2, hfin⟩ := hfd _ _ _ _ hq
        have hci : ci < cl.length := (List.getElem?_eq_some_iff.mp hc).1
        have ha : a < E.2.1 := hshape a (by omega)
        have hg := xi_wld_get (E := E) (S := S) (m := m0) ha
        rw [xi_cel_obj hk] at hg
        have hfl : k < (xi_fs E S m0 a ci).length := (List.getElem?_eq_some_iff.mp (xi_fs_get ht)).1
        refine va_put (a := E.1 a) (v := .int v) (ty := .boolean) (fs := xi_fs E S m0 a ci) hx hb hts hin ty0 hty hnm hown hK hP (hD m0) hS a hg hc k hkn (hts _ hlk) (fun _ h9 => h9) (hfin (by decide)) (by rw [hty k hkn, h1 rfl]) (congrArg Value.int (xi_01 hv)) (by rcases hv with rfl | rfl <;> rfl) hfl hdg (fun H1 locs1 hP1 hD1 hS1 => ?_)
        rw [xi_setI ha hk ht (by decide) (by decide)] at hP1
        exact ih _ h H1 locs1 ls hP1 hS1 hl
      · obtain ⟨v, r, rfl, h⟩ := xi_sJ_some h
        obtain ⟨a, r, rfl, h⟩ := xi_sR_some h
        obtain ⟨hk, h⟩ := xi_if_some h
        obtain ⟨C, T, nf, ty0, hc, hkn, hin, hlk, ht, hty, hnm, h0, h1, h2, hfin⟩ := hfd _ _ _ _ hq
        have hci : ci < cl.length := (List.getElem?_eq_some_iff.mp hc).1
        have ha : a < E.2.1 := hshape a (by omega)
        have hg := xi_wld_get (E := E) (S := S) (m := m0) ha
        rw [xi_cel_obj hk] at hg
        have hfl : k < (xi_fs E S m0 a ci).length := (List.getElem?_eq_some_iff.mp (xi_fs_get ht)).1
        refine va_put (a := E.1 a) (v := .long v) (ty := .long) (fs := xi_fs E S m0 a ci) hx hb hts hin ty0 hty hnm hown hK hP (hD m0) hS a hg hc k hkn (hts _ hlk) (fun _ h9 => h9) (hfin (by decide)) (by rw [hty k hkn, h2 rfl]) rfl rfl hfl hdg (fun H1 locs1 hP1 hD1 hS1 => ?_)
        rw [xi_setJ ha hk ht] at hP1
        exact ih _ h H1 locs1 ls hP1 hS1 hl
      · cases h
    case iaload =>
      cases (show n = 1 from hn)
      obtain ⟨i, r, rfl, h⟩ := xi_sI_some h
      obtain ⟨a, r, rfl, h⟩ := xi_sR_some h
      obtain ⟨⟨hk, hin⟩, h⟩ := xi_if_some h
      have ha : a < E.2.1 := hshape a (by rw [hk]; omega)
      have hg := xi_wld_get (E := E) (S := S) (m := m0) ha
      rw [xi_cel_row hk] at hg
      exact va_iald (a := E.1 a) hx hb hK hP a 0 hg hty0 hin hdg (go h)
    case iastore =>
      cases (show n = 1 from hn)
      obtain ⟨v, r, rfl, h⟩ := xi_sI_some h
      obtain ⟨i, r, rfl, h⟩ := xi_sI_some h
      obtain ⟨a, r, rfl, h⟩ := xi_sR_some h
      obtain ⟨⟨hk, hin⟩, h⟩ := xi_if_some h
      have ha : a < E.2.1 := hshape a (by rw [hk]; omega)
      have hg := xi_wld_get (E := E) (S := S) (m := m0) ha
      rw [xi_cel_row hk] at hg
      refine va_iast (a := E.1 a) hx hb hK hP (hD m0) hS a 0 hg hty0 hin hdg (fun H1 locs1 hP1 hD1 hS1 => ?_)
      rw [xi_setR ha hk] at hP1
      exact ih _ h H1 locs1 ls hP1 hS1 hl
    case aaload =>
      cases (show n = 1 from hn)
      obtain ⟨i, r, rfl, h⟩ := xi_sI_some h
      obtain ⟨a, r, rfl, h⟩ := xi_sR_some h
      obtain ⟨⟨hk, hin⟩, h⟩ := xi_if_some h
      obtain ⟨b, hb2, h⟩ := xi_bind_some h
      have ha : a < E.2.1 := hshape a (by omega)
      have hg := xi_wld_get (E := E) (S := S) (m := m0) ha
      rcases hk with hk | hk
      · have e1 : xi_cel E S m0 a = .inl (E.2.2.2 1, S.2.1 a, .inr (.inr (.inr (.inr fun i => (S.2.2 a i).map E.1)))) := by
          unfold xi_cel
          rw [if_neg (by omega), if_pos hk]
        rw [e1] at hg
        refine va_aldq (a := E.1 a) hx hb hK hP a 1 hg hty1 hin hdg ?_
        rw [hb2]
        exact go h
      · have e1 : xi_cel E S m0 a = .inl (E.2.2.2 2, S.2.1 a, .inr (.inr (.inr (.inr fun i => (S.2.2 a i).map E.1)))) := by
          unfold xi_cel
          rw [if_neg (by omega), if_neg (by omega), if_pos hk]
        rw [e1] at hg
        refine va_aldq (a := E.1 a) hx hb hK hP a 2 hg hty2 hin hdg ?_
        rw [hb2]
        exact go h
    case arraylength =>
      cases (show n = 1 from hn)
      obtain ⟨a, r, rfl, h⟩ := xi_sR_some h
      obtain ⟨hk, h⟩ := xi_if_some h
      have ha : a < E.2.1 := hshape a (by omega)
      have hg := xi_wld_get (E := E) (S := S) (m := m0) ha
      rcases hk with hk | hk | hk
      · rw [xi_cel_row hk] at hg
        exact va_alen (a := E.1 a) hx hb hK hP a 0 hg hty0 rfl hdg (go h)
      · have e1 : xi_cel E S m0 a = .inl (E.2.2.2 1, S.2.1 a, .inr (.inr (.inr (.inr fun i => (S.2.2 a i).map E.1)))) := by
          unfold xi_cel
          rw [if_neg (by omega), if_pos hk]
        rw [e1] at hg
        exact va_alen (a := E.1 a) hx hb hK hP a 1 hg hty1 rfl hdg (go h)
      · have e1 : xi_cel E S m0 a = .inl (E.2.2.2 2, S.2.1 a, .inr (.inr (.inr (.inr fun i => (S.2.2 a i).map E.1)))) := by
          unfold xi_cel
          rw [if_neg (by omega), if_neg (by omega), if_pos hk]
        rw [e1] at hg
        exact va_alen (a := E.1 a) hx hb hK hP a 2 hg hty2 rfl hdg (go h)
    case invokestatic x =>
      cases (show n = 3 from hn)
      obtain ⟨⟨na, rk⟩, hq, h⟩ := xi_bind_some h
      obtain ⟨hb3, h⟩ := xi_bif_some h
      rw [Bool.and_eq_true] at hb3
      obtain ⟨r, m1, hr1, h⟩ := xi_an_some h
      have hcal := hcs x _ _ _ _ hr1
      rw [xi_app (E := E) st na]
      refine hcal p e R s m args below meth c H locs _ pc ls _ hF hKn hd1 hd2 hl.2.1 (by rw [xi_cs_cv]; exact Nat.le_of_ble_eq_true hb3.2) hdg hP hS (fun H1 locs1 hP1 hS1 => ?_)
      rw [xi_toL]
      exact ih _ h H1 locs1 ls hP1 hS1 hl
    case invokevirtual x =>
      cases (show n = 3 from hn)
      obtain ⟨⟨na, rk⟩, hq, h⟩ := xi_bind_some h
      obtain ⟨hb3, h⟩ := xi_bif_some h
      rw [Bool.and_eq_true] at hb3
      obtain ⟨r, m1, hr1, h⟩ := xi_an_some h
      have hcal := hcv x _ _ _ _ hr1
      rw [xi_app (E := E) st na]
      refine hcal p e R s m args below meth c H locs _ pc ls _ hF hKn hd1 hd2 hl.2.1 (by rw [xi_cs_cv]; exact Nat.le_of_ble_eq_true hb3.2) hdg hP hS (fun H1 locs1 hP1 hS1 => ?_)
      rw [xi_toL]
      exact ih _ h H1 locs1 ls hP1 hS1 hl
    case ireturn =>
      cases (show n = 1 from hn)
      unfold xi_op at h
      dsimp only at h
      split at h
      · rename_i hrt
        cases h
        rw [hrt] at hr
        exact W.zret (ty := .int) hx hb hr rfl (fun t ht _ => ⟨rfl, by rw [ht]; exact hP, hS.F ht⟩) hS.2.2 hdg hlocks
      · rename_i hrt
        obtain ⟨hv, h⟩ := xi_if_some h
        cases h
        rw [hrt] at hr
        exact W.zret (ty := .boolean) hx hb hr (congrArg Value.int (xi_01 hv)) (fun t ht _ => ⟨rfl, by rw [ht]; exact hP, hS.F ht⟩) hS.2.2 hdg hlocks
      · cases h
    case lreturn =>
      cases (show n = 1 from hn)
      unfold xi_op at h
      dsimp only at h
      split at h
      · rename_i hrt
        cases h
        rw [hrt] at hr
        exact W.lret hx hb hr (fun t ht _ => ⟨rfl, by rw [ht]; exact hP, hS.F ht⟩) hS.2.2 hdg hlocks
      · cases h
    case return_ =>
      cases (show n = 1 from hn)
      unfold xi_op at h
      dsimp only at h
      split at h
      · rename_i hrt
        cases h
        rw [hrt] at hr
        exact W.vret hx hb hr (fun t ht _ => ⟨rfl, by rw [ht]; exact hP, hS.F ht⟩) hS.2.2 hdg hlocks
      · cases h
    all_goals cases h
end XV
end
section
/-! Methods: what the interpreter says of a method is its contract at the machine. -/
def xi_le (L1 L : xi_L) : Prop := L1.length = L.length ∧ ∀ (i : Nat) (v : Value), xi_get L1 i = some v → xi_get L i = some v
/-- from state t the method answers res -/
def xi_X (S : xi_S) (P : xi_P) (t : xi_T) (res : xi_R) : Prop :=
  ∀ G : xi_T → Prop, (∀ K t, xi_run S P K t = some res → (∀ t', K t' = some res → G t') → G t) → (∀ pc L L1 st m, xi_le L1 L → G (pc, L1, st, m) → G (pc, L, st, m)) → G t
noncomputable def xi_K (S : xi_S) (P : xi_P) (res : xi_R) (t : xi_T) : Option xi_R := @ite _ (xi_X S P t res) (Classical.propDecidable _) (some res) none
theorem xi_K_of {S : xi_S} {P : xi_P} {res : xi_R} {t : xi_T} (h : xi_X S P t res) : xi_K S P res t = some res := if_pos h
theorem xi_K_to {S : xi_S} {P : xi_P} {res : xi_R} {t : xi_T} (h : xi_K S P res t = some res) : xi_X S P t res := by
  unfold xi_K at h
  by_cases hc : xi_X S P t res
  · exact hc
  · rw [if_neg hc] at h
    cases h
theorem xi_X_go {S : xi_S} {P : xi_P} {res : xi_R} (sp : Nat → Bool) : ∀ (n : Nat) {t : xi_T}, xi_go S P sp (xi_K S P res) n t = some res → xi_X S P t res := by
  intro n
  induction n with
  | zero => intro t h; exact xi_K_to h
  | succ n ih =>
    intro t h G hG hle
    refine hG _ _ h (fun t' ht' => ?_)
    cases hs : sp t'.1 with
    | true =>
      rw [hs] at ht'
      exact xi_K_to ht' G hG hle
    | false =>
      rw [hs] at ht'
      exact ih ht' G hG hle
theorem xi_X_le {S : xi_S} {P : xi_P} {res : xi_R} {pc : Nat} {L L1 : xi_L} {st : List Value} {m : xi_M} (hl : xi_le L1 L) (h : xi_X S P (pc, L1, st, m) res) : xi_X S P (pc, L, st, m) res :=
  fun G hG hle => hle _ _ _ _ _ hl (h G hG hle)
/-- the locals at the entry -/
def xi_el : List Value → xi_L
  | [] => []
  | v :: vs => bif Nat.beq v.category 2 then some v :: none :: xi_el vs else some v :: xi_el vs
def xi_ent (As : List Value) (nL : Nat) : xi_L := xi_el As ++ List.replicate (nL - (xi_el As).length) none
theorem xi_el_len (E : xi_E) : ∀ As : List Value, (xi_el As).length = (lg_sl (As.map (xi_cv E))).length := by
  intro As
  induction As with
  | nil => rfl
  | cons v vs ih =>
    rw [List.map_cons]
    unfold lg_sl at ih ⊢
    rw [List.flatMap_cons, List.length_append, ← ih, xi_cv_cat, show xi_el (v :: vs) = (bif Nat.beq v.category 2 then some v :: none :: xi_el vs else some v :: xi_el vs) from rfl]
    by_cases hc : v.category = 2
    · rw [if_pos hc, hc]
      simp only [Nat.beq_refl, cond_true, List.length_cons, List.length_nil]
      omega
    · rw [if_neg hc]
      have e : Nat.beq v.category 2 = false := by
        cases hb : Nat.beq v.category 2
        · rfl
        · exact absurd (Nat.eq_of_beq_eq_true hb) hc
      rw [e]
      simp only [cond_false, List.length_cons, List.length_nil]
      omega
theorem xi_rep : ∀ (k i : Nat), xi_get (List.replicate k none) i = none := by
  intro k
  induction k with
  | zero => intro i; rfl
  | succ k ih =>
    intro i
    rw [List.replicate_succ]
    cases i with
    | zero => rfl
    | succ j => exact ih j
theorem xi_el_mem (E : xi_E) : ∀ (As : List Value) (k off i : Nat) (v : Value), xi_get (xi_el As ++ List.replicate k none) i = some v → (off + i, xi_cv E v) ∈ lv_args off (As.map (xi_cv E)) := by
  intro As
  induction As with
  | nil =>
    intro k off i v h
    rw [show xi_el [] ++ List.replicate k none = List.replicate k none from rfl, xi_rep] at h
    cases h
  | cons w vs ih =>
    intro k off i v h
    rw [List.map_cons]
    unfold lv_args
    rw [xi_cv_cat]
    unfold xi_el at h
    by_cases hc : w.category = 2
    · rw [if_pos hc]
      rw [hc] at h
      simp only [Nat.beq_refl, cond_true] at h
      cases i with
      | zero =>
        cases (show some w = some v from h)
        exact List.mem_cons_self
      | succ j =>
        cases j with
        | zero => cases (show (none : Option Value) = some v from h)
        | succ j =>
          refine List.mem_cons_of_mem _ ?_
          have h2 := ih k (off + 2) j v h
          rw [show off + (j + 1 + 1) = off + 2 + j by omega]
          exact h2
    · rw [if_neg hc]
      have e : Nat.beq w.category 2 = false := by
        cases hb : Nat.beq w.category 2
        · rfl
        · exact absurd (Nat.eq_of_beq_eq_true hb) hc
      rw [e] at h
      simp only [cond_false] at h
      cases i with
      | zero =>
        cases (show some w = some v from h)
        exact List.mem_cons_self
      | succ j =>
        refine List.mem_cons_of_mem _ ?_
        have h2 := ih k (off + 1) j v h
        rw [show off + (j + 1) = off + 1 + j by omega]
        exact h2
theorem xi_ent_lv {E : xi_E} {ls : Array Slot} {nL : Nat} {As : List Value} (hn : (xi_el As).length ≤ nL) (h : lv_has ls nL (lv_args 0 (As.map (xi_cv E)))) : xi_lv E ls nL (xi_ent As nL) := by
  refine ⟨?_, h.1, h.2.1, fun i v hv => ?_⟩
  · unfold xi_ent
    rw [List.length_append, List.length_replicate]
    omega
  · have h2 := xi_el_mem E As _ 0 i v hv
    rw [Nat.zero_add] at h2
    exact h.2.2 _ h2
/-- a method's contract: from the world m1, with these arguments, to the answer r and the world m2 -/
def xi_Sound (l : Launch) (E : xi_E) (S : xi_S) (D : va_G) (cl : List vw_C) (tys : List (ClassId × FieldType)) (Ns : List (String × Nat × MethodName × String)) (Ts : List Cond) (y : MethodName) (cc : ByteArray) (nL : Nat) (ret : Option FieldType) (d : Nat) (As : List Value) (m1 : xi_M) (r : Option Value) (m2 : xi_M) : Prop :=
  Met l y (.code y cc nL ret :: Ts) { frames := d, cells := 0, slots := 0, locals := 100 * d } (va_Pc (As.map (xi_cv E)) (fun U => va_P D cl (xi_wld E S m1) U.heap ∧ xi_Kn D cl tys Ns U)) (xi_Q E S D cl (r, m2)) 0 0 (xi_A E)
section XM
variable {l : Launch} {E : xi_E} {S : xi_S} {D : va_G} {cl : List vw_C} {tys : List (ClassId × FieldType)} {Ns : List (String × Nat × MethodName × String)} {own : String} {Ts : List Cond} {cc : ByteArray} {nL d : Nat} {P : xi_P} {As : List Value} {m1 m2 : xi_M} {r : Option Value}
theorem xi_meth {y : MethodName} {ret : Option FieldType} (hy : plainName y.cls = true) (hE : xi_Eok E S cl tys) (hPo : xi_Pok l E S D cl tys Ns y.cls Ts cc nL d P) (hn : (xi_el As).length ≤ nL) (hret : ret = xi_rty P.2.2.2.2.2.2.2.2)
    (hX : xi_X S P (0, xi_ent As nL, [], m1) (r, m2)) : xi_Sound l E S D cl tys Ns Ts y cc nL ret d As m1 r m2 := by
  subst hret
  refine Met.ofW (cc := cc) (maxL := nL) hy rfl ?_
  intro p e s m args below meth c s₁ B hml hv
  obtain ⟨rfl, hP0, hK⟩ := hv
  have hts := atoms_spec B.pre
  have hown : s.vm.findClass y.cls = some m.cls := findClass_of_methodNamed B.named
  have hF : CallFix p m c cc nL s ((As.map (xi_cv E)).toArray) Ts y.cls := ⟨B.exec, B.bytes, hml, hown, fun w hw => hts w (List.mem_cons_of_mem _ hw)⟩
  have hG := hX (xi_G p l e (headSpec (.code y cc nL (xi_rty P.2.2.2.2.2.2.2.2) :: Ts) { frames := d, cells := 0, slots := 0, locals := 100 * d }).room s m ((As.map (xi_cv E)).toArray) below meth c E S D cl nL (MQ below (xi_Q E S D cl (r, m2)) ((As.map (xi_cv E)).toArray) s 0 0 (xi_A E)))
    (fun K t h ih => xi_walk hF hK B.notSynchronized B.returns (Nat.le_refl d) (Nat.le_refl (100 * d)) hE hPo h ih)
    (fun pc L L1 st mm hle hg H locs ls hP hS hl => hg H locs ls hP hS ⟨hle.1.trans hl.1, hl.2.1, hl.2.2.1, fun i v hv => hl.2.2.2 i v (hle.2 i v hv)⟩)
  have hl := lv_entry (As.map (xi_cv E)) (n := nL) (by rw [← xi_el_len]; exact hn)
  rw [lg_entry_eq]
  exact hG s.heap [] _ hP0 va_S.rf (xi_ent_lv hn hl)
theorem xi_blind : FrameBlind (va_Pc (As.map (xi_cv E)) (fun U => va_P D cl (xi_wld E S m1) U.heap ∧ xi_Kn D cl tys Ns U)) :=
  fun a U g mk q => by obtain ⟨q0, qP, qK⟩ := q; exact ⟨q0, qP, va_K.moved (u := U) (U := U.calling g mk a) (Vm.Alike.refl U.vm) qK.1, fun z hz => va_Nw.same (u := U) (U := U.calling g mk a) rfl rfl (qK.2 z hz)⟩
theorem xi_back {p : Program} {e : Env} {R : Room} {s : State} {m : MethodId} {args a : Array Value} {below : List Frame} {meth : Method} {c : Code} {H : Heap} {locs : List Loc} {Q : State → Prop} {pc : Nat} {ls : Array Slot} {st0 rest : List Value}
    (hr : va_Run p l e R s m args below meth c H locs 0 0 0 0 (F0 m pc ls st0) rest (xi_Q E S D cl (r, m2) a) (xi_A E)) (hS : va_S (xi_A E) s.heap H locs)
    (kk : ∀ (H1 : Heap) (locs1 : List Loc), va_P D cl (xi_wld E S m2) H1 → va_S (xi_A E) s.heap H1 locs1 → W p l e R s m args below meth c H1 locs1 0 0 Q (F0 m (pc + 3) ls ((r.map (xi_cv E)).toList ++ rest))) : W p l e R s m args below meth c H locs 0 0 Q (F0 m pc ls st0) := by
  intro T hT X
  obtain ⟨v, st₀, t, T', L, h0, X', hL, e1, e2, ⟨hv, hP2, hz, hk⟩, st⟩ := hr T hT X
  cases hv
  rw [h0] at hz hk
  obtain ⟨t2, a1, b1⟩ := kk T'.heap (locs ++ L) (by rw [e1]; exact hP2)
    ⟨Nat.le_trans hS.1 (by rw [e1]; exact hz), fun q h1 h2 => by rw [e1, hk q (Nat.lt_of_lt_of_le h1 hS.1) h2]; exact hS.2.1 q h1 h2, fun q hq => by
      rcases List.mem_append.mp hq with h | h
      · exact hS.2.2 q h
      · exact hL q h⟩ T' rfl X'
  exact ⟨t2, st t2 a1, b1⟩
theorem xi_good {y2 : MethodName} {c2 : ByteArray} {n2 : Nat} {ret : Option FieldType} (hG : ∀ w ∈ Ts, goodWord w = true) (hco : Cond.code y2 c2 n2 ret ∈ Ts) : GoodIn Ts (.code y2 c2 n2 ret :: Ts) := fun w hw => by
  rcases List.mem_cons.mp hw with rfl | h
  · exact ⟨hco, good_of_word (hG _ hco)⟩
  · exact ⟨h, good_of_word (hG _ h)⟩
theorem xi_callS {x d2 n2 : Nat} {y2 : MethodName} {c2 : ByteArray} {ret : Option FieldType} (hS2 : xi_Sound l E S D cl tys Ns Ts y2 c2 n2 ret d2 As m1 r m2) (hG : ∀ w ∈ Ts, goodWord w = true) (hco : Cond.code y2 c2 n2 ret ∈ Ts) (hli : Cond.methodLink own x y2 ∈ Ts) (hst : Cond.static y2 ∈ Ts) (hin : Cond.initialized y2.cls ∈ Ts)
    (hd : y2.cls ≠ "java/lang/invoke/MethodHandle" ∧ y2.cls ≠ "java/lang/invoke/VarHandle" ∧ (parseMethodDescriptor y2.desc).map (fun q => q.parameters.length) = some As.length) (hdd : d2 + 1 ≤ d) (hn2 : n2 ≤ 60) : xi_Cal l E S D cl tys Ns own Ts cc nL d (.invokestatic x) As m1 r m2 := by
  intro p e R s m args below meth c H locs Q pc ls rest hF hK hd1 hd2 hls hcs hdg hP hS kk
  have ht := hF.2.2.2.2
  refine xi_back (a := (As.map (xi_cv E)).toArray) (va_runS (As := As.map (xi_cv E)) (n := As.length) hF hS2
    ⟨callB_of As.length ht (xi_good hG hco) rfl rfl rfl (ht _ hin) (ht _ hli) hd ⟨by show d2 + 1 ≤ R.frames; omega, by show 8 + (n2 + 11) + 100 * d2 ≤ R.locals; omega⟩, ht _ hst⟩
    ⟨xi_blind, fun U hU hW => ⟨rfl, by rw [hU]; exact hP, xi_Kn.moved hW hK⟩⟩ rfl (List.length_map _) hls rfl (by show 2 * 0 + _ ≤ 8; rw [Nat.mul_zero, Nat.zero_add]; exact hcs) hdg ⟨Nat.zero_le _, Nat.zero_le _⟩) hS kk
theorem xi_callSN {x d2 n2 : Nat} {y2 : MethodName} {host : String} {c2 : ByteArray} {ret : Option FieldType} (hS2 : xi_Sound l E S D cl tys Ns Ts y2 c2 n2 ret d2 As m1 r m2) (hG : ∀ w ∈ Ts, goodWord w = true) (hco : Cond.code y2 c2 n2 ret ∈ Ts) (hli : (own, x, y2, host) ∈ Ns) (hst : Cond.static y2 ∈ Ts) (hin : Cond.initialized y2.cls ∈ Ts)
    (hd : y2.cls ≠ "java/lang/invoke/MethodHandle" ∧ y2.cls ≠ "java/lang/invoke/VarHandle" ∧ (parseMethodDescriptor y2.desc).map (fun q => q.parameters.length) = some As.length) (hdd : d2 + 1 ≤ d) (hn2 : n2 ≤ 60) : xi_Cal l E S D cl tys Ns own Ts cc nL d (.invokestatic x) As m1 r m2 := by
  intro p e R s m args below meth c H locs Q pc ls rest hF hK hd1 hd2 hls hcs hdg hP hS kk
  have ht := hF.2.2.2.2
  refine xi_back (a := (As.map (xi_cv E)).toArray) (va_runSN (host := host) (As := As.map (xi_cv E)) (n := As.length) hF hS2
    ⟨⟨⟨rfl, rfl, by show d2 + 1 ≤ R.frames; omega, by show 8 + (n2 + 11) + 100 * d2 ≤ R.locals; omega, pay_in ht (xi_good hG hco), List.mem_cons_self⟩, ht _ hco, ht _ hin, ⟨hd.1, hd.2.1⟩, fun sig h => by have h2 := hd.2.2; rw [h] at h2; exact (Option.some.inj h2).symm, va_Nw.use rfl (hK.2 _ hli)⟩, ht _ hst, trivial⟩
    ⟨xi_blind, fun U hU hW => ⟨rfl, by rw [hU]; exact hP, xi_Kn.moved hW hK⟩⟩ rfl (List.length_map _) hls rfl (by show 2 * 0 + _ ≤ 8; rw [Nat.mul_zero, Nat.zero_add]; exact hcs) hdg ⟨Nat.zero_le _, Nat.zero_le _⟩) hS kk
theorem xi_callV {x d2 n2 b ci nf : Nat} {T : u_T} {y2 : MethodName} {c2 : ByteArray} {ret : Option FieldType} (hE : xi_Eok E S cl tys) (hb : S.1 b = ci + 3) (hc : cl[ci]? = some (y2.cls, T, nf)) (hS2 : xi_Sound l E S D cl tys Ns Ts y2 c2 n2 ret d2 (.ref b :: As) m1 r m2) (hG : ∀ w ∈ Ts, goodWord w = true) (hco : Cond.code y2 c2 n2 ret ∈ Ts) (hli : Cond.methodLink own x y2 ∈ Ts) (hst : Cond.instanceMethod y2 ∈ Ts) (hse : Cond.selects y2.cls y2 y2 ∈ Ts) (hin : Cond.initialized y2.cls ∈ Ts)
    (hd : y2.cls ≠ "java/lang/invoke/MethodHandle" ∧ y2.cls ≠ "java/lang/invoke/VarHandle" ∧ (parseMethodDescriptor y2.desc).map (fun q => q.parameters.length) = some As.length) (hdd : d2 + 1 ≤ d) (hn2 : n2 ≤ 60) : xi_Cal l E S D cl tys Ns own Ts cc nL d (.invokevirtual x) (.ref b :: As) m1 r m2 := by
  intro p e R s m args below meth c H locs Q pc ls rest hF hK hd1 hd2 hls hcs hdg hP hS kk
  have ht := hF.2.2.2.2
  have hci : ci < cl.length := (List.getElem?_eq_some_iff.mp hc).1
  have hg := xi_wld_get (E := E) (S := S) (m := m1) (hE.2.1 b (by omega))
  rw [xi_cel_obj hb] at hg
  refine xi_back (a := ((Value.ref b :: As).map (xi_cv E)).toArray) (va_runV (C := y2.cls) (b := E.1 b) (As := As.map (xi_cv E)) (n := As.length) hF hS2
    ⟨callB_of As.length ht (xi_good hG hco) rfl rfl rfl (ht _ hin) (ht _ hli) hd ⟨by show d2 + 1 ≤ R.frames; omega, by show 8 + (n2 + 11) + 100 * d2 ≤ R.locals; omega⟩, ht _ hst, ht _ hse⟩
    ⟨xi_blind, va_recv hK.1 hP hc hg, fun U hU hW => ⟨rfl, by rw [hU]; exact hP, xi_Kn.moved hW hK⟩⟩ rfl (List.length_map _) hls (by show ((xi_cv E (.ref b) :: As.map (xi_cv E)).reverse ++ rest) = _; rw [List.reverse_cons, List.append_assoc]; rfl) (by show 2 * 0 + _ ≤ 8; rw [Nat.mul_zero, Nat.zero_add]; exact hcs) hdg ⟨Nat.zero_le _, Nat.zero_le _⟩) hS kk
theorem xi_callA {x a0 a1 : Nat} {sp dp n : Int32} (hE : xi_Eok E S cl tys) (h0 : S.1 a0 = 0) (h1 : S.1 a1 = 0) (hsp : ¬ sp < 0) (hdp : ¬ dp < 0) (hn : ¬ n < 0) (hl0 : sp.toNatClampNeg + n.toNatClampNeg ≤ S.2.1 a0) (hl1 : dp.toNatClampNeg + n.toNatClampNeg ≤ S.2.1 a1) (hli : Cond.methodLink own x arraycopyName ∈ Ts) (hna : Cond.native arraycopyName ∈ Ts) (hst : Cond.static arraycopyName ∈ Ts) (hin : Cond.initialized "java/lang/System" ∈ Ts) (hdd : 1 ≤ d) :
    xi_Cal l E S D cl tys Ns own Ts cc nL d (.invokestatic x) [.ref a0, .int sp, .ref a1, .int dp, .int n] m1 none (fun b => if b = a1 then va_cpy (m1.1 a0) (m1.1 a1) sp.toNatClampNeg dp.toNatClampNeg n.toNatClampNeg else m1.1 b, m1.2) := by
  intro p e R s m args below meth c H locs Q pc ls rest hF hK hd1 hd2 hls hcs hdg hP hS kk
  obtain ⟨hx, hb, hml, hown, ht⟩ := hF
  obtain ⟨hinj, hshape, hty0, -, -⟩ := hE
  have ha0 : a0 < E.2.1 := hshape a0 (by omega)
  have ha1 : a1 < E.2.1 := hshape a1 (by omega)
  have hg0 := xi_wld_get (E := E) (S := S) (m := m1) ha0
  rw [xi_cel_row h0] at hg0
  have hg1 := xi_wld_get (E := E) (S := S) (m := m1) ha1
  rw [xi_cel_row h1] at hg1
  unfold xi_cs at hcs
  refine va_copyi (rest := rest) (a := E.1 a1) (a0 := E.1 a0) hx hb (hml.trans hls.symm) hown (ht _ hli) (ht _ hna) (ht _ hst) (ht _ hin) hK.1 hP (xi_wld_D hinj) hS a0 a1 0 0 hg0 hg1 hty0 hty0 rfl hsp hdp hn hl0 hl1 (fun _ _ => rfl) (by omega) (by show _ + (7 + 11) ≤ R.locals; omega) hdg (fun H1 locs1 hP1 hD1 hS1 => ?_)
  refine kk H1 locs1 ?_ hS1
  rw [← xi_wld_set (m := m1) (e := .inl (E.2.2.2 0, S.2.1 a1, .inl (va_cpy (m1.1 a0) (m1.1 a1) sp.toNatClampNeg dp.toNatClampNeg n.toNatClampNeg))) ha1 ?_ ?_]
  · exact hP1
  · rw [xi_cel_row h1]
    dsimp only
    rw [if_pos rfl]
  · intro b hb
    exact xi_cel_ne (if_neg hb) rfl
end XM
end
section
def lw_okq (q : MethodName × Nat) : Prop := (q.1.cls ≠ "java/lang/invoke/MethodHandle" ∧ q.1.cls ≠ "java/lang/invoke/VarHandle") ∧ Cond.instantiable q.1.cls q.2 ∈ tables_1 ∧ Cond.privateMethod q.1 ∈ tables_1 ∧ Cond.instanceMethod q.1 ∈ tables_1
theorem lw_p0 : lw_okq (⟨"CoatGoals", "begun", "(LCoatGoals$Strip;II)I"⟩, 14) := ⟨⟨by decide +kernel, by decide +kernel⟩, List.mem_of_getElem? (i := 16) (by decide +kernel), List.mem_of_getElem? (i := 237) (by decide +kernel), List.mem_of_getElem? (i := 238) (by decide +kernel)⟩
theorem lw_p1 : lw_okq (⟨"CoatGoals", "refuse", "(I)I"⟩, 14) := ⟨⟨by decide +kernel, by decide +kernel⟩, List.mem_of_getElem? (i := 16) (by decide +kernel), List.mem_of_getElem? (i := 241) (by decide +kernel), List.mem_of_getElem? (i := 242) (by decide +kernel)⟩
theorem lw_p2 : lw_okq (⟨"CoatGoals", "answer", "(I)I"⟩, 14) := ⟨⟨by decide +kernel, by decide +kernel⟩, List.mem_of_getElem? (i := 16) (by decide +kernel), List.mem_of_getElem? (i := 260) (by decide +kernel), List.mem_of_getElem? (i := 261) (by decide +kernel)⟩
theorem lw_p3 : lw_okq (⟨"CoatGoals$Reader", "readSchool", "(LCoatGoals$Republic;)V"⟩, 3) := ⟨⟨by decide +kernel, by decide +kernel⟩, List.mem_of_getElem? (i := 303) (by decide +kernel), List.mem_of_getElem? (i := 328) (by decide +kernel), List.mem_of_getElem? (i := 329) (by decide +kernel)⟩
theorem lw_p4 : lw_okq (⟨"CoatGoals$Reader", "skipBlanks", "()V"⟩, 3) := ⟨⟨by decide +kernel, by decide +kernel⟩, List.mem_of_getElem? (i := 303) (by decide +kernel), List.mem_of_getElem? (i := 332) (by decide +kernel), List.mem_of_getElem? (i := 333) (by decide +kernel)⟩
theorem lw_p5 : lw_okq (⟨"CoatGoals$Reader", "letter", "(I)V"⟩, 3) := ⟨⟨by decide +kernel, by decide +kernel⟩, List.mem_of_getElem? (i := 303) (by decide +kernel), List.mem_of_getElem? (i := 336) (by decide +kernel), List.mem_of_getElem? (i := 337) (by decide +kernel)⟩
theorem lw_p6 : lw_okq (⟨"CoatGoals$Reader", "figure", "(II)I"⟩, 3) := ⟨⟨by decide +kernel, by decide +kernel⟩, List.mem_of_getElem? (i := 303) (by decide +kernel), List.mem_of_getElem? (i := 340) (by decide +kernel), List.mem_of_getElem? (i := 341) (by decide +kernel)⟩
theorem lw_p7 : lw_okq (⟨"CoatGoals$Reader", "readCoat", "(LCoatGoals$Republic;I)V"⟩, 3) := ⟨⟨by decide +kernel, by decide +kernel⟩, List.mem_of_getElem? (i := 303) (by decide +kernel), List.mem_of_getElem? (i := 344) (by decide +kernel), List.mem_of_getElem? (i := 345) (by decide +kernel)⟩
theorem lw_p8 : lw_okq (⟨"CoatGoals$Reader", "twoFigures", "(I)I"⟩, 3) := ⟨⟨by decide +kernel, by decide +kernel⟩, List.mem_of_getElem? (i := 303) (by decide +kernel), List.mem_of_getElem? (i := 348) (by decide +kernel), List.mem_of_getElem? (i := 349) (by decide +kernel)⟩
theorem lw_p9 : lw_okq (⟨"CoatGoals$Reader", "readPlayer", "(LCoatGoals$Republic;I)V"⟩, 3) := ⟨⟨by decide +kernel, by decide +kernel⟩, List.mem_of_getElem? (i := 303) (by decide +kernel), List.mem_of_getElem? (i := 352) (by decide +kernel), List.mem_of_getElem? (i := 353) (by decide +kernel)⟩
theorem lw_p10 : lw_okq (⟨"CoatGoals$Republic", "note", "(III)V"⟩, 14) := ⟨⟨by decide +kernel, by decide +kernel⟩, List.mem_of_getElem? (i := 26) (by decide +kernel), List.mem_of_getElem? (i := 463) (by decide +kernel), List.mem_of_getElem? (i := 464) (by decide +kernel)⟩
theorem lw_p11 : lw_okq (⟨"CoatGoals$Republic", "addGoals", "(II)V"⟩, 14) := ⟨⟨by decide +kernel, by decide +kernel⟩, List.mem_of_getElem? (i := 26) (by decide +kernel), List.mem_of_getElem? (i := 467) (by decide +kernel), List.mem_of_getElem? (i := 468) (by decide +kernel)⟩
theorem lw_p12 : lw_okq (⟨"CoatGoals$Republic", "takeBackOne", "(III)V"⟩, 14) := ⟨⟨by decide +kernel, by decide +kernel⟩, List.mem_of_getElem? (i := 26) (by decide +kernel), List.mem_of_getElem? (i := 516) (by decide +kernel), List.mem_of_getElem? (i := 517) (by decide +kernel)⟩
theorem lw_p13 : lw_okq (⟨"CoatGoals", "isKept", "(I)Z"⟩, 14) := ⟨⟨by decide +kernel, by decide +kernel⟩, List.mem_of_getElem? (i := 16) (by decide +kernel), List.mem_of_getElem? (i := 528) (by decide +kernel), List.mem_of_getElem? (i := 529) (by decide +kernel)⟩
theorem lw_p14 : lw_okq (⟨"CoatGoals$Amendment", "leads", "(IIII)Z"⟩, 3) := ⟨⟨by decide +kernel, by decide +kernel⟩, List.mem_of_getElem? (i := 121) (by decide +kernel), List.mem_of_getElem? (i := 591) (by decide +kernel), List.mem_of_getElem? (i := 592) (by decide +kernel)⟩
theorem lw_p15 : lw_okq (⟨"CoatGoals", "refusedGuess", "(II)I"⟩, 14) := ⟨⟨by decide +kernel, by decide +kernel⟩, List.mem_of_getElem? (i := 16) (by decide +kernel), List.mem_of_getElem? (i := 603) (by decide +kernel), List.mem_of_getElem? (i := 604) (by decide +kernel)⟩
def lw_privs_1 : List (MethodName × Nat) := [(⟨"CoatGoals", "begun", "(LCoatGoals$Strip;II)I"⟩, 14), (⟨"CoatGoals", "refuse", "(I)I"⟩, 14), (⟨"CoatGoals", "answer", "(I)I"⟩, 14), (⟨"CoatGoals$Reader", "readSchool", "(LCoatGoals$Republic;)V"⟩, 3), (⟨"CoatGoals$Reader", "skipBlanks", "()V"⟩, 3), (⟨"CoatGoals$Reader", "letter", "(I)V"⟩, 3), (⟨"CoatGoals$Reader", "figure", "(II)I"⟩, 3), (⟨"CoatGoals$Reader", "readCoat", "(LCoatGoals$Republic;I)V"⟩, 3), (⟨"CoatGoals$Reader", "twoFigures", "(I)I"⟩, 3), (⟨"CoatGoals$Reader", "readPlayer", "(LCoatGoals$Republic;I)V"⟩, 3), (⟨"CoatGoals$Republic", "note", "(III)V"⟩, 14), (⟨"CoatGoals$Republic", "addGoals", "(II)V"⟩, 14), (⟨"CoatGoals$Republic", "takeBackOne", "(III)V"⟩, 14), (⟨"CoatGoals", "isKept", "(I)Z"⟩, 14), (⟨"CoatGoals$Amendment", "leads", "(IIII)Z"⟩, 3), (⟨"CoatGoals", "refusedGuess", "(II)I"⟩, 14)]
theorem lw_r1 : ∀ q ∈ lw_privs_1, lw_okq q := List.forall_mem_cons.mpr ⟨lw_p0, List.forall_mem_cons.mpr ⟨lw_p1, List.forall_mem_cons.mpr ⟨lw_p2, List.forall_mem_cons.mpr ⟨lw_p3, List.forall_mem_cons.mpr ⟨lw_p4, List.forall_mem_cons.mpr ⟨lw_p5, List.forall_mem_cons.mpr ⟨lw_p6, List.forall_mem_cons.mpr ⟨lw_p7, List.forall_mem_cons.mpr ⟨lw_p8, List.forall_mem_cons.mpr ⟨lw_p9, List.forall_mem_cons.mpr ⟨lw_p10, List.forall_mem_cons.mpr ⟨lw_p11, List.forall_mem_cons.mpr ⟨lw_p12, List.forall_mem_cons.mpr ⟨lw_p13, List.forall_mem_cons.mpr ⟨lw_p14, List.forall_mem_cons.mpr ⟨lw_p15, fun _ h => absurd h List.not_mem_nil⟩⟩⟩⟩⟩⟩⟩⟩⟩⟩⟩⟩⟩⟩⟩⟩
theorem lw_p16 : lw_okq (⟨"CoatGoals$Guesses", "addPair", "(III)V"⟩, 3) := ⟨⟨by decide +kernel, by decide +kernel⟩, List.mem_of_getElem? (i := 147) (by decide +kernel), List.mem_of_getElem? (i := 622) (by decide +kernel), List.mem_of_getElem? (i := 623) (by decide +kernel)⟩
theorem lw_p17 : lw_okq (⟨"CoatGoals", "tell", "(JJ)V"⟩, 14) := ⟨⟨by decide +kernel, by decide +kernel⟩, List.mem_of_getElem? (i := 16) (by decide +kernel), List.mem_of_getElem? (i := 626) (by decide +kernel), List.mem_of_getElem? (i := 627) (by decide +kernel)⟩
theorem lw_p18 : lw_okq (⟨"CoatGoals", "refusedTrace", "(II)I"⟩, 14) := ⟨⟨by decide +kernel, by decide +kernel⟩, List.mem_of_getElem? (i := 16) (by decide +kernel), List.mem_of_getElem? (i := 656) (by decide +kernel), List.mem_of_getElem? (i := 657) (by decide +kernel)⟩
theorem lw_p19 : lw_okq (⟨"CoatGoals", "weightOf", "(II)J"⟩, 14) := ⟨⟨by decide +kernel, by decide +kernel⟩, List.mem_of_getElem? (i := 16) (by decide +kernel), List.mem_of_getElem? (i := 700) (by decide +kernel), List.mem_of_getElem? (i := 701) (by decide +kernel)⟩
theorem lw_p20 : lw_okq (⟨"CoatGoals", "doByLot", "(I)V"⟩, 14) := ⟨⟨by decide +kernel, by decide +kernel⟩, List.mem_of_getElem? (i := 16) (by decide +kernel), List.mem_of_getElem? (i := 715) (by decide +kernel), List.mem_of_getElem? (i := 716) (by decide +kernel)⟩
theorem lw_p21 : lw_okq (⟨"CoatGoals", "keptMany", "()I"⟩, 14) := ⟨⟨by decide +kernel, by decide +kernel⟩, List.mem_of_getElem? (i := 16) (by decide +kernel), List.mem_of_getElem? (i := 738) (by decide +kernel), List.mem_of_getElem? (i := 739) (by decide +kernel)⟩
theorem lw_p22 : lw_okq (⟨"CoatGoals$Republic", "manyOf", "(I)I"⟩, 14) := ⟨⟨by decide +kernel, by decide +kernel⟩, List.mem_of_getElem? (i := 26) (by decide +kernel), List.mem_of_getElem? (i := 746) (by decide +kernel), List.mem_of_getElem? (i := 747) (by decide +kernel)⟩
theorem lw_p23 : lw_okq (⟨"CoatGoalsModel", "found", "(I)I"⟩, 21) := ⟨⟨by decide +kernel, by decide +kernel⟩, List.mem_of_getElem? (i := 771) (by decide +kernel), List.mem_of_getElem? (i := 851) (by decide +kernel), List.mem_of_getElem? (i := 852) (by decide +kernel)⟩
theorem lw_p24 : lw_okq (⟨"CoatGoalsModel", "tells", "(I)I"⟩, 21) := ⟨⟨by decide +kernel, by decide +kernel⟩, List.mem_of_getElem? (i := 771) (by decide +kernel), List.mem_of_getElem? (i := 859) (by decide +kernel), List.mem_of_getElem? (i := 860) (by decide +kernel)⟩
theorem lw_p25 : lw_okq (⟨"CoatGoalsModel", "hasPart", "(III)Z"⟩, 21) := ⟨⟨by decide +kernel, by decide +kernel⟩, List.mem_of_getElem? (i := 771) (by decide +kernel), List.mem_of_getElem? (i := 875) (by decide +kernel), List.mem_of_getElem? (i := 876) (by decide +kernel)⟩
theorem lw_p26 : lw_okq (⟨"CoatGoalsModel", "reads", "(I)I"⟩, 21) := ⟨⟨by decide +kernel, by decide +kernel⟩, List.mem_of_getElem? (i := 771) (by decide +kernel), List.mem_of_getElem? (i := 898) (by decide +kernel), List.mem_of_getElem? (i := 899) (by decide +kernel)⟩
theorem lw_p27 : lw_okq (⟨"CoatGoalsModel", "blanks", "(I)V"⟩, 21) := ⟨⟨by decide +kernel, by decide +kernel⟩, List.mem_of_getElem? (i := 771) (by decide +kernel), List.mem_of_getElem? (i := 902) (by decide +kernel), List.mem_of_getElem? (i := 903) (by decide +kernel)⟩
theorem lw_p28 : lw_okq (⟨"CoatGoalsModel", "look", "(I)I"⟩, 21) := ⟨⟨by decide +kernel, by decide +kernel⟩, List.mem_of_getElem? (i := 771) (by decide +kernel), List.mem_of_getElem? (i := 906) (by decide +kernel), List.mem_of_getElem? (i := 907) (by decide +kernel)⟩
theorem lw_p29 : lw_okq (⟨"CoatGoalsModel", "letter", "(II)V"⟩, 21) := ⟨⟨by decide +kernel, by decide +kernel⟩, List.mem_of_getElem? (i := 771) (by decide +kernel), List.mem_of_getElem? (i := 910) (by decide +kernel), List.mem_of_getElem? (i := 911) (by decide +kernel)⟩
theorem lw_p30 : lw_okq (⟨"CoatGoalsModel", "fails", "(I)V"⟩, 21) := ⟨⟨by decide +kernel, by decide +kernel⟩, List.mem_of_getElem? (i := 771) (by decide +kernel), List.mem_of_getElem? (i := 914) (by decide +kernel), List.mem_of_getElem? (i := 915) (by decide +kernel)⟩
theorem lw_p31 : lw_okq (⟨"CoatGoalsModel", "figure", "(III)I"⟩, 21) := ⟨⟨by decide +kernel, by decide +kernel⟩, List.mem_of_getElem? (i := 771) (by decide +kernel), List.mem_of_getElem? (i := 918) (by decide +kernel), List.mem_of_getElem? (i := 919) (by decide +kernel)⟩
def lw_privs_2 : List (MethodName × Nat) := [(⟨"CoatGoals$Guesses", "addPair", "(III)V"⟩, 3), (⟨"CoatGoals", "tell", "(JJ)V"⟩, 14), (⟨"CoatGoals", "refusedTrace", "(II)I"⟩, 14), (⟨"CoatGoals", "weightOf", "(II)J"⟩, 14), (⟨"CoatGoals", "doByLot", "(I)V"⟩, 14), (⟨"CoatGoals", "keptMany", "()I"⟩, 14), (⟨"CoatGoals$Republic", "manyOf", "(I)I"⟩, 14), (⟨"CoatGoalsModel", "found", "(I)I"⟩, 21), (⟨"CoatGoalsModel", "tells", "(I)I"⟩, 21), (⟨"CoatGoalsModel", "hasPart", "(III)Z"⟩, 21), (⟨"CoatGoalsModel", "reads", "(I)I"⟩, 21), (⟨"CoatGoalsModel", "blanks", "(I)V"⟩, 21), (⟨"CoatGoalsModel", "look", "(I)I"⟩, 21), (⟨"CoatGoalsModel", "letter", "(II)V"⟩, 21), (⟨"CoatGoalsModel", "fails", "(I)V"⟩, 21), (⟨"CoatGoalsModel", "figure", "(III)I"⟩, 21)]
theorem lw_r2 : ∀ q ∈ lw_privs_2, lw_okq q := List.forall_mem_cons.mpr ⟨lw_p16, List.forall_mem_cons.mpr ⟨lw_p17, List.forall_mem_cons.mpr ⟨lw_p18, List.forall_mem_cons.mpr ⟨lw_p19, List.forall_mem_cons.mpr ⟨lw_p20, List.forall_mem_cons.mpr ⟨lw_p21, List.forall_mem_cons.mpr ⟨lw_p22, List.forall_mem_cons.mpr ⟨lw_p23, List.forall_mem_cons.mpr ⟨lw_p24, List.forall_mem_cons.mpr ⟨lw_p25, List.forall_mem_cons.mpr ⟨lw_p26, List.forall_mem_cons.mpr ⟨lw_p27, List.forall_mem_cons.mpr ⟨lw_p28, List.forall_mem_cons.mpr ⟨lw_p29, List.forall_mem_cons.mpr ⟨lw_p30, List.forall_mem_cons.mpr ⟨lw_p31, fun _ h => absurd h List.not_mem_nil⟩⟩⟩⟩⟩⟩⟩⟩⟩⟩⟩⟩⟩⟩⟩⟩
theorem lw_p32 : lw_okq (⟨"CoatGoalsModel", "place", "(II)I"⟩, 21) := ⟨⟨by decide +kernel, by decide +kernel⟩, List.mem_of_getElem? (i := 771) (by decide +kernel), List.mem_of_getElem? (i := 922) (by decide +kernel), List.mem_of_getElem? (i := 923) (by decide +kernel)⟩
theorem lw_p33 : lw_okq (⟨"CoatGoalsModel", "readsPlayer", "(I)V"⟩, 21) := ⟨⟨by decide +kernel, by decide +kernel⟩, List.mem_of_getElem? (i := 771) (by decide +kernel), List.mem_of_getElem? (i := 926) (by decide +kernel), List.mem_of_getElem? (i := 927) (by decide +kernel)⟩
theorem lw_p34 : lw_okq (⟨"CoatGoalsModel", "isPlayer", "(I)Z"⟩, 21) := ⟨⟨by decide +kernel, by decide +kernel⟩, List.mem_of_getElem? (i := 771) (by decide +kernel), List.mem_of_getElem? (i := 944) (by decide +kernel), List.mem_of_getElem? (i := 945) (by decide +kernel)⟩
theorem lw_p35 : lw_okq (⟨"CoatGoalsModel", "tellsOf", "(II)I"⟩, 21) := ⟨⟨by decide +kernel, by decide +kernel⟩, List.mem_of_getElem? (i := 771) (by decide +kernel), List.mem_of_getElem? (i := 948) (by decide +kernel), List.mem_of_getElem? (i := 949) (by decide +kernel)⟩
theorem lw_p36 : lw_okq (⟨"CoatGoalsModel", "reached", "(I)I"⟩, 21) := ⟨⟨by decide +kernel, by decide +kernel⟩, List.mem_of_getElem? (i := 771) (by decide +kernel), List.mem_of_getElem? (i := 989) (by decide +kernel), List.mem_of_getElem? (i := 990) (by decide +kernel)⟩
theorem lw_p37 : lw_okq (⟨"CoatGoalsModel", "ballsOf", "(III)I"⟩, 21) := ⟨⟨by decide +kernel, by decide +kernel⟩, List.mem_of_getElem? (i := 771) (by decide +kernel), List.mem_of_getElem? (i := 993) (by decide +kernel), List.mem_of_getElem? (i := 994) (by decide +kernel)⟩
theorem lw_p38 : lw_okq (⟨"CoatGoalsModel", "isAny", "()Z"⟩, 21) := ⟨⟨by decide +kernel, by decide +kernel⟩, List.mem_of_getElem? (i := 771) (by decide +kernel), List.mem_of_getElem? (i := 1001) (by decide +kernel), List.mem_of_getElem? (i := 1002) (by decide +kernel)⟩
theorem lw_p39 : lw_okq (⟨"CoatGoalsModel", "notes", "()V"⟩, 21) := ⟨⟨by decide +kernel, by decide +kernel⟩, List.mem_of_getElem? (i := 771) (by decide +kernel), List.mem_of_getElem? (i := 1005) (by decide +kernel), List.mem_of_getElem? (i := 1006) (by decide +kernel)⟩
theorem lw_p40 : lw_okq (⟨"CoatGoalsModel", "moves", "(I)I"⟩, 21) := ⟨⟨by decide +kernel, by decide +kernel⟩, List.mem_of_getElem? (i := 771) (by decide +kernel), List.mem_of_getElem? (i := 1068) (by decide +kernel), List.mem_of_getElem? (i := 1069) (by decide +kernel)⟩
theorem lw_p41 : lw_okq (⟨"CoatGoalsModel", "wrongIn", "(III)I"⟩, 21) := ⟨⟨by decide +kernel, by decide +kernel⟩, List.mem_of_getElem? (i := 771) (by decide +kernel), List.mem_of_getElem? (i := 1079) (by decide +kernel), List.mem_of_getElem? (i := 1080) (by decide +kernel)⟩
theorem lw_p42 : lw_okq (⟨"CoatGoalsModel", "areSo", "(IIII)Z"⟩, 21) := ⟨⟨by decide +kernel, by decide +kernel⟩, List.mem_of_getElem? (i := 771) (by decide +kernel), List.mem_of_getElem? (i := 1083) (by decide +kernel), List.mem_of_getElem? (i := 1084) (by decide +kernel)⟩
theorem lw_p43 : lw_okq (⟨"CoatGoalsModel", "insBy", "(III)I"⟩, 21) := ⟨⟨by decide +kernel, by decide +kernel⟩, List.mem_of_getElem? (i := 771) (by decide +kernel), List.mem_of_getElem? (i := 1092) (by decide +kernel), List.mem_of_getElem? (i := 1093) (by decide +kernel)⟩
theorem lw_p44 : lw_okq (⟨"CoatGoalsModel", "partOf", "(III)I"⟩, 21) := ⟨⟨by decide +kernel, by decide +kernel⟩, List.mem_of_getElem? (i := 771) (by decide +kernel), List.mem_of_getElem? (i := 1100) (by decide +kernel), List.mem_of_getElem? (i := 1101) (by decide +kernel)⟩
theorem lw_p45 : lw_okq (⟨"CoatGoalsModel", "landSo", "(IIII)Z"⟩, 21) := ⟨⟨by decide +kernel, by decide +kernel⟩, List.mem_of_getElem? (i := 771) (by decide +kernel), List.mem_of_getElem? (i := 1111) (by decide +kernel), List.mem_of_getElem? (i := 1112) (by decide +kernel)⟩
theorem lw_p46 : lw_okq (⟨"CoatGoalsModel", "strengthOf", "(I)I"⟩, 21) := ⟨⟨by decide +kernel, by decide +kernel⟩, List.mem_of_getElem? (i := 771) (by decide +kernel), List.mem_of_getElem? (i := 1123) (by decide +kernel), List.mem_of_getElem? (i := 1124) (by decide +kernel)⟩
theorem lw_p47 : lw_okq (⟨"CoatGoalsModel", "comes", "(II)I"⟩, 21) := ⟨⟨by decide +kernel, by decide +kernel⟩, List.mem_of_getElem? (i := 771) (by decide +kernel), List.mem_of_getElem? (i := 1135) (by decide +kernel), List.mem_of_getElem? (i := 1136) (by decide +kernel)⟩
def lw_privs_3 : List (MethodName × Nat) := [(⟨"CoatGoalsModel", "place", "(II)I"⟩, 21), (⟨"CoatGoalsModel", "readsPlayer", "(I)V"⟩, 21), (⟨"CoatGoalsModel", "isPlayer", "(I)Z"⟩, 21), (⟨"CoatGoalsModel", "tellsOf", "(II)I"⟩, 21), (⟨"CoatGoalsModel", "reached", "(I)I"⟩, 21), (⟨"CoatGoalsModel", "ballsOf", "(III)I"⟩, 21), (⟨"CoatGoalsModel", "isAny", "()Z"⟩, 21), (⟨"CoatGoalsModel", "notes", "()V"⟩, 21), (⟨"CoatGoalsModel", "moves", "(I)I"⟩, 21), (⟨"CoatGoalsModel", "wrongIn", "(III)I"⟩, 21), (⟨"CoatGoalsModel", "areSo", "(IIII)Z"⟩, 21), (⟨"CoatGoalsModel", "insBy", "(III)I"⟩, 21), (⟨"CoatGoalsModel", "partOf", "(III)I"⟩, 21), (⟨"CoatGoalsModel", "landSo", "(IIII)Z"⟩, 21), (⟨"CoatGoalsModel", "strengthOf", "(I)I"⟩, 21), (⟨"CoatGoalsModel", "comes", "(II)I"⟩, 21)]
theorem lw_r3 : ∀ q ∈ lw_privs_3, lw_okq q := List.forall_mem_cons.mpr ⟨lw_p32, List.forall_mem_cons.mpr ⟨lw_p33, List.forall_mem_cons.mpr ⟨lw_p34, List.forall_mem_cons.mpr ⟨lw_p35, List.forall_mem_cons.mpr ⟨lw_p36, List.forall_mem_cons.mpr ⟨lw_p37, List.forall_mem_cons.mpr ⟨lw_p38, List.forall_mem_cons.mpr ⟨lw_p39, List.forall_mem_cons.mpr ⟨lw_p40, List.forall_mem_cons.mpr ⟨lw_p41, List.forall_mem_cons.mpr ⟨lw_p42, List.forall_mem_cons.mpr ⟨lw_p43, List.forall_mem_cons.mpr ⟨lw_p44, List.forall_mem_cons.mpr ⟨lw_p45, List.forall_mem_cons.mpr ⟨lw_p46, List.forall_mem_cons.mpr ⟨lw_p47, fun _ h => absurd h List.not_mem_nil⟩⟩⟩⟩⟩⟩⟩⟩⟩⟩⟩⟩⟩⟩⟩⟩
theorem lw_p48 : lw_okq (⟨"CoatGoalsModel", "isInBy", "(II)Z"⟩, 21) := ⟨⟨by decide +kernel, by decide +kernel⟩, List.mem_of_getElem? (i := 771) (by decide +kernel), List.mem_of_getElem? (i := 1144) (by decide +kernel), List.mem_of_getElem? (i := 1145) (by decide +kernel)⟩
theorem lw_p49 : lw_okq (⟨"CoatGoalsModel", "told", "(JJ)I"⟩, 21) := ⟨⟨by decide +kernel, by decide +kernel⟩, List.mem_of_getElem? (i := 771) (by decide +kernel), List.mem_of_getElem? (i := 1148) (by decide +kernel), List.mem_of_getElem? (i := 1149) (by decide +kernel)⟩
theorem lw_p50 : lw_okq (⟨"CoatGoalsModel", "lot", "(J)V"⟩, 21) := ⟨⟨by decide +kernel, by decide +kernel⟩, List.mem_of_getElem? (i := 771) (by decide +kernel), List.mem_of_getElem? (i := 1163) (by decide +kernel), List.mem_of_getElem? (i := 1164) (by decide +kernel)⟩
theorem lw_p51 : lw_okq (⟨"CoatGoalsModel", "kindsThere", "(I)I"⟩, 21) := ⟨⟨by decide +kernel, by decide +kernel⟩, List.mem_of_getElem? (i := 771) (by decide +kernel), List.mem_of_getElem? (i := 1187) (by decide +kernel), List.mem_of_getElem? (i := 1188) (by decide +kernel)⟩
def lw_privs_4 : List (MethodName × Nat) := [(⟨"CoatGoalsModel", "isInBy", "(II)Z"⟩, 21), (⟨"CoatGoalsModel", "told", "(JJ)I"⟩, 21), (⟨"CoatGoalsModel", "lot", "(J)V"⟩, 21), (⟨"CoatGoalsModel", "kindsThere", "(I)I"⟩, 21)]
theorem lw_r4 : ∀ q ∈ lw_privs_4, lw_okq q := List.forall_mem_cons.mpr ⟨lw_p48, List.forall_mem_cons.mpr ⟨lw_p49, List.forall_mem_cons.mpr ⟨lw_p50, List.forall_mem_cons.mpr ⟨lw_p51, fun _ h => absurd h List.not_mem_nil⟩⟩⟩⟩
def lw_privs : List (MethodName × Nat) := lw_privs_1 ++ (lw_privs_2 ++ (lw_privs_3 ++ (lw_privs_4)))
def lw_tbl : List Cond := k2_sels lw_privs ++ tables_1
theorem lw_privs_ok : ∀ q ∈ lw_privs, lw_okq q := by
  show ∀ q ∈ lw_privs_1 ++ (lw_privs_2 ++ (lw_privs_3 ++ (lw_privs_4))), lw_okq q
  exact List.forall_mem_append.mpr ⟨lw_r1, List.forall_mem_append.mpr ⟨lw_r2, List.forall_mem_append.mpr ⟨lw_r3, lw_r4⟩⟩⟩
end
section
def RX0 : String := "CoatGoals$Amendment"
def TX0 : u_T := fun k => match k with
  | 0 => ("CoatGoals$Amendment", "scored", "[I", true)
  | 1 => ("CoatGoals$Amendment", "bestLow", "I", false)
  | _ => ("CoatGoals$Amendment", "bestHigh", "I", false)
def tyX0 : Nat → FieldType := fun k => match k with
  | 0 => .array .int
  | 1 => .int
  | _ => .int
abbrev wsX00 : List Cond := u_ws RX0 TX0 3
theorem nmX0 : ∀ a, a < 3 → ∀ b, b < 3 → a ≠ b → (TX0 a).2.1 ≠ (TX0 b).2.1 := by decide +kernel
theorem tyX0_ok : ∀ k, k < 3 → parseFieldDescriptor (TX0 k).2.2.1 = some (tyX0 k) := by decide +kernel
abbrev cX0_init : ByteArray := prog_2_method_1_code
def yX0_init : MethodName := ⟨RX0, "<init>", "()V"⟩
abbrev cX0_weigh : ByteArray := prog_2_method_2_code
def yX0_weigh : MethodName := ⟨RX0, "weigh", "(LCoatGoals$Republic;LCoatGoals$Balls;)V"⟩
abbrev cX0_goalsBy : ByteArray := prog_2_method_3_code
def yX0_goalsBy : MethodName := ⟨RX0, "goalsBy", "(LCoatGoals$Republic;LCoatGoals$Balls;II)I"⟩
abbrev cX0_first : ByteArray := prog_2_method_4_code
def yX0_first : MethodName := ⟨RX0, "first", "(I)I"⟩
abbrev cX0_second : ByteArray := prog_2_method_5_code
def yX0_second : MethodName := ⟨RX0, "second", "(I)I"⟩
abbrev cX0_stepsOf : ByteArray := prog_2_method_6_code
def yX0_stepsOf : MethodName := ⟨RX0, "stepsOf", "(I)I"⟩
abbrev cX0_fewest : ByteArray := prog_2_method_7_code
def yX0_fewest : MethodName := ⟨RX0, "fewest", "(II)I"⟩
abbrev cX0_leads : ByteArray := prog_2_method_8_code
def yX0_leads : MethodName := ⟨RX0, "leads", "(IIII)Z"⟩
abbrev cX0_write : ByteArray := prog_2_method_9_code
def yX0_write : MethodName := ⟨RX0, "write", "([I)V"⟩
def RX1 : String := "CoatGoals$Balls"
def TX1 : u_T := fun k => match k with
  | 0 => ("CoatGoals$Balls", "school", "I", false)
  | 1 => ("CoatGoals$Balls", "many", "I", false)
  | 2 => ("CoatGoals$Balls", "end", "[I", true)
  | 3 => ("CoatGoals$Balls", "bit", "[I", true)
  | _ => ("CoatGoals$Balls", "open", "[I", true)
def tyX1 : Nat → FieldType := fun k => match k with
  | 0 => .int
  | 1 => .int
  | 2 => .array .int
  | 3 => .array .int
  | _ => .array .int
abbrev wsX10 : List Cond := u_ws RX1 TX1 5
theorem nmX1 : ∀ a, a < 5 → ∀ b, b < 5 → a ≠ b → (TX1 a).2.1 ≠ (TX1 b).2.1 := by decide +kernel
theorem tyX1_ok : ∀ k, k < 5 → parseFieldDescriptor (TX1 k).2.2.1 = some (tyX1 k) := by decide +kernel
abbrev cX1_init : ByteArray := prog_3_method_1_code
def yX1_init : MethodName := ⟨RX1, "<init>", "()V"⟩
abbrev cX1_take : ByteArray := prog_3_method_2_code
def yX1_take : MethodName := ⟨RX1, "take", "(LCoatGoals$Republic;)V"⟩
abbrev cX1_goalsAt : ByteArray := prog_3_method_3_code
def yX1_goalsAt : MethodName := ⟨RX1, "goalsAt", "(III)I"⟩
def RX2 : String := "CoatGoals$Duel"
def TX2 : u_T := fun k => match k with
  | _ => ("CoatGoals$Duel", "coat", "[I", true)
def tyX2 : Nat → FieldType := fun k => match k with
  | _ => .array .int
abbrev wsX20 : List Cond := u_ws RX2 TX2 1
theorem nmX2 : ∀ a, a < 1 → ∀ b, b < 1 → a ≠ b → (TX2 a).2.1 ≠ (TX2 b).2.1 := by decide +kernel
theorem tyX2_ok : ∀ k, k < 1 → parseFieldDescriptor (TX2 k).2.2.1 = some (tyX2 k) := by decide +kernel
abbrev cX2_init : ByteArray := prog_4_method_1_code
def yX2_init : MethodName := ⟨RX2, "<init>", "()V"⟩
abbrev cX2_outcome : ByteArray := prog_4_method_2_code
def yX2_outcome : MethodName := ⟨RX2, "outcome", "(LCoatGoals$Republic;LCoatGoals$Balls;I)I"⟩
abbrev cX2_best : ByteArray := prog_4_method_3_code
def yX2_best : MethodName := ⟨RX2, "best", "(LCoatGoals$Balls;[IIIII)I"⟩
def RX3 : String := "CoatGoals$Guesses"
def TX3 : u_T := fun k => match k with
  | 0 => ("CoatGoals$Guesses", "pairs", "I", false)
  | 1 => ("CoatGoals$Guesses", "first", "I", false)
  | _ => ("CoatGoals$Guesses", "inWith", "[I", true)
def tyX3 : Nat → FieldType := fun k => match k with
  | 0 => .int
  | 1 => .int
  | _ => .array .int
abbrev wsX30 : List Cond := u_ws RX3 TX3 3
theorem nmX3 : ∀ a, a < 3 → ∀ b, b < 3 → a ≠ b → (TX3 a).2.1 ≠ (TX3 b).2.1 := by decide +kernel
theorem tyX3_ok : ∀ k, k < 3 → parseFieldDescriptor (TX3 k).2.2.1 = some (tyX3 k) := by decide +kernel
abbrev cX3_init : ByteArray := prog_5_method_1_code
def yX3_init : MethodName := ⟨RX3, "<init>", "()V"⟩
abbrev cX3_weigh : ByteArray := prog_5_method_2_code
def yX3_weigh : MethodName := ⟨RX3, "weigh", "(LCoatGoals$Republic;ILCoatGoals$Strip;)V"⟩
abbrev cX3_fits : ByteArray := prog_5_method_3_code
def yX3_fits : MethodName := ⟨RX3, "fits", "(ILCoatGoals$Strip;)Z"⟩
abbrev cX3_addPair : ByteArray := prog_5_method_4_code
def yX3_addPair : MethodName := ⟨RX3, "addPair", "(III)V"⟩
abbrev cX3_placesInWith : ByteArray := prog_5_method_5_code
def yX3_placesInWith : MethodName := ⟨RX3, "placesInWith", "(I)I"⟩
abbrev cX3_greaterPart : ByteArray := prog_5_method_6_code
def yX3_greaterPart : MethodName := ⟨RX3, "greaterPart", "(I)I"⟩
abbrev cX3_tellingPlace : ByteArray := prog_5_method_7_code
def yX3_tellingPlace : MethodName := ⟨RX3, "tellingPlace", "()I"⟩
def RX4 : String := "CoatGoals$Kinds"
def TX4 : u_T := fun k => match k with
  | _ => ("", "", "", false)
def tyX4 : Nat → FieldType := fun k => match k with
  | _ => .int
abbrev wsX40 : List Cond := u_ws RX4 TX4 0
theorem nmX4 : ∀ a, a < 0 → ∀ b, b < 0 → a ≠ b → (TX4 a).2.1 ≠ (TX4 b).2.1 := by decide +kernel
theorem tyX4_ok : ∀ k, k < 0 → parseFieldDescriptor (TX4 k).2.2.1 = some (tyX4 k) := by decide +kernel
abbrev cX4_ofLetter : ByteArray := prog_6_method_2_code
def yX4_ofLetter : MethodName := ⟨RX4, "ofLetter", "(I)I"⟩
abbrev cX4_isOf : ByteArray := prog_6_method_3_code
def yX4_isOf : MethodName := ⟨RX4, "isOf", "(II)Z"⟩
abbrev cX4_landing : ByteArray := prog_6_method_4_code
def yX4_landing : MethodName := ⟨RX4, "landing", "(IIII)I"⟩
abbrev cX4_reach : ByteArray := prog_6_method_5_code
def yX4_reach : MethodName := ⟨RX4, "reach", "(II)I"⟩
def RX5 : String := "CoatGoals$Reader"
def TX5 : u_T := fun k => match k with
  | 0 => ("CoatGoals$Reader", "text", "LCoatGoals$Strip;", true)
  | 1 => ("CoatGoals$Reader", "at", "I", false)
  | _ => ("CoatGoals$Reader", "wrong", "I", false)
def tyX5 : Nat → FieldType := fun k => match k with
  | 0 => .object "CoatGoals$Strip"
  | 1 => .int
  | _ => .int
abbrev wsX50 : List Cond := u_ws RX5 TX5 3
theorem nmX5 : ∀ a, a < 3 → ∀ b, b < 3 → a ≠ b → (TX5 a).2.1 ≠ (TX5 b).2.1 := by decide +kernel
theorem tyX5_ok : ∀ k, k < 3 → parseFieldDescriptor (TX5 k).2.2.1 = some (tyX5 k) := by decide +kernel
abbrev cX5_init : ByteArray := prog_7_method_1_code
def yX5_init : MethodName := ⟨RX5, "<init>", "(LCoatGoals$Strip;)V"⟩
abbrev cX5_read : ByteArray := prog_7_method_2_code
def yX5_read : MethodName := ⟨RX5, "read", "(LCoatGoals$Republic;)I"⟩
abbrev cX5_readSchool : ByteArray := prog_7_method_3_code
def yX5_readSchool : MethodName := ⟨RX5, "readSchool", "(LCoatGoals$Republic;)V"⟩
abbrev cX5_readCoat : ByteArray := prog_7_method_4_code
def yX5_readCoat : MethodName := ⟨RX5, "readCoat", "(LCoatGoals$Republic;I)V"⟩
abbrev cX5_readPlayer : ByteArray := prog_7_method_5_code
def yX5_readPlayer : MethodName := ⟨RX5, "readPlayer", "(LCoatGoals$Republic;I)V"⟩
abbrev cX5_skipBlanks : ByteArray := prog_7_method_6_code
def yX5_skipBlanks : MethodName := ⟨RX5, "skipBlanks", "()V"⟩
abbrev cX5_letter : ByteArray := prog_7_method_7_code
def yX5_letter : MethodName := ⟨RX5, "letter", "(I)V"⟩
abbrev cX5_figure : ByteArray := prog_7_method_8_code
def yX5_figure : MethodName := ⟨RX5, "figure", "(II)I"⟩
abbrev cX5_twoFigures : ByteArray := prog_7_method_9_code
def yX5_twoFigures : MethodName := ⟨RX5, "twoFigures", "(I)I"⟩
def RX6 : String := "CoatGoals$Republic"
def TX6 : u_T := fun k => match k with
  | 0 => ("CoatGoals$Republic", "school", "I", false)
  | 1 => ("CoatGoals$Republic", "players", "I", false)
  | 2 => ("CoatGoals$Republic", "terms", "I", false)
  | 3 => ("CoatGoals$Republic", "wet", "I", false)
  | 4 => ("CoatGoals$Republic", "deeds", "I", false)
  | 5 => ("CoatGoals$Republic", "coat", "[I", true)
  | 6 => ("CoatGoals$Republic", "goals", "[I", true)
  | 7 => ("CoatGoals$Republic", "kind", "[I", true)
  | 8 => ("CoatGoals$Republic", "side", "[I", true)
  | 9 => ("CoatGoals$Republic", "place", "[I", true)
  | 10 => ("CoatGoals$Republic", "strength", "[I", true)
  | 11 => ("CoatGoals$Republic", "deedSort", "[I", true)
  | 12 => ("CoatGoals$Republic", "deedOf", "[I", true)
  | _ => ("CoatGoals$Republic", "deedWas", "[I", true)
def tyX6 : Nat → FieldType := fun k => match k with
  | 0 => .int
  | 1 => .int
  | 2 => .int
  | 3 => .int
  | 4 => .int
  | 5 => .array .int
  | 6 => .array .int
  | 7 => .array .int
  | 8 => .array .int
  | 9 => .array .int
  | 10 => .array .int
  | 11 => .array .int
  | 12 => .array .int
  | _ => .array .int
abbrev wsX60 : List Cond := u_ws RX6 TX6 14
theorem nmX6 : ∀ a, a < 14 → ∀ b, b < 14 → a ≠ b → (TX6 a).2.1 ≠ (TX6 b).2.1 := by decide +kernel
theorem tyX6_ok : ∀ k, k < 14 → parseFieldDescriptor (TX6 k).2.2.1 = some (tyX6 k) := by decide +kernel
abbrev cX6_init : ByteArray := prog_8_method_1_code
def yX6_init : MethodName := ⟨RX6, "<init>", "()V"⟩
abbrev cX6_clear : ByteArray := prog_8_method_2_code
def yX6_clear : MethodName := ⟨RX6, "clear", "()V"⟩
abbrev cX6_take : ByteArray := prog_8_method_3_code
def yX6_take : MethodName := ⟨RX6, "take", "(LCoatGoals$Republic;)V"⟩
abbrev cX6_hasPlayer : ByteArray := prog_8_method_4_code
def yX6_hasPlayer : MethodName := ⟨RX6, "hasPlayer", "(I)Z"⟩
abbrev cX6_landingFrom : ByteArray := prog_8_method_5_code
def yX6_landingFrom : MethodName := ⟨RX6, "landingFrom", "(III)I"⟩
abbrev cX6_landing : ByteArray := prog_8_method_6_code
def yX6_landing : MethodName := ⟨RX6, "landing", "(I)I"⟩
abbrev cX6_ballBit : ByteArray := prog_8_method_7_code
def yX6_ballBit : MethodName := ⟨RX6, "ballBit", "(II)I"⟩
abbrev cX6_reached : ByteArray := prog_8_method_8_code
def yX6_reached : MethodName := ⟨RX6, "reached", "(I)I"⟩
abbrev cX6_openPlaces : ByteArray := prog_8_method_9_code
def yX6_openPlaces : MethodName := ⟨RX6, "openPlaces", "(I)I"⟩
abbrev cX6_inPlaces : ByteArray := prog_8_method_10_code
def yX6_inPlaces : MethodName := ⟨RX6, "inPlaces", "(I)I"⟩
abbrev cX6_ballsOf : ByteArray := prog_8_method_11_code
def yX6_ballsOf : MethodName := ⟨RX6, "ballsOf", "(II)I"⟩
abbrev cX6_scorers : ByteArray := prog_8_method_12_code
def yX6_scorers : MethodName := ⟨RX6, "scorers", "(I)I"⟩
abbrev cX6_membersOf : ByteArray := prog_8_method_13_code
def yX6_membersOf : MethodName := ⟨RX6, "membersOf", "(I)I"⟩
abbrev cX6_advantage : ByteArray := prog_8_method_14_code
def yX6_advantage : MethodName := ⟨RX6, "advantage", "(II)I"⟩
abbrev cX6_witnesses : ByteArray := prog_8_method_15_code
def yX6_witnesses : MethodName := ⟨RX6, "witnesses", "(I)I"⟩
abbrev cX6_strengthOf : ByteArray := prog_8_method_16_code
def yX6_strengthOf : MethodName := ⟨RX6, "strengthOf", "(I)I"⟩
abbrev cX6_fact : ByteArray := prog_8_method_17_code
def yX6_fact : MethodName := ⟨RX6, "fact", "(II)I"⟩
abbrev cX6_number : ByteArray := prog_8_method_18_code
def yX6_number : MethodName := ⟨RX6, "number", "(I)I"⟩
abbrev cX6_manyOf : ByteArray := prog_8_method_19_code
def yX6_manyOf : MethodName := ⟨RX6, "manyOf", "(I)I"⟩
abbrev cX6_endTerm : ByteArray := prog_8_method_20_code
def yX6_endTerm : MethodName := ⟨RX6, "endTerm", "(I)V"⟩
abbrev cX6_moveCoat : ByteArray := prog_8_method_21_code
def yX6_moveCoat : MethodName := ⟨RX6, "moveCoat", "(II)V"⟩
abbrev cX6_turnWeather : ByteArray := prog_8_method_22_code
def yX6_turnWeather : MethodName := ⟨RX6, "turnWeather", "(I)V"⟩
abbrev cX6_send : ByteArray := prog_8_method_23_code
def yX6_send : MethodName := ⟨RX6, "send", "(II)V"⟩
abbrev cX6_takeBack : ByteArray := prog_8_method_24_code
def yX6_takeBack : MethodName := ⟨RX6, "takeBack", "(I)I"⟩
abbrev cX6_takeBackOne : ByteArray := prog_8_method_25_code
def yX6_takeBackOne : MethodName := ⟨RX6, "takeBackOne", "(III)V"⟩
abbrev cX6_addGoals : ByteArray := prog_8_method_26_code
def yX6_addGoals : MethodName := ⟨RX6, "addGoals", "(II)V"⟩
abbrev cX6_note : ByteArray := prog_8_method_27_code
def yX6_note : MethodName := ⟨RX6, "note", "(III)V"⟩
def RX7 : String := "CoatGoals$Strip"
def TX7 : u_T := fun k => match k with
  | 0 => ("CoatGoals$Strip", "there", "Z", false)
  | 1 => ("CoatGoals$Strip", "size", "I", false)
  | _ => ("CoatGoals$Strip", "items", "[I", true)
def tyX7 : Nat → FieldType := fun k => match k with
  | 0 => .boolean
  | 1 => .int
  | _ => .array .int
abbrev wsX70 : List Cond := u_ws RX7 TX7 3
theorem nmX7 : ∀ a, a < 3 → ∀ b, b < 3 → a ≠ b → (TX7 a).2.1 ≠ (TX7 b).2.1 := by decide +kernel
theorem tyX7_ok : ∀ k, k < 3 → parseFieldDescriptor (TX7 k).2.2.1 = some (tyX7 k) := by decide +kernel
abbrev cX7_init : ByteArray := prog_9_method_1_code
def yX7_init : MethodName := ⟨RX7, "<init>", "(I)V"⟩
abbrev cX7_begin : ByteArray := prog_9_method_2_code
def yX7_begin : MethodName := ⟨RX7, "begin", "(II)V"⟩
abbrev cX7_findingAt : ByteArray := prog_9_method_3_code
def yX7_findingAt : MethodName := ⟨RX7, "findingAt", "(I)I"⟩
abbrev cX7_holds : ByteArray := prog_9_method_4_code
def yX7_holds : MethodName := ⟨RX7, "holds", "(II)Z"⟩
abbrev cX7_sum : ByteArray := prog_9_method_5_code
def yX7_sum : MethodName := ⟨RX7, "sum", "()J"⟩
abbrev cX7_findingOfPairs : ByteArray := prog_9_method_6_code
def yX7_findingOfPairs : MethodName := ⟨RX7, "findingOfPairs", "(II)I"⟩
abbrev cX7_digestOnto : ByteArray := prog_9_method_7_code
def yX7_digestOnto : MethodName := ⟨RX7, "digestOnto", "(J)J"⟩
def RX8 : String := "CoatGoals"
def TX8 : u_T := fun k => match k with
  | 0 => ("CoatGoals", "rows", "[LCoatGoals$Strip;", true)
  | 1 => ("CoatGoals", "texts", "[LCoatGoals$Strip;", true)
  | 2 => ("CoatGoals", "now", "LCoatGoals$Republic;", true)
  | 3 => ("CoatGoals", "draft", "LCoatGoals$Republic;", true)
  | 4 => ("CoatGoals", "kept", "[LCoatGoals$Republic;", true)
  | 5 => ("CoatGoals", "balls", "LCoatGoals$Balls;", true)
  | 6 => ("CoatGoals", "amendment", "LCoatGoals$Amendment;", true)
  | 7 => ("CoatGoals", "contest", "LCoatGoals$Duel;", true)
  | 8 => ("CoatGoals", "guesses", "LCoatGoals$Guesses;", true)
  | 9 => ("CoatGoals", "found", "[I", true)
  | 10 => ("CoatGoals", "latestFinding", "I", false)
  | 11 => ("CoatGoals", "latestAsked", "I", false)
  | 12 => ("CoatGoals", "latestUpper", "J", false)
  | _ => ("CoatGoals", "latestLower", "J", false)
def tyX8 : Nat → FieldType := fun k => match k with
  | 0 => .array (.object "CoatGoals$Strip")
  | 1 => .array (.object "CoatGoals$Strip")
  | 2 => .object "CoatGoals$Republic"
  | 3 => .object "CoatGoals$Republic"
  | 4 => .array (.object "CoatGoals$Republic")
  | 5 => .object "CoatGoals$Balls"
  | 6 => .object "CoatGoals$Amendment"
  | 7 => .object "CoatGoals$Duel"
  | 8 => .object "CoatGoals$Guesses"
  | 9 => .array .int
  | 10 => .int
  | 11 => .int
  | 12 => .long
  | _ => .long
abbrev wsX80 : List Cond := u_ws RX8 TX8 14
theorem nmX8 : ∀ a, a < 14 → ∀ b, b < 14 → a ≠ b → (TX8 a).2.1 ≠ (TX8 b).2.1 := by decide +kernel
theorem tyX8_ok : ∀ k, k < 14 → parseFieldDescriptor (TX8 k).2.2.1 = some (tyX8 k) := by decide +kernel
abbrev cX8_init : ByteArray := prog_1_method_1_code
def yX8_init : MethodName := ⟨RX8, "<init>", "()V"⟩
abbrev cX8_row : ByteArray := prog_1_method_2_code
def yX8_row : MethodName := ⟨RX8, "row", "(II)I"⟩
abbrev cX8_lay : ByteArray := prog_1_method_3_code
def yX8_lay : MethodName := ⟨RX8, "lay", "(III)I"⟩
abbrev cX8_at : ByteArray := prog_1_method_4_code
def yX8_at : MethodName := ⟨RX8, "at", "(II)I"⟩
abbrev cX8_tear : ByteArray := prog_1_method_5_code
def yX8_tear : MethodName := ⟨RX8, "tear", "(I)I"⟩
abbrev cX8_copy : ByteArray := prog_1_method_6_code
def yX8_copy : MethodName := ⟨RX8, "copy", "(IIIII)I"⟩
abbrev cX8_mean : ByteArray := prog_1_method_7_code
def yX8_mean : MethodName := ⟨RX8, "mean", "(I)I"⟩
abbrev cX8_text : ByteArray := prog_1_method_8_code
def yX8_text : MethodName := ⟨RX8, "text", "(II)I"⟩
abbrev cX8_put : ByteArray := prog_1_method_9_code
def yX8_put : MethodName := ⟨RX8, "put", "(III)I"⟩
abbrev cX8_fault : ByteArray := prog_1_method_10_code
def yX8_fault : MethodName := ⟨RX8, "fault", "(I)I"⟩
abbrev cX8_republic : ByteArray := prog_1_method_11_code
def yX8_republic : MethodName := ⟨RX8, "republic", "(I)I"⟩
abbrev cX8_player : ByteArray := prog_1_method_12_code
def yX8_player : MethodName := ⟨RX8, "player", "(II)I"⟩
abbrev cX8_mark : ByteArray := prog_1_method_13_code
def yX8_mark : MethodName := ⟨RX8, "mark", "(II)I"⟩
abbrev cX8_term : ByteArray := prog_1_method_14_code
def yX8_term : MethodName := ⟨RX8, "term", "()I"⟩
abbrev cX8_nudge : ByteArray := prog_1_method_15_code
def yX8_nudge : MethodName := ⟨RX8, "nudge", "(II)I"⟩
abbrev cX8_rain : ByteArray := prog_1_method_16_code
def yX8_rain : MethodName := ⟨RX8, "rain", "(I)I"⟩
abbrev cX8_stand : ByteArray := prog_1_method_17_code
def yX8_stand : MethodName := ⟨RX8, "stand", "(II)I"⟩
abbrev cX8_undo : ByteArray := prog_1_method_18_code
def yX8_undo : MethodName := ⟨RX8, "undo", "(I)I"⟩
abbrev cX8_keep : ByteArray := prog_1_method_19_code
def yX8_keep : MethodName := ⟨RX8, "keep", "(I)I"⟩
abbrev cX8_on : ByteArray := prog_1_method_20_code
def yX8_on : MethodName := ⟨RX8, "on", "(I)I"⟩
abbrev cX8_lands : ByteArray := prog_1_method_21_code
def yX8_lands : MethodName := ⟨RX8, "lands", "(III)I"⟩
abbrev cX8_in : ByteArray := prog_1_method_22_code
def yX8_in : MethodName := ⟨RX8, "in", "(II)I"⟩
abbrev cX8_seen : ByteArray := prog_1_method_23_code
def yX8_seen : MethodName := ⟨RX8, "seen", "(I)I"⟩
abbrev cX8_lead : ByteArray := prog_1_method_24_code
def yX8_lead : MethodName := ⟨RX8, "lead", "(I)I"⟩
abbrev cX8_amend : ByteArray := prog_1_method_25_code
def yX8_amend : MethodName := ⟨RX8, "amend", "(III)I"⟩
abbrev cX8_coats : ByteArray := prog_1_method_26_code
def yX8_coats : MethodName := ⟨RX8, "coats", "(II)I"⟩
abbrev cX8_sure : ByteArray := prog_1_method_27_code
def yX8_sure : MethodName := ⟨RX8, "sure", "(II)I"⟩
abbrev cX8_next : ByteArray := prog_1_method_28_code
def yX8_next : MethodName := ⟨RX8, "next", "(II)I"⟩
abbrev cX8_stood : ByteArray := prog_1_method_29_code
def yX8_stood : MethodName := ⟨RX8, "stood", "(II)I"⟩
abbrev cX8_kinds : ByteArray := prog_1_method_30_code
def yX8_kinds : MethodName := ⟨RX8, "kinds", "(II)I"⟩
abbrev cX8_sets : ByteArray := prog_1_method_31_code
def yX8_sets : MethodName := ⟨RX8, "sets", "(I)I"⟩
abbrev cX8_surely : ByteArray := prog_1_method_32_code
def yX8_surely : MethodName := ⟨RX8, "surely", "(I)I"⟩
abbrev cX8_duel : ByteArray := prog_1_method_33_code
def yX8_duel : MethodName := ⟨RX8, "duel", "(I)I"⟩
abbrev cX8_odds : ByteArray := prog_1_method_34_code
def yX8_odds : MethodName := ⟨RX8, "odds", "(II)I"⟩
abbrev cX8_mid : ByteArray := prog_1_method_35_code
def yX8_mid : MethodName := ⟨RX8, "mid", "(I)I"⟩
abbrev cX8_lots : ByteArray := prog_1_method_36_code
def yX8_lots : MethodName := ⟨RX8, "lots", "(II)I"⟩
abbrev cX8_asked : ByteArray := prog_1_method_37_code
def yX8_asked : MethodName := ⟨RX8, "asked", "()I"⟩
abbrev cX8_upper : ByteArray := prog_1_method_38_code
def yX8_upper : MethodName := ⟨RX8, "upper", "()J"⟩
abbrev cX8_lower : ByteArray := prog_1_method_39_code
def yX8_lower : MethodName := ⟨RX8, "lower", "()J"⟩
abbrev cX8_count : ByteArray := prog_1_method_40_code
def yX8_count : MethodName := ⟨RX8, "count", "(I)I"⟩
abbrev cX8_finding : ByteArray := prog_1_method_41_code
def yX8_finding : MethodName := ⟨RX8, "finding", "()I"⟩
abbrev cX8_findings : ByteArray := prog_1_method_42_code
def yX8_findings : MethodName := ⟨RX8, "findings", "(I)I"⟩
abbrev cX8_digest : ByteArray := prog_1_method_43_code
def yX8_digest : MethodName := ⟨RX8, "digest", "()J"⟩
abbrev cX8_within : ByteArray := prog_1_method_44_code
def yX8_within : MethodName := ⟨RX8, "within", "(II)Z"⟩
abbrev cX8_span : ByteArray := prog_1_method_45_code
def yX8_span : MethodName := ⟨RX8, "span", "(II)I"⟩
abbrev cX8_between : ByteArray := prog_1_method_46_code
def yX8_between : MethodName := ⟨RX8, "between", "(III)I"⟩
abbrev cX8_mayMove : ByteArray := prog_1_method_47_code
def yX8_mayMove : MethodName := ⟨RX8, "mayMove", "([III)Z"⟩
abbrev cX8_refuse : ByteArray := prog_1_method_48_code
def yX8_refuse : MethodName := ⟨RX8, "refuse", "(I)I"⟩
abbrev cX8_answer : ByteArray := prog_1_method_49_code
def yX8_answer : MethodName := ⟨RX8, "answer", "(I)I"⟩
abbrev cX8_tell : ByteArray := prog_1_method_50_code
def yX8_tell : MethodName := ⟨RX8, "tell", "(JJ)V"⟩
abbrev cX8_begun : ByteArray := prog_1_method_51_code
def yX8_begun : MethodName := ⟨RX8, "begun", "(LCoatGoals$Strip;II)I"⟩
abbrev cX8_isKept : ByteArray := prog_1_method_52_code
def yX8_isKept : MethodName := ⟨RX8, "isKept", "(I)Z"⟩
abbrev cX8_keptMany : ByteArray := prog_1_method_53_code
def yX8_keptMany : MethodName := ⟨RX8, "keptMany", "()I"⟩
abbrev cX8_thereOf : ByteArray := prog_1_method_54_code
def yX8_thereOf : MethodName := ⟨RX8, "thereOf", "([LCoatGoals$Strip;)I"⟩
abbrev cX8_refusedGuess : ByteArray := prog_1_method_55_code
def yX8_refusedGuess : MethodName := ⟨RX8, "refusedGuess", "(II)I"⟩
abbrev cX8_refusedTrace : ByteArray := prog_1_method_56_code
def yX8_refusedTrace : MethodName := ⟨RX8, "refusedTrace", "(II)I"⟩
abbrev cX8_landedSo : ByteArray := prog_1_method_57_code
def yX8_landedSo : MethodName := ⟨RX8, "landedSo", "(LCoatGoals$Strip;III)Z"⟩
abbrev cX8_weightOf : ByteArray := prog_1_method_58_code
def yX8_weightOf : MethodName := ⟨RX8, "weightOf", "(II)J"⟩
abbrev cX8_doByLot : ByteArray := prog_1_method_59_code
def yX8_doByLot : MethodName := ⟨RX8, "doByLot", "(I)V"⟩
def RX9 : String := "CoatGoalsModel"
def TX9 : u_T := fun k => match k with
  | 0 => ("CoatGoalsModel", "rowSize", "[I", true)
  | 1 => ("CoatGoalsModel", "rows", "[I", true)
  | 2 => ("CoatGoalsModel", "textSize", "[I", true)
  | 3 => ("CoatGoalsModel", "texts", "[I", true)
  | 4 => ("CoatGoalsModel", "spare", "[I", true)
  | 5 => ("CoatGoalsModel", "now", "[I", true)
  | 6 => ("CoatGoalsModel", "draft", "[I", true)
  | 7 => ("CoatGoalsModel", "tried", "[I", true)
  | 8 => ("CoatGoalsModel", "past", "[I", true)
  | 9 => ("CoatGoalsModel", "deeds", "I", false)
  | 10 => ("CoatGoalsModel", "kept", "[I", true)
  | 11 => ("CoatGoalsModel", "keptPast", "[I", true)
  | 12 => ("CoatGoalsModel", "keptDeeds", "[I", true)
  | 13 => ("CoatGoalsModel", "finding", "I", false)
  | 14 => ("CoatGoalsModel", "findings", "[I", true)
  | 15 => ("CoatGoalsModel", "asked", "I", false)
  | 16 => ("CoatGoalsModel", "upper", "J", false)
  | 17 => ("CoatGoalsModel", "lower", "J", false)
  | 18 => ("CoatGoalsModel", "at", "I", false)
  | 19 => ("CoatGoalsModel", "wrong", "I", false)
  | _ => ("CoatGoalsModel", "worth", "[I", true)
def tyX9 : Nat → FieldType := fun k => match k with
  | 0 => .array .int
  | 1 => .array .int
  | 2 => .array .int
  | 3 => .array .int
  | 4 => .array .int
  | 5 => .array .int
  | 6 => .array .int
  | 7 => .array .int
  | 8 => .array .int
  | 9 => .int
  | 10 => .array .int
  | 11 => .array .int
  | 12 => .array .int
  | 13 => .int
  | 14 => .array .int
  | 15 => .int
  | 16 => .long
  | 17 => .long
  | 18 => .int
  | 19 => .int
  | _ => .array .int
abbrev wsX90 : List Cond := u_ws RX9 TX9 21
theorem nmX9 : ∀ a, a < 21 → ∀ b, b < 21 → a ≠ b → (TX9 a).2.1 ≠ (TX9 b).2.1 := by decide +kernel
theorem tyX9_ok : ∀ k, k < 21 → parseFieldDescriptor (TX9 k).2.2.1 = some (tyX9 k) := by decide +kernel
abbrev cX9_init : ByteArray := prog_11_method_1_code
def yX9_init : MethodName := ⟨RX9, "<init>", "()V"⟩
abbrev cX9_in0 : ByteArray := prog_11_method_3_code
def yX9_in0 : MethodName := ⟨RX9, "in0", "(III)Z"⟩
abbrev cX9_has : ByteArray := prog_11_method_4_code
def yX9_has : MethodName := ⟨RX9, "has", "(II)Z"⟩
abbrev cX9_apart : ByteArray := prog_11_method_5_code
def yX9_apart : MethodName := ⟨RX9, "apart", "(II)I"⟩
abbrev cX9_found : ByteArray := prog_11_method_6_code
def yX9_found : MethodName := ⟨RX9, "found", "(I)I"⟩
abbrev cX9_tells : ByteArray := prog_11_method_7_code
def yX9_tells : MethodName := ⟨RX9, "tells", "(I)I"⟩
abbrev cX9_isRow : ByteArray := prog_11_method_8_code
def yX9_isRow : MethodName := ⟨RX9, "isRow", "(I)Z"⟩
abbrev cX9_isText : ByteArray := prog_11_method_9_code
def yX9_isText : MethodName := ⟨RX9, "isText", "(I)Z"⟩
abbrev cX9_row : ByteArray := prog_11_method_10_code
def yX9_row : MethodName := ⟨RX9, "row", "(II)I"⟩
abbrev cX9_lay : ByteArray := prog_11_method_11_code
def yX9_lay : MethodName := ⟨RX9, "lay", "(III)I"⟩
abbrev cX9_at : ByteArray := prog_11_method_12_code
def yX9_at : MethodName := ⟨RX9, "at", "(II)I"⟩
abbrev cX9_tear : ByteArray := prog_11_method_13_code
def yX9_tear : MethodName := ⟨RX9, "tear", "(I)I"⟩
abbrev cX9_hasPart : ByteArray := prog_11_method_14_code
def yX9_hasPart : MethodName := ⟨RX9, "hasPart", "(III)Z"⟩
abbrev cX9_copy : ByteArray := prog_11_method_15_code
def yX9_copy : MethodName := ⟨RX9, "copy", "(IIIII)I"⟩
abbrev cX9_mean : ByteArray := prog_11_method_16_code
def yX9_mean : MethodName := ⟨RX9, "mean", "(I)I"⟩
abbrev cX9_text : ByteArray := prog_11_method_17_code
def yX9_text : MethodName := ⟨RX9, "text", "(II)I"⟩
abbrev cX9_put : ByteArray := prog_11_method_18_code
def yX9_put : MethodName := ⟨RX9, "put", "(III)I"⟩
abbrev cX9_look : ByteArray := prog_11_method_19_code
def yX9_look : MethodName := ⟨RX9, "look", "(I)I"⟩
abbrev cX9_blanks : ByteArray := prog_11_method_20_code
def yX9_blanks : MethodName := ⟨RX9, "blanks", "(I)V"⟩
abbrev cX9_fails : ByteArray := prog_11_method_21_code
def yX9_fails : MethodName := ⟨RX9, "fails", "(I)V"⟩
abbrev cX9_letter : ByteArray := prog_11_method_22_code
def yX9_letter : MethodName := ⟨RX9, "letter", "(II)V"⟩
abbrev cX9_figure : ByteArray := prog_11_method_23_code
def yX9_figure : MethodName := ⟨RX9, "figure", "(III)I"⟩
abbrev cX9_place : ByteArray := prog_11_method_24_code
def yX9_place : MethodName := ⟨RX9, "place", "(II)I"⟩
abbrev cX9_kindOf : ByteArray := prog_11_method_25_code
def yX9_kindOf : MethodName := ⟨RX9, "kindOf", "(I)I"⟩
abbrev cX9_readsPlayer : ByteArray := prog_11_method_26_code
def yX9_readsPlayer : MethodName := ⟨RX9, "readsPlayer", "(I)V"⟩
abbrev cX9_reads : ByteArray := prog_11_method_27_code
def yX9_reads : MethodName := ⟨RX9, "reads", "(I)I"⟩
abbrev cX9_fault : ByteArray := prog_11_method_28_code
def yX9_fault : MethodName := ⟨RX9, "fault", "(I)I"⟩
abbrev cX9_copies : ByteArray := prog_11_method_29_code
def yX9_copies : MethodName := ⟨RX9, "copies", "([II[III)V"⟩
abbrev cX9_republic : ByteArray := prog_11_method_30_code
def yX9_republic : MethodName := ⟨RX9, "republic", "(I)I"⟩
abbrev cX9_isPlayer : ByteArray := prog_11_method_31_code
def yX9_isPlayer : MethodName := ⟨RX9, "isPlayer", "(I)Z"⟩
abbrev cX9_isAny : ByteArray := prog_11_method_32_code
def yX9_isAny : MethodName := ⟨RX9, "isAny", "()Z"⟩
abbrev cX9_isKeeper : ByteArray := prog_11_method_33_code
def yX9_isKeeper : MethodName := ⟨RX9, "isKeeper", "([II)Z"⟩
abbrev cX9_landing : ByteArray := prog_11_method_34_code
def yX9_landing : MethodName := ⟨RX9, "landing", "(IIII)I"⟩
abbrev cX9_ball : ByteArray := prog_11_method_35_code
def yX9_ball : MethodName := ⟨RX9, "ball", "([II)I"⟩
abbrev cX9_reach : ByteArray := prog_11_method_36_code
def yX9_reach : MethodName := ⟨RX9, "reach", "([II)I"⟩
abbrev cX9_isReached : ByteArray := prog_11_method_37_code
def yX9_isReached : MethodName := ⟨RX9, "isReached", "([III)Z"⟩
abbrev cX9_isKept : ByteArray := prog_11_method_38_code
def yX9_isKept : MethodName := ⟨RX9, "isKept", "([III)Z"⟩
abbrev cX9_isWithin : ByteArray := prog_11_method_39_code
def yX9_isWithin : MethodName := ⟨RX9, "isWithin", "(IIII)Z"⟩
abbrev cX9_isIn : ByteArray := prog_11_method_40_code
def yX9_isIn : MethodName := ⟨RX9, "isIn", "([III)Z"⟩
abbrev cX9_isScored : ByteArray := prog_11_method_41_code
def yX9_isScored : MethodName := ⟨RX9, "isScored", "([II)Z"⟩
abbrev cX9_scored : ByteArray := prog_11_method_42_code
def yX9_scored : MethodName := ⟨RX9, "scored", "([I)I"⟩
abbrev cX9_ahead : ByteArray := prog_11_method_43_code
def yX9_ahead : MethodName := ⟨RX9, "ahead", "([I)I"⟩
abbrev cX9_plays : ByteArray := prog_11_method_44_code
def yX9_plays : MethodName := ⟨RX9, "plays", "([I)I"⟩
abbrev cX9_mayMove : ByteArray := prog_11_method_45_code
def yX9_mayMove : MethodName := ⟨RX9, "mayMove", "([III)Z"⟩
abbrev cX9_seenBy : ByteArray := prog_11_method_46_code
def yX9_seenBy : MethodName := ⟨RX9, "seenBy", "([II)I"⟩
abbrev cX9_tellsOf : ByteArray := prog_11_method_47_code
def yX9_tellsOf : MethodName := ⟨RX9, "tellsOf", "(II)I"⟩
abbrev cX9_player : ByteArray := prog_11_method_48_code
def yX9_player : MethodName := ⟨RX9, "player", "(II)I"⟩
abbrev cX9_isOf : ByteArray := prog_11_method_49_code
def yX9_isOf : MethodName := ⟨RX9, "isOf", "(II)Z"⟩
abbrev cX9_ballsOf : ByteArray := prog_11_method_50_code
def yX9_ballsOf : MethodName := ⟨RX9, "ballsOf", "(III)I"⟩
abbrev cX9_reached : ByteArray := prog_11_method_51_code
def yX9_reached : MethodName := ⟨RX9, "reached", "(I)I"⟩
abbrev cX9_mark : ByteArray := prog_11_method_52_code
def yX9_mark : MethodName := ⟨RX9, "mark", "(II)I"⟩
abbrev cX9_notes : ByteArray := prog_11_method_53_code
def yX9_notes : MethodName := ⟨RX9, "notes", "()V"⟩
abbrev cX9_term : ByteArray := prog_11_method_54_code
def yX9_term : MethodName := ⟨RX9, "term", "()I"⟩
abbrev cX9_nudge : ByteArray := prog_11_method_55_code
def yX9_nudge : MethodName := ⟨RX9, "nudge", "(II)I"⟩
abbrev cX9_rain : ByteArray := prog_11_method_56_code
def yX9_rain : MethodName := ⟨RX9, "rain", "(I)I"⟩
abbrev cX9_stand : ByteArray := prog_11_method_57_code
def yX9_stand : MethodName := ⟨RX9, "stand", "(II)I"⟩
abbrev cX9_undo : ByteArray := prog_11_method_58_code
def yX9_undo : MethodName := ⟨RX9, "undo", "(I)I"⟩
abbrev cX9_keep : ByteArray := prog_11_method_59_code
def yX9_keep : MethodName := ⟨RX9, "keep", "(I)I"⟩
abbrev cX9_on : ByteArray := prog_11_method_60_code
def yX9_on : MethodName := ⟨RX9, "on", "(I)I"⟩
abbrev cX9_lands : ByteArray := prog_11_method_61_code
def yX9_lands : MethodName := ⟨RX9, "lands", "(III)I"⟩
abbrev cX9_in : ByteArray := prog_11_method_62_code
def yX9_in : MethodName := ⟨RX9, "in", "(II)I"⟩
abbrev cX9_seen : ByteArray := prog_11_method_63_code
def yX9_seen : MethodName := ⟨RX9, "seen", "(I)I"⟩
abbrev cX9_lead : ByteArray := prog_11_method_64_code
def yX9_lead : MethodName := ⟨RX9, "lead", "(I)I"⟩
abbrev cX9_stepOf : ByteArray := prog_11_method_65_code
def yX9_stepOf : MethodName := ⟨RX9, "stepOf", "(II)I"⟩
abbrev cX9_moves : ByteArray := prog_11_method_66_code
def yX9_moves : MethodName := ⟨RX9, "moves", "(I)I"⟩
abbrev cX9_amend : ByteArray := prog_11_method_67_code
def yX9_amend : MethodName := ⟨RX9, "amend", "(III)I"⟩
abbrev cX9_wrongIn : ByteArray := prog_11_method_68_code
def yX9_wrongIn : MethodName := ⟨RX9, "wrongIn", "(III)I"⟩
abbrev cX9_areSo : ByteArray := prog_11_method_69_code
def yX9_areSo : MethodName := ⟨RX9, "areSo", "(IIII)Z"⟩
abbrev cX9_coats : ByteArray := prog_11_method_70_code
def yX9_coats : MethodName := ⟨RX9, "coats", "(II)I"⟩
abbrev cX9_sure : ByteArray := prog_11_method_71_code
def yX9_sure : MethodName := ⟨RX9, "sure", "(II)I"⟩
abbrev cX9_insBy : ByteArray := prog_11_method_72_code
def yX9_insBy : MethodName := ⟨RX9, "insBy", "(III)I"⟩
abbrev cX9_partOf : ByteArray := prog_11_method_73_code
def yX9_partOf : MethodName := ⟨RX9, "partOf", "(III)I"⟩
abbrev cX9_next : ByteArray := prog_11_method_74_code
def yX9_next : MethodName := ⟨RX9, "next", "(II)I"⟩
abbrev cX9_landSo : ByteArray := prog_11_method_75_code
def yX9_landSo : MethodName := ⟨RX9, "landSo", "(IIII)Z"⟩
abbrev cX9_stood : ByteArray := prog_11_method_76_code
def yX9_stood : MethodName := ⟨RX9, "stood", "(II)I"⟩
abbrev cX9_kinds : ByteArray := prog_11_method_77_code
def yX9_kinds : MethodName := ⟨RX9, "kinds", "(II)I"⟩
abbrev cX9_strengthOf : ByteArray := prog_11_method_78_code
def yX9_strengthOf : MethodName := ⟨RX9, "strengthOf", "(I)I"⟩
abbrev cX9_sets : ByteArray := prog_11_method_79_code
def yX9_sets : MethodName := ⟨RX9, "sets", "(I)I"⟩
abbrev cX9_surely : ByteArray := prog_11_method_80_code
def yX9_surely : MethodName := ⟨RX9, "surely", "(I)I"⟩
abbrev cX9_comes : ByteArray := prog_11_method_81_code
def yX9_comes : MethodName := ⟨RX9, "comes", "(II)I"⟩
abbrev cX9_duel : ByteArray := prog_11_method_82_code
def yX9_duel : MethodName := ⟨RX9, "duel", "(I)I"⟩
abbrev cX9_isInBy : ByteArray := prog_11_method_83_code
def yX9_isInBy : MethodName := ⟨RX9, "isInBy", "(II)Z"⟩
abbrev cX9_told : ByteArray := prog_11_method_84_code
def yX9_told : MethodName := ⟨RX9, "told", "(JJ)I"⟩
abbrev cX9_odds : ByteArray := prog_11_method_85_code
def yX9_odds : MethodName := ⟨RX9, "odds", "(II)I"⟩
abbrev cX9_mid : ByteArray := prog_11_method_86_code
def yX9_mid : MethodName := ⟨RX9, "mid", "(I)I"⟩
abbrev cX9_lots : ByteArray := prog_11_method_87_code
def yX9_lots : MethodName := ⟨RX9, "lots", "(II)I"⟩
abbrev cX9_lot : ByteArray := prog_11_method_88_code
def yX9_lot : MethodName := ⟨RX9, "lot", "(J)V"⟩
abbrev cX9_asked : ByteArray := prog_11_method_89_code
def yX9_asked : MethodName := ⟨RX9, "asked", "()I"⟩
abbrev cX9_upper : ByteArray := prog_11_method_90_code
def yX9_upper : MethodName := ⟨RX9, "upper", "()J"⟩
abbrev cX9_lower : ByteArray := prog_11_method_91_code
def yX9_lower : MethodName := ⟨RX9, "lower", "()J"⟩
abbrev cX9_kindsThere : ByteArray := prog_11_method_92_code
def yX9_kindsThere : MethodName := ⟨RX9, "kindsThere", "(I)I"⟩
abbrev cX9_there : ByteArray := prog_11_method_93_code
def yX9_there : MethodName := ⟨RX9, "there", "([I)I"⟩
abbrev cX9_count : ByteArray := prog_11_method_94_code
def yX9_count : MethodName := ⟨RX9, "count", "(I)I"⟩
abbrev cX9_finding : ByteArray := prog_11_method_95_code
def yX9_finding : MethodName := ⟨RX9, "finding", "()I"⟩
abbrev cX9_findings : ByteArray := prog_11_method_96_code
def yX9_findings : MethodName := ⟨RX9, "findings", "(I)I"⟩
abbrev cX9_summed : ByteArray := prog_11_method_97_code
def yX9_summed : MethodName := ⟨RX9, "summed", "(J[I[II)J"⟩
abbrev cX9_digest : ByteArray := prog_11_method_98_code
def yX9_digest : MethodName := ⟨RX9, "digest", "()J"⟩
def RJ6 : String := "java/lang/Integer"
def TJ6 : u_T := fun k => match k with
  | _ => ("", "", "", false)
def tyJ6 : Nat → FieldType := fun k => match k with
  | _ => .int
abbrev wsJ60 : List Cond := u_ws RJ6 TJ6 0
theorem nmJ6 : ∀ a, a < 0 → ∀ b, b < 0 → a ≠ b → (TJ6 a).2.1 ≠ (TJ6 b).2.1 := by decide +kernel
theorem tyJ6_ok : ∀ k, k < 0 → parseFieldDescriptor (TJ6 k).2.2.1 = some (tyJ6 k) := by decide +kernel
abbrev cJ6_bitCount_0f7a4 : ByteArray := prog_12_method_49_code
def yJ6_bitCount_0f7a4 : MethodName := ⟨RJ6, "bitCount", "(I)I"⟩
def RJ9 : String := "java/lang/Math"
def TJ9 : u_T := fun k => match k with
  | _ => ("", "", "", false)
def tyJ9 : Nat → FieldType := fun k => match k with
  | _ => .int
abbrev wsJ90 : List Cond := u_ws RJ9 TJ9 0
theorem nmJ9 : ∀ a, a < 0 → ∀ b, b < 0 → a ≠ b → (TJ9 a).2.1 ≠ (TJ9 b).2.1 := by decide +kernel
theorem tyJ9_ok : ∀ k, k < 0 → parseFieldDescriptor (TJ9 k).2.2.1 = some (tyJ9 k) := by decide +kernel
abbrev cJ9_abs_0f7a4 : ByteArray := prog_13_method_59_code
def yJ9_abs_0f7a4 : MethodName := ⟨RJ9, "abs", "(I)I"⟩
abbrev cJ9_max_7cf53 : ByteArray := prog_13_method_65_code
def yJ9_max_7cf53 : MethodName := ⟨RJ9, "max", "(II)I"⟩
abbrev cJ9_min_7cf53 : ByteArray := prog_13_method_69_code
def yJ9_min_7cf53 : MethodName := ⟨RJ9, "min", "(II)I"⟩
def RJ10 : String := "java/lang/System"
def TJ10 : u_T := fun k => match k with
  | _ => ("", "", "", false)
def tyJ10 : Nat → FieldType := fun k => match k with
  | _ => .int
abbrev wsJ100 : List Cond := u_ws RJ10 TJ10 0
theorem nmJ10 : ∀ a, a < 0 → ∀ b, b < 0 → a ≠ b → (TJ10 a).2.1 ≠ (TJ10 b).2.1 := by decide +kernel
theorem tyJ10_ok : ∀ k, k < 0 → parseFieldDescriptor (TJ10 k).2.2.1 = some (tyJ10 k) := by decide +kernel
def RJ7 : String := "java/util/Arrays"
def TJ7 : u_T := fun k => match k with
  | _ => ("", "", "", false)
def tyJ7 : Nat → FieldType := fun k => match k with
  | _ => .int
abbrev wsJ70 : List Cond := u_ws RJ7 TJ7 0
theorem nmJ7 : ∀ a, a < 0 → ∀ b, b < 0 → a ≠ b → (TJ7 a).2.1 ≠ (TJ7 b).2.1 := by decide +kernel
theorem tyJ7_ok : ∀ k, k < 0 → parseFieldDescriptor (TJ7 k).2.2.1 = some (tyJ7 k) := by decide +kernel
abbrev cJ7_fill_53178 : ByteArray := prog_15_method_103_code
def yJ7_fill_53178 : MethodName := ⟨RJ7, "fill", "([II)V"⟩
def RL : String := "CoatGoalsLaw"
abbrev cL_law : ByteArray := code
def yL_law : MethodName := ⟨RL, "law", "([I)Z"⟩
abbrev vwCl : List vw_C := [(RX0, TX0, 3), (RX1, TX1, 5), (RX2, TX2, 1), (RX3, TX3, 3), (RX5, TX5, 3), (RX6, TX6, 14), (RX7, TX7, 3), (RX8, TX8, 14), (RX9, TX9, 21)]
end
section
def xi_tab {α : Type} : List (Nat × α) → Nat → Option α
  | [], _ => none
  | q :: t, x => bif Nat.beq q.1 x then some q.2 else xi_tab t x
theorem xi_tab_mem {α : Type} : ∀ {l : List (Nat × α)} {x : Nat} {v : α}, xi_tab l x = some v → (x, v) ∈ l := by
  intro l
  induction l with
  | nil => intro x v h; cases h
  | cons q t ih =>
    intro x v h
    unfold xi_tab at h
    cases hb : Nat.beq q.1 x with
    | true =>
      rw [hb] at h
      have e := Nat.eq_of_beq_eq_true hb
      cases h
      rw [← e]
      exact List.mem_cons_self
    | false =>
      rw [hb] at h
      exact List.mem_cons_of_mem _ (ih h)
abbrev xi_F : Type := List Value → xi_M → Option xi_R
def xi_calls : List (Nat × xi_F) → xi_C
  | [], _, _, _ => none
  | q :: t, x, As, m => bif Nat.beq q.1 x then q.2 As m else xi_calls t x As m
theorem xi_calls_mem : ∀ {l : List (Nat × xi_F)} {x : Nat} {As : List Value} {m : xi_M} {q : xi_R}, xi_calls l x As m = some q → ∃ f, (x, f) ∈ l ∧ f As m = some q := by
  intro l
  induction l with
  | nil => intro x As m q h; cases h
  | cons p t ih =>
    intro x As m q h
    unfold xi_calls at h
    cases hb : Nat.beq p.1 x with
    | true =>
      rw [hb] at h
      have e := Nat.eq_of_beq_eq_true hb
      exact ⟨p.2, by rw [← e]; exact List.mem_cons_self, h⟩
    | false =>
      rw [hb] at h
      obtain ⟨f, h1, h2⟩ := ih h
      exact ⟨f, List.mem_cons_of_mem _ h1, h2⟩
/-- a callee with n arguments -/
def xi_wS (n : Nat) (f : xi_F) : xi_F := fun As m => bif Nat.beq As.length n then f As m else none
/-- a callee of an object of a kind, with n arguments beside it -/
def xi_wV (S : xi_S) (k n : Nat) (f : xi_F) : xi_F := fun As m => match As with
  | .ref b :: t => bif Nat.beq t.length n then (if S.1 b = k then f (.ref b :: t) m else none) else none
  | _ => none
theorem xi_wS_some {n : Nat} {f : xi_F} {As : List Value} {m : xi_M} {q : xi_R} (h : xi_wS n f As m = some q) : As.length = n ∧ f As m = some q := by
  unfold xi_wS at h
  obtain ⟨h1, h2⟩ := xi_bif_some h
  exact ⟨Nat.eq_of_beq_eq_true h1, h2⟩
theorem xi_wV_some {S : xi_S} {k n : Nat} {f : xi_F} {As : List Value} {m : xi_M} {q : xi_R} (h : xi_wV S k n f As m = some q) : ∃ b t, As = .ref b :: t ∧ t.length = n ∧ S.1 b = k ∧ f (.ref b :: t) m = some q := by
  unfold xi_wV at h
  split at h
  · obtain ⟨h1, h2⟩ := xi_bif_some h
    obtain ⟨h3, h4⟩ := xi_if_some h2
    exact ⟨_, _, rfl, Nat.eq_of_beq_eq_true h1, h3, h4⟩
  · cases h
def xi_dck (cc : ByteArray) (tb : List (Nat × Instr × Nat)) : Bool := tb.all fun q => decide (decode cc q.1 = .ok q.2) && decide (q.2.2 = xi_len q.2.1 q.2.2)
theorem xi_dck_ok {cc : ByteArray} {tb : List (Nat × Instr × Nat)} (h : xi_dck cc tb = true) : ∀ pc i n, xi_tab tb pc = some (i, n) → decode cc pc = .ok (i, n) ∧ n = xi_len i n := by
  intro pc i n ht
  have h2 := List.all_eq_true.mp h _ (xi_tab_mem ht)
  rw [Bool.and_eq_true] at h2
  exact ⟨of_decide_eq_true h2.1, of_decide_eq_true h2.2⟩
/-- the tables' words that stay true -/
def xTs : List Cond := lw_tbl.filter goodWord
theorem xw_good : ∀ w ∈ xTs, goodWord w = true := fun _ h => (List.mem_filter.mp h).2
theorem xw_in {w : Cond} (i : Nat) (h : lw_tbl[i]? = some w) (hg : goodWord w = true) : w ∈ xTs := List.mem_filter.mpr ⟨List.mem_of_getElem? h, hg⟩

def xft : Nat → List Nat := fun k => match k with
  | 0 => [3, 0, 0]
  | 1 => [0, 0, 3, 3, 3]
  | 2 => [3]
  | 3 => [0, 0, 3]
  | 4 => [3, 0, 0]
  | 5 => [0, 0, 0, 0, 0, 3, 3, 3, 3, 3, 3, 3, 3, 3]
  | 6 => [1, 0, 3]
  | 7 => [3, 3, 3, 3, 3, 3, 3, 3, 3, 3, 0, 0, 2, 2]
  | 8 => [3, 3, 3, 3, 3, 3, 3, 3, 3, 0, 3, 3, 3, 0, 3, 0, 2, 2, 0, 0, 3]
  | _ => []
theorem xin_X0 : ∀ w ∈ u_ws RX0 TX0 3, w ∈ xTs := fun w h => List.mem_filter.mpr ⟨(show ∀ w ∈ u_ws RX0 TX0 3, w ∈ lw_tbl by decide +kernel) w h, (show ∀ w ∈ u_ws RX0 TX0 3, goodWord w = true by decide +kernel) w h⟩
theorem xin_X1 : ∀ w ∈ u_ws RX1 TX1 5, w ∈ xTs := fun w h => List.mem_filter.mpr ⟨(show ∀ w ∈ u_ws RX1 TX1 5, w ∈ lw_tbl by decide +kernel) w h, (show ∀ w ∈ u_ws RX1 TX1 5, goodWord w = true by decide +kernel) w h⟩
theorem xin_X2 : ∀ w ∈ u_ws RX2 TX2 1, w ∈ xTs := fun w h => List.mem_filter.mpr ⟨(show ∀ w ∈ u_ws RX2 TX2 1, w ∈ lw_tbl by decide +kernel) w h, (show ∀ w ∈ u_ws RX2 TX2 1, goodWord w = true by decide +kernel) w h⟩
theorem xin_X3 : ∀ w ∈ u_ws RX3 TX3 3, w ∈ xTs := fun w h => List.mem_filter.mpr ⟨(show ∀ w ∈ u_ws RX3 TX3 3, w ∈ lw_tbl by decide +kernel) w h, (show ∀ w ∈ u_ws RX3 TX3 3, goodWord w = true by decide +kernel) w h⟩
theorem xin_X5 : ∀ w ∈ u_ws RX5 TX5 3, w ∈ xTs := fun w h => List.mem_filter.mpr ⟨(show ∀ w ∈ u_ws RX5 TX5 3, w ∈ lw_tbl by decide +kernel) w h, (show ∀ w ∈ u_ws RX5 TX5 3, goodWord w = true by decide +kernel) w h⟩
theorem xin_X6 : ∀ w ∈ u_ws RX6 TX6 14, w ∈ xTs := fun w h => List.mem_filter.mpr ⟨(show ∀ w ∈ u_ws RX6 TX6 14, w ∈ lw_tbl by decide +kernel) w h, (show ∀ w ∈ u_ws RX6 TX6 14, goodWord w = true by decide +kernel) w h⟩
theorem xin_X7 : ∀ w ∈ u_ws RX7 TX7 3, w ∈ xTs := fun w h => List.mem_filter.mpr ⟨(show ∀ w ∈ u_ws RX7 TX7 3, w ∈ lw_tbl by decide +kernel) w h, (show ∀ w ∈ u_ws RX7 TX7 3, goodWord w = true by decide +kernel) w h⟩
theorem xin_X8 : ∀ w ∈ u_ws RX8 TX8 14, w ∈ xTs := fun w h => List.mem_filter.mpr ⟨(show ∀ w ∈ u_ws RX8 TX8 14, w ∈ lw_tbl by decide +kernel) w h, (show ∀ w ∈ u_ws RX8 TX8 14, goodWord w = true by decide +kernel) w h⟩
theorem xin_X9 : ∀ w ∈ u_ws RX9 TX9 21, w ∈ xTs := fun w h => List.mem_filter.mpr ⟨(show ∀ w ∈ u_ws RX9 TX9 21, w ∈ lw_tbl by decide +kernel) w h, (show ∀ w ∈ u_ws RX9 TX9 21, goodWord w = true by decide +kernel) w h⟩
def xNs : List (String × Nat × MethodName × String) := [(RX6, 95, yX8_between, "CoatGoals"), (RX6, 88, yX8_span, "CoatGoals"), (RX1, 45, yX8_between, "CoatGoals"), (RX7, 29, yX8_within, "CoatGoals"), (RX3, 37, yX8_between, "CoatGoals"), (RX2, 40, yX8_mayMove, "CoatGoals")]
theorem xf_X0_11 : xi_Fok RX0 xTs vwCl xft 11 0 0 3 := ⟨RX0, TX0, 3, tyX0, rfl, by decide, xin_X0, xw_in 178 (by decide +kernel) rfl, rfl, tyX0_ok, nmX0, by decide, by decide, by decide, by decide⟩
theorem xf_X0_19 : xi_Fok RX0 xTs vwCl xft 19 5 5 3 := ⟨RX6, TX6, 14, tyX6, rfl, by decide, xin_X6, xw_in 98 (by decide +kernel) rfl, rfl, tyX6_ok, nmX6, by decide, by decide, by decide, by decide⟩
theorem xf_X0_52 : xi_Fok RX0 xTs vwCl xft 52 0 1 0 := ⟨RX0, TX0, 3, tyX0, rfl, by decide, xin_X0, xw_in 179 (by decide +kernel) rfl, rfl, tyX0_ok, nmX0, by decide, by decide, by decide, by decide⟩
theorem xf_X0_56 : xi_Fok RX0 xTs vwCl xft 56 0 2 0 := ⟨RX0, TX0, 3, tyX0, rfl, by decide, xin_X0, xw_in 180 (by decide +kernel) rfl, rfl, tyX0_ok, nmX0, by decide, by decide, by decide, by decide⟩
def xfl_X0 : List (Nat × Nat × Nat × Nat) := [(11, 0, 0, 3), (19, 5, 5, 3), (52, 0, 1, 0), (56, 0, 2, 0)]
theorem xfa_X0 : ∀ q ∈ xfl_X0, xi_Fok RX0 xTs vwCl xft q.1 q.2.1 q.2.2.1 q.2.2.2 := List.forall_mem_cons.mpr ⟨xf_X0_11, List.forall_mem_cons.mpr ⟨xf_X0_19, List.forall_mem_cons.mpr ⟨xf_X0_52, List.forall_mem_cons.mpr ⟨xf_X0_56, fun _ h => absurd h List.not_mem_nil⟩⟩⟩⟩
theorem xfo_X0 : ∀ x ci k t, xi_tab xfl_X0 x = some (ci, k, t) → xi_Fok RX0 xTs vwCl xft x ci k t := fun x ci k t h => xfa_X0 (x, ci, k, t) (xi_tab_mem h)
def xki_X0 : List (Nat × Int32) := []
theorem xkia_X0 : ∀ q ∈ xki_X0, Cond.constant RX0 q.1 q.2 ∈ xTs := fun _ h => absurd h List.not_mem_nil
theorem xkio_X0 : ∀ x v, xi_tab xki_X0 x = some v → Cond.constant RX0 x v ∈ xTs := fun x v h => xkia_X0 (x, v) (xi_tab_mem h)
def xkl_X0 : List (Nat × Int64) := []
theorem xkla_X0 : ∀ q ∈ xkl_X0, Cond.constantLong RX0 q.1 q.2 ∈ xTs := fun _ h => absurd h List.not_mem_nil
theorem xklo_X0 : ∀ x v, xi_tab xkl_X0 x = some v → Cond.constantLong RX0 x v ∈ xTs := fun x v h => xkla_X0 (x, v) (xi_tab_mem h)
def xcs_X0 : List (Nat × Nat × Nat) := [(15, 4, 1), (24, 1, 1), (28, 1, 1), (40, 1, 1), (45, 1, 1)]
def xcv_X0 : List (Nat × Nat × Nat) := [(31, 2, 1), (34, 4, 1), (48, 5, 1)]
theorem xf_X1_9 : xi_Fok RX1 xTs vwCl xft 9 1 2 3 := ⟨RX1, TX1, 5, tyX1, rfl, by decide, xin_X1, xw_in 158 (by decide +kernel) rfl, rfl, tyX1_ok, nmX1, by decide, by decide, by decide, by decide⟩
theorem xf_X1_15 : xi_Fok RX1 xTs vwCl xft 15 1 3 3 := ⟨RX1, TX1, 5, tyX1, rfl, by decide, xin_X1, xw_in 159 (by decide +kernel) rfl, rfl, tyX1_ok, nmX1, by decide, by decide, by decide, by decide⟩
theorem xf_X1_18 : xi_Fok RX1 xTs vwCl xft 18 1 4 3 := ⟨RX1, TX1, 5, tyX1, rfl, by decide, xin_X1, xw_in 160 (by decide +kernel) rfl, rfl, tyX1_ok, nmX1, by decide, by decide, by decide, by decide⟩
theorem xf_X1_21 : xi_Fok RX1 xTs vwCl xft 21 5 0 0 := ⟨RX6, TX6, 14, tyX6, rfl, by decide, xin_X6, xw_in 84 (by decide +kernel) rfl, rfl, tyX6_ok, nmX6, by decide, by decide, by decide, by decide⟩
theorem xf_X1_27 : xi_Fok RX1 xTs vwCl xft 27 1 0 0 := ⟨RX1, TX1, 5, tyX1, rfl, by decide, xin_X1, xw_in 156 (by decide +kernel) rfl, rfl, tyX1_ok, nmX1, by decide, by decide, by decide, by decide⟩
theorem xf_X1_28 : xi_Fok RX1 xTs vwCl xft 28 5 1 0 := ⟨RX6, TX6, 14, tyX6, rfl, by decide, xin_X6, xw_in 88 (by decide +kernel) rfl, rfl, tyX6_ok, nmX6, by decide, by decide, by decide, by decide⟩
theorem xf_X1_31 : xi_Fok RX1 xTs vwCl xft 31 1 1 0 := ⟨RX1, TX1, 5, tyX1, rfl, by decide, xin_X1, xw_in 157 (by decide +kernel) rfl, rfl, tyX1_ok, nmX1, by decide, by decide, by decide, by decide⟩
theorem xf_X1_38 : xi_Fok RX1 xTs vwCl xft 38 5 8 3 := ⟨RX6, TX6, 14, tyX6, rfl, by decide, xin_X6, xw_in 107 (by decide +kernel) rfl, rfl, tyX6_ok, nmX6, by decide, by decide, by decide, by decide⟩
def xfl_X1 : List (Nat × Nat × Nat × Nat) := [(9, 1, 2, 3), (15, 1, 3, 3), (18, 1, 4, 3), (21, 5, 0, 0), (27, 1, 0, 0), (28, 5, 1, 0), (31, 1, 1, 0), (38, 5, 8, 3)]
theorem xfa_X1 : ∀ q ∈ xfl_X1, xi_Fok RX1 xTs vwCl xft q.1 q.2.1 q.2.2.1 q.2.2.2 := List.forall_mem_cons.mpr ⟨xf_X1_9, List.forall_mem_cons.mpr ⟨xf_X1_15, List.forall_mem_cons.mpr ⟨xf_X1_18, List.forall_mem_cons.mpr ⟨xf_X1_21, List.forall_mem_cons.mpr ⟨xf_X1_27, List.forall_mem_cons.mpr ⟨xf_X1_28, List.forall_mem_cons.mpr ⟨xf_X1_31, List.forall_mem_cons.mpr ⟨xf_X1_38, fun _ h => absurd h List.not_mem_nil⟩⟩⟩⟩⟩⟩⟩⟩
theorem xfo_X1 : ∀ x ci k t, xi_tab xfl_X1 x = some (ci, k, t) → xi_Fok RX1 xTs vwCl xft x ci k t := fun x ci k t h => xfa_X1 (x, ci, k, t) (xi_tab_mem h)
def xki_X1 : List (Nat × Int32) := []
theorem xkia_X1 : ∀ q ∈ xki_X1, Cond.constant RX1 q.1 q.2 ∈ xTs := fun _ h => absurd h List.not_mem_nil
theorem xkio_X1 : ∀ x v, xi_tab xki_X1 x = some v → Cond.constant RX1 x v ∈ xTs := fun x v h => xkia_X1 (x, v) (xi_tab_mem h)
def xkl_X1 : List (Nat × Int64) := []
theorem xkla_X1 : ∀ q ∈ xkl_X1, Cond.constantLong RX1 q.1 q.2 ∈ xTs := fun _ h => absurd h List.not_mem_nil
theorem xklo_X1 : ∀ x v, xi_tab xkl_X1 x = some v → Cond.constantLong RX1 x v ∈ xTs := fun x v h => xkla_X1 (x, v) (xi_tab_mem h)
def xcs_X1 : List (Nat × Nat × Nat) := [(45, 3, 1)]
def xcv_X1 : List (Nat × Nat × Nat) := [(34, 2, 1), (41, 3, 1)]
theorem xf_X2_9 : xi_Fok RX2 xTs vwCl xft 9 2 0 3 := ⟨RX2, TX2, 1, tyX2, rfl, by decide, xin_X2, xw_in 194 (by decide +kernel) rfl, rfl, tyX2_ok, nmX2, by decide, by decide, by decide, by decide⟩
theorem xf_X2_15 : xi_Fok RX2 xTs vwCl xft 15 5 5 3 := ⟨RX6, TX6, 14, tyX6, rfl, by decide, xin_X6, xw_in 97 (by decide +kernel) rfl, rfl, tyX6_ok, nmX6, by decide, by decide, by decide, by decide⟩
def xfl_X2 : List (Nat × Nat × Nat × Nat) := [(9, 2, 0, 3), (15, 5, 5, 3)]
theorem xfa_X2 : ∀ q ∈ xfl_X2, xi_Fok RX2 xTs vwCl xft q.1 q.2.1 q.2.2.1 q.2.2.2 := List.forall_mem_cons.mpr ⟨xf_X2_9, List.forall_mem_cons.mpr ⟨xf_X2_15, fun _ h => absurd h List.not_mem_nil⟩⟩
theorem xfo_X2 : ∀ x ci k t, xi_tab xfl_X2 x = some (ci, k, t) → xi_Fok RX2 xTs vwCl xft x ci k t := fun x ci k t h => xfa_X2 (x, ci, k, t) (xi_tab_mem h)
def xki_X2 : List (Nat × Int32) := []
theorem xkia_X2 : ∀ q ∈ xki_X2, Cond.constant RX2 q.1 q.2 ∈ xTs := fun _ h => absurd h List.not_mem_nil
theorem xkio_X2 : ∀ x v, xi_tab xki_X2 x = some v → Cond.constant RX2 x v ∈ xTs := fun x v h => xkia_X2 (x, v) (xi_tab_mem h)
def xkl_X2 : List (Nat × Int64) := []
theorem xkla_X2 : ∀ q ∈ xkl_X2, Cond.constantLong RX2 q.1 q.2 ∈ xTs := fun _ h => absurd h List.not_mem_nil
theorem xklo_X2 : ∀ x v, xi_tab xkl_X2 x = some v → Cond.constantLong RX2 x v ∈ xTs := fun x v h => xkla_X2 (x, v) (xi_tab_mem h)
def xcs_X2 : List (Nat × Nat × Nat) := [(18, 5, 0), (24, 2, 1), (30, 6, 1), (40, 3, 1), (44, 2, 1)]
def xcv_X2 : List (Nat × Nat × Nat) := [(34, 4, 1)]
theorem xf_X3_9 : xi_Fok RX3 xTs vwCl xft 9 3 2 3 := ⟨RX3, TX3, 3, tyX3, rfl, by decide, xin_X3, xw_in 208 (by decide +kernel) rfl, rfl, tyX3_ok, nmX3, by decide, by decide, by decide, by decide⟩
theorem xf_X3_15 : xi_Fok RX3 xTs vwCl xft 15 3 0 0 := ⟨RX3, TX3, 3, tyX3, rfl, by decide, xin_X3, xw_in 204 (by decide +kernel) rfl, rfl, tyX3_ok, nmX3, by decide, by decide, by decide, by decide⟩
theorem xf_X3_19 : xi_Fok RX3 xTs vwCl xft 19 3 1 0 := ⟨RX3, TX3, 3, tyX3, rfl, by decide, xin_X3, xw_in 206 (by decide +kernel) rfl, rfl, tyX3_ok, nmX3, by decide, by decide, by decide, by decide⟩
theorem xf_X3_34 : xi_Fok RX3 xTs vwCl xft 34 5 0 0 := ⟨RX6, TX6, 14, tyX6, rfl, by decide, xin_X6, xw_in 85 (by decide +kernel) rfl, rfl, tyX6_ok, nmX6, by decide, by decide, by decide, by decide⟩
theorem xf_X3_49 : xi_Fok RX3 xTs vwCl xft 49 6 1 0 := ⟨RX7, TX7, 3, tyX7, rfl, by decide, xin_X7, xw_in 224 (by decide +kernel) rfl, rfl, tyX7_ok, nmX7, by decide, by decide, by decide, by decide⟩
theorem xf_X3_54 : xi_Fok RX3 xTs vwCl xft 54 6 2 3 := ⟨RX7, TX7, 3, tyX7, rfl, by decide, xin_X7, xw_in 228 (by decide +kernel) rfl, rfl, tyX7_ok, nmX7, by decide, by decide, by decide, by decide⟩
def xfl_X3 : List (Nat × Nat × Nat × Nat) := [(9, 3, 2, 3), (15, 3, 0, 0), (19, 3, 1, 0), (34, 5, 0, 0), (49, 6, 1, 0), (54, 6, 2, 3)]
theorem xfa_X3 : ∀ q ∈ xfl_X3, xi_Fok RX3 xTs vwCl xft q.1 q.2.1 q.2.2.1 q.2.2.2 := List.forall_mem_cons.mpr ⟨xf_X3_9, List.forall_mem_cons.mpr ⟨xf_X3_15, List.forall_mem_cons.mpr ⟨xf_X3_19, List.forall_mem_cons.mpr ⟨xf_X3_34, List.forall_mem_cons.mpr ⟨xf_X3_49, List.forall_mem_cons.mpr ⟨xf_X3_54, fun _ h => absurd h List.not_mem_nil⟩⟩⟩⟩⟩⟩
theorem xfo_X3 : ∀ x ci k t, xi_tab xfl_X3 x = some (ci, k, t) → xi_Fok RX3 xTs vwCl xft x ci k t := fun x ci k t h => xfa_X3 (x, ci, k, t) (xi_tab_mem h)
def xki_X3 : List (Nat × Int32) := []
theorem xkia_X3 : ∀ q ∈ xki_X3, Cond.constant RX3 q.1 q.2 ∈ xTs := fun _ h => absurd h List.not_mem_nil
theorem xkio_X3 : ∀ x v, xi_tab xki_X3 x = some v → Cond.constant RX3 x v ∈ xTs := fun x v h => xkia_X3 (x, v) (xi_tab_mem h)
def xkl_X3 : List (Nat × Int64) := []
theorem xkla_X3 : ∀ q ∈ xkl_X3, Cond.constantLong RX3 q.1 q.2 ∈ xTs := fun _ h => absurd h List.not_mem_nil
theorem xklo_X3 : ∀ x v, xi_tab xkl_X3 x = some v → Cond.constantLong RX3 x v ∈ xTs := fun x v h => xkla_X3 (x, v) (xi_tab_mem h)
def xcs_X3 : List (Nat × Nat × Nat) := [(22, 2, 0), (37, 3, 1), (41, 2, 1), (57, 2, 1)]
def xcv_X3 : List (Nat × Nat × Nat) := [(28, 2, 1), (45, 4, 0), (63, 2, 1)]
def xfl_X4 : List (Nat × Nat × Nat × Nat) := []
theorem xfa_X4 : ∀ q ∈ xfl_X4, xi_Fok RX4 xTs vwCl xft q.1 q.2.1 q.2.2.1 q.2.2.2 := fun _ h => absurd h List.not_mem_nil
theorem xfo_X4 : ∀ x ci k t, xi_tab xfl_X4 x = some (ci, k, t) → xi_Fok RX4 xTs vwCl xft x ci k t := fun x ci k t h => xfa_X4 (x, ci, k, t) (xi_tab_mem h)
def xki_X4 : List (Nat × Int32) := []
theorem xkia_X4 : ∀ q ∈ xki_X4, Cond.constant RX4 q.1 q.2 ∈ xTs := fun _ h => absurd h List.not_mem_nil
theorem xkio_X4 : ∀ x v, xi_tab xki_X4 x = some v → Cond.constant RX4 x v ∈ xTs := fun x v h => xkia_X4 (x, v) (xi_tab_mem h)
def xkl_X4 : List (Nat × Int64) := []
theorem xkla_X4 : ∀ q ∈ xkl_X4, Cond.constantLong RX4 q.1 q.2 ∈ xTs := fun _ h => absurd h List.not_mem_nil
theorem xklo_X4 : ∀ x v, xi_tab xkl_X4 x = some v → Cond.constantLong RX4 x v ∈ xTs := fun x v h => xkla_X4 (x, v) (xi_tab_mem h)
def xcs_X4 : List (Nat × Nat × Nat) := [(11, 2, 1), (15, 2, 1), (21, 2, 1)]
def xcv_X4 : List (Nat × Nat × Nat) := []
theorem xf_X5_9 : xi_Fok RX5 xTs vwCl xft 9 4 2 0 := ⟨RX5, TX5, 3, tyX5, rfl, by decide, xin_X5, xw_in 362 (by decide +kernel) rfl, rfl, tyX5_ok, nmX5, by decide, by decide, by decide, by decide⟩
theorem xf_X5_15 : xi_Fok RX5 xTs vwCl xft 15 4 0 3 := ⟨RX5, TX5, 3, tyX5, rfl, by decide, xin_X5, xw_in 360 (by decide +kernel) rfl, rfl, tyX5_ok, nmX5, by decide, by decide, by decide, by decide⟩
theorem xf_X5_46 : xi_Fok RX5 xTs vwCl xft 46 5 0 0 := ⟨RX6, TX6, 14, tyX6, rfl, by decide, xin_X6, xw_in 86 (by decide +kernel) rfl, rfl, tyX6_ok, nmX6, by decide, by decide, by decide, by decide⟩
theorem xf_X5_49 : xi_Fok RX5 xTs vwCl xft 49 5 5 3 := ⟨RX6, TX6, 14, tyX6, rfl, by decide, xin_X6, xw_in 99 (by decide +kernel) rfl, rfl, tyX6_ok, nmX6, by decide, by decide, by decide, by decide⟩
theorem xf_X5_57 : xi_Fok RX5 xTs vwCl xft 57 4 1 0 := ⟨RX5, TX5, 3, tyX5, rfl, by decide, xin_X5, xw_in 361 (by decide +kernel) rfl, rfl, tyX5_ok, nmX5, by decide, by decide, by decide, by decide⟩
theorem xf_X5_60 : xi_Fok RX5 xTs vwCl xft 60 6 1 0 := ⟨RX7, TX7, 3, tyX7, rfl, by decide, xin_X7, xw_in 225 (by decide +kernel) rfl, rfl, tyX7_ok, nmX7, by decide, by decide, by decide, by decide⟩
theorem xf_X5_65 : xi_Fok RX5 xTs vwCl xft 65 6 2 3 := ⟨RX7, TX7, 3, tyX7, rfl, by decide, xin_X7, xw_in 230 (by decide +kernel) rfl, rfl, tyX7_ok, nmX7, by decide, by decide, by decide, by decide⟩
theorem xf_X5_73 : xi_Fok RX5 xTs vwCl xft 73 5 7 3 := ⟨RX6, TX6, 14, tyX6, rfl, by decide, xin_X6, xw_in 104 (by decide +kernel) rfl, rfl, tyX6_ok, nmX6, by decide, by decide, by decide, by decide⟩
theorem xf_X5_76 : xi_Fok RX5 xTs vwCl xft 76 5 8 3 := ⟨RX6, TX6, 14, tyX6, rfl, by decide, xin_X6, xw_in 108 (by decide +kernel) rfl, rfl, tyX6_ok, nmX6, by decide, by decide, by decide, by decide⟩
theorem xf_X5_79 : xi_Fok RX5 xTs vwCl xft 79 5 9 3 := ⟨RX6, TX6, 14, tyX6, rfl, by decide, xin_X6, xw_in 111 (by decide +kernel) rfl, rfl, tyX6_ok, nmX6, by decide, by decide, by decide, by decide⟩
theorem xf_X5_82 : xi_Fok RX5 xTs vwCl xft 82 5 10 3 := ⟨RX6, TX6, 14, tyX6, rfl, by decide, xin_X6, xw_in 114 (by decide +kernel) rfl, rfl, tyX6_ok, nmX6, by decide, by decide, by decide, by decide⟩
theorem xf_X5_85 : xi_Fok RX5 xTs vwCl xft 85 5 1 0 := ⟨RX6, TX6, 14, tyX6, rfl, by decide, xin_X6, xw_in 89 (by decide +kernel) rfl, rfl, tyX6_ok, nmX6, by decide, by decide, by decide, by decide⟩
def xfl_X5 : List (Nat × Nat × Nat × Nat) := [(9, 4, 2, 0), (15, 4, 0, 3), (46, 5, 0, 0), (49, 5, 5, 3), (57, 4, 1, 0), (60, 6, 1, 0), (65, 6, 2, 3), (73, 5, 7, 3), (76, 5, 8, 3), (79, 5, 9, 3), (82, 5, 10, 3), (85, 5, 1, 0)]
theorem xfa_X5 : ∀ q ∈ xfl_X5, xi_Fok RX5 xTs vwCl xft q.1 q.2.1 q.2.2.1 q.2.2.2 := List.forall_mem_cons.mpr ⟨xf_X5_9, List.forall_mem_cons.mpr ⟨xf_X5_15, List.forall_mem_cons.mpr ⟨xf_X5_46, List.forall_mem_cons.mpr ⟨xf_X5_49, List.forall_mem_cons.mpr ⟨xf_X5_57, List.forall_mem_cons.mpr ⟨xf_X5_60, List.forall_mem_cons.mpr ⟨xf_X5_65, List.forall_mem_cons.mpr ⟨xf_X5_73, List.forall_mem_cons.mpr ⟨xf_X5_76, List.forall_mem_cons.mpr ⟨xf_X5_79, List.forall_mem_cons.mpr ⟨xf_X5_82, List.forall_mem_cons.mpr ⟨xf_X5_85, fun _ h => absurd h List.not_mem_nil⟩⟩⟩⟩⟩⟩⟩⟩⟩⟩⟩⟩
theorem xfo_X5 : ∀ x ci k t, xi_tab xfl_X5 x = some (ci, k, t) → xi_Fok RX5 xTs vwCl xft x ci k t := fun x ci k t h => xfa_X5 (x, ci, k, t) (xi_tab_mem h)
def xki_X5 : List (Nat × Int32) := []
theorem xkia_X5 : ∀ q ∈ xki_X5, Cond.constant RX5 q.1 q.2 ∈ xTs := fun _ h => absurd h List.not_mem_nil
theorem xkio_X5 : ∀ x v, xi_tab xki_X5 x = some v → Cond.constant RX5 x v ∈ xTs := fun x v h => xkia_X5 (x, v) (xi_tab_mem h)
def xkl_X5 : List (Nat × Int64) := []
theorem xkla_X5 : ∀ q ∈ xkl_X5, Cond.constantLong RX5 q.1 q.2 ∈ xTs := fun _ h => absurd h List.not_mem_nil
theorem xklo_X5 : ∀ x v, xi_tab xkl_X5 x = some v → Cond.constantLong RX5 x v ∈ xTs := fun x v h => xkla_X5 (x, v) (xi_tab_mem h)
def xcs_X5 : List (Nat × Nat × Nat) := [(68, 1, 1)]
def xcv_X5 : List (Nat × Nat × Nat) := [(19, 1, 0), (24, 2, 0), (28, 3, 0), (32, 3, 0), (35, 1, 0), (38, 2, 0), (42, 3, 1), (53, 2, 1)]
theorem xf_X6_9 : xi_Fok RX6 xTs vwCl xft 9 5 5 3 := ⟨RX6, TX6, 14, tyX6, rfl, by decide, xin_X6, xw_in 96 (by decide +kernel) rfl, rfl, tyX6_ok, nmX6, by decide, by decide, by decide, by decide⟩
theorem xf_X6_15 : xi_Fok RX6 xTs vwCl xft 15 5 6 3 := ⟨RX6, TX6, 14, tyX6, rfl, by decide, xin_X6, xw_in 101 (by decide +kernel) rfl, rfl, tyX6_ok, nmX6, by decide, by decide, by decide, by decide⟩
theorem xf_X6_18 : xi_Fok RX6 xTs vwCl xft 18 5 7 3 := ⟨RX6, TX6, 14, tyX6, rfl, by decide, xin_X6, xw_in 103 (by decide +kernel) rfl, rfl, tyX6_ok, nmX6, by decide, by decide, by decide, by decide⟩
theorem xf_X6_21 : xi_Fok RX6 xTs vwCl xft 21 5 8 3 := ⟨RX6, TX6, 14, tyX6, rfl, by decide, xin_X6, xw_in 106 (by decide +kernel) rfl, rfl, tyX6_ok, nmX6, by decide, by decide, by decide, by decide⟩
theorem xf_X6_24 : xi_Fok RX6 xTs vwCl xft 24 5 9 3 := ⟨RX6, TX6, 14, tyX6, rfl, by decide, xin_X6, xw_in 110 (by decide +kernel) rfl, rfl, tyX6_ok, nmX6, by decide, by decide, by decide, by decide⟩
theorem xf_X6_27 : xi_Fok RX6 xTs vwCl xft 27 5 10 3 := ⟨RX6, TX6, 14, tyX6, rfl, by decide, xin_X6, xw_in 113 (by decide +kernel) rfl, rfl, tyX6_ok, nmX6, by decide, by decide, by decide, by decide⟩
theorem xf_X6_30 : xi_Fok RX6 xTs vwCl xft 30 5 11 3 := ⟨RX6, TX6, 14, tyX6, rfl, by decide, xin_X6, xw_in 116 (by decide +kernel) rfl, rfl, tyX6_ok, nmX6, by decide, by decide, by decide, by decide⟩
theorem xf_X6_33 : xi_Fok RX6 xTs vwCl xft 33 5 12 3 := ⟨RX6, TX6, 14, tyX6, rfl, by decide, xin_X6, xw_in 117 (by decide +kernel) rfl, rfl, tyX6_ok, nmX6, by decide, by decide, by decide, by decide⟩
theorem xf_X6_36 : xi_Fok RX6 xTs vwCl xft 36 5 13 3 := ⟨RX6, TX6, 14, tyX6, rfl, by decide, xin_X6, xw_in 118 (by decide +kernel) rfl, rfl, tyX6_ok, nmX6, by decide, by decide, by decide, by decide⟩
theorem xf_X6_39 : xi_Fok RX6 xTs vwCl xft 39 5 0 0 := ⟨RX6, TX6, 14, tyX6, rfl, by decide, xin_X6, xw_in 83 (by decide +kernel) rfl, rfl, tyX6_ok, nmX6, by decide, by decide, by decide, by decide⟩
theorem xf_X6_43 : xi_Fok RX6 xTs vwCl xft 43 5 1 0 := ⟨RX6, TX6, 14, tyX6, rfl, by decide, xin_X6, xw_in 87 (by decide +kernel) rfl, rfl, tyX6_ok, nmX6, by decide, by decide, by decide, by decide⟩
theorem xf_X6_46 : xi_Fok RX6 xTs vwCl xft 46 5 2 0 := ⟨RX6, TX6, 14, tyX6, rfl, by decide, xin_X6, xw_in 91 (by decide +kernel) rfl, rfl, tyX6_ok, nmX6, by decide, by decide, by decide, by decide⟩
theorem xf_X6_49 : xi_Fok RX6 xTs vwCl xft 49 5 3 0 := ⟨RX6, TX6, 14, tyX6, rfl, by decide, xin_X6, xw_in 92 (by decide +kernel) rfl, rfl, tyX6_ok, nmX6, by decide, by decide, by decide, by decide⟩
theorem xf_X6_52 : xi_Fok RX6 xTs vwCl xft 52 5 4 0 := ⟨RX6, TX6, 14, tyX6, rfl, by decide, xin_X6, xw_in 94 (by decide +kernel) rfl, rfl, tyX6_ok, nmX6, by decide, by decide, by decide, by decide⟩
def xfl_X6 : List (Nat × Nat × Nat × Nat) := [(9, 5, 5, 3), (15, 5, 6, 3), (18, 5, 7, 3), (21, 5, 8, 3), (24, 5, 9, 3), (27, 5, 10, 3), (30, 5, 11, 3), (33, 5, 12, 3), (36, 5, 13, 3), (39, 5, 0, 0), (43, 5, 1, 0), (46, 5, 2, 0), (49, 5, 3, 0), (52, 5, 4, 0)]
theorem xfa_X6 : ∀ q ∈ xfl_X6, xi_Fok RX6 xTs vwCl xft q.1 q.2.1 q.2.2.1 q.2.2.2 := List.forall_mem_cons.mpr ⟨xf_X6_9, List.forall_mem_cons.mpr ⟨xf_X6_15, List.forall_mem_cons.mpr ⟨xf_X6_18, List.forall_mem_cons.mpr ⟨xf_X6_21, List.forall_mem_cons.mpr ⟨xf_X6_24, List.forall_mem_cons.mpr ⟨xf_X6_27, List.forall_mem_cons.mpr ⟨xf_X6_30, List.forall_mem_cons.mpr ⟨xf_X6_33, List.forall_mem_cons.mpr ⟨xf_X6_36, List.forall_mem_cons.mpr ⟨xf_X6_39, List.forall_mem_cons.mpr ⟨xf_X6_43, List.forall_mem_cons.mpr ⟨xf_X6_46, List.forall_mem_cons.mpr ⟨xf_X6_49, List.forall_mem_cons.mpr ⟨xf_X6_52, fun _ h => absurd h List.not_mem_nil⟩⟩⟩⟩⟩⟩⟩⟩⟩⟩⟩⟩⟩⟩
theorem xfo_X6 : ∀ x ci k t, xi_tab xfl_X6 x = some (ci, k, t) → xi_Fok RX6 xTs vwCl xft x ci k t := fun x ci k t h => xfa_X6 (x, ci, k, t) (xi_tab_mem h)
def xki_X6 : List (Nat × Int32) := [(91, 2097151)]
theorem xkia_X6 : ∀ q ∈ xki_X6, Cond.constant RX6 q.1 q.2 ∈ xTs := List.forall_mem_cons.mpr ⟨xw_in 467 (by decide +kernel) rfl, fun _ h => absurd h List.not_mem_nil⟩
theorem xkio_X6 : ∀ x v, xi_tab xki_X6 x = some v → Cond.constant RX6 x v ∈ xTs := fun x v h => xkia_X6 (x, v) (xi_tab_mem h)
def xkl_X6 : List (Nat × Int64) := []
theorem xkla_X6 : ∀ q ∈ xkl_X6, Cond.constantLong RX6 q.1 q.2 ∈ xTs := fun _ h => absurd h List.not_mem_nil
theorem xklo_X6 : ∀ x v, xi_tab xkl_X6 x = some v → Cond.constantLong RX6 x v ∈ xTs := fun x v h => xkla_X6 (x, v) (xi_tab_mem h)
def xcs_X6 : List (Nat × Nat × Nat) := [(55, 2, 0), (61, 5, 0), (67, 4, 1), (76, 2, 1), (82, 2, 1), (85, 2, 1), (88, 2, 1), (95, 3, 1), (114, 1, 1), (119, 1, 1), (125, 2, 1)]
def xcv_X6 : List (Nat × Nat × Nat) := [(73, 2, 1), (92, 2, 1), (99, 2, 1), (102, 3, 1), (105, 2, 1), (108, 2, 1), (111, 2, 1), (122, 2, 1), (129, 4, 0), (133, 3, 0), (137, 4, 0)]
theorem xf_X7_9 : xi_Fok RX7 xTs vwCl xft 9 6 2 3 := ⟨RX7, TX7, 3, tyX7, rfl, by decide, xin_X7, xw_in 227 (by decide +kernel) rfl, rfl, tyX7_ok, nmX7, by decide, by decide, by decide, by decide⟩
theorem xf_X7_15 : xi_Fok RX7 xTs vwCl xft 15 6 0 1 := ⟨RX7, TX7, 3, tyX7, rfl, by decide, xin_X7, xw_in 221 (by decide +kernel) rfl, rfl, tyX7_ok, nmX7, by decide, by decide, by decide, by decide⟩
theorem xf_X7_19 : xi_Fok RX7 xTs vwCl xft 19 6 1 0 := ⟨RX7, TX7, 3, tyX7, rfl, by decide, xin_X7, xw_in 223 (by decide +kernel) rfl, rfl, tyX7_ok, nmX7, by decide, by decide, by decide, by decide⟩
def xfl_X7 : List (Nat × Nat × Nat × Nat) := [(9, 6, 2, 3), (15, 6, 0, 1), (19, 6, 1, 0)]
theorem xfa_X7 : ∀ q ∈ xfl_X7, xi_Fok RX7 xTs vwCl xft q.1 q.2.1 q.2.2.1 q.2.2.2 := List.forall_mem_cons.mpr ⟨xf_X7_9, List.forall_mem_cons.mpr ⟨xf_X7_15, List.forall_mem_cons.mpr ⟨xf_X7_19, fun _ h => absurd h List.not_mem_nil⟩⟩⟩
theorem xfo_X7 : ∀ x ci k t, xi_tab xfl_X7 x = some (ci, k, t) → xi_Fok RX7 xTs vwCl xft x ci k t := fun x ci k t h => xfa_X7 (x, ci, k, t) (xi_tab_mem h)
def xki_X7 : List (Nat × Int32) := []
theorem xkia_X7 : ∀ q ∈ xki_X7, Cond.constant RX7 q.1 q.2 ∈ xTs := fun _ h => absurd h List.not_mem_nil
theorem xkio_X7 : ∀ x v, xi_tab xki_X7 x = some v → Cond.constant RX7 x v ∈ xTs := fun x v h => xkia_X7 (x, v) (xi_tab_mem h)
def xkl_X7 : List (Nat × Int64) := [(33, 31)]
theorem xkla_X7 : ∀ q ∈ xkl_X7, Cond.constantLong RX7 q.1 q.2 ∈ xTs := List.forall_mem_cons.mpr ⟨xw_in 821 (by decide +kernel) rfl, fun _ h => absurd h List.not_mem_nil⟩
theorem xklo_X7 : ∀ x v, xi_tab xkl_X7 x = some v → Cond.constantLong RX7 x v ∈ xTs := fun x v h => xkla_X7 (x, v) (xi_tab_mem h)
def xcs_X7 : List (Nat × Nat × Nat) := [(23, 2, 0), (29, 2, 1)]
def xcv_X7 : List (Nat × Nat × Nat) := []
theorem xf_X8_11 : xi_Fok RX8 xTs vwCl xft 11 7 0 3 := ⟨RX8, TX8, 14, tyX8, rfl, by decide, xin_X8, xw_in 238 (by decide +kernel) rfl, rfl, tyX8_ok, nmX8, by decide, by decide, by decide, by decide⟩
theorem xf_X8_15 : xi_Fok RX8 xTs vwCl xft 15 7 1 3 := ⟨RX8, TX8, 14, tyX8, rfl, by decide, xin_X8, xw_in 239 (by decide +kernel) rfl, rfl, tyX8_ok, nmX8, by decide, by decide, by decide, by decide⟩
theorem xf_X8_21 : xi_Fok RX8 xTs vwCl xft 21 7 2 3 := ⟨RX8, TX8, 14, tyX8, rfl, by decide, xin_X8, xw_in 240 (by decide +kernel) rfl, rfl, tyX8_ok, nmX8, by decide, by decide, by decide, by decide⟩
theorem xf_X8_25 : xi_Fok RX8 xTs vwCl xft 25 7 3 3 := ⟨RX8, TX8, 14, tyX8, rfl, by decide, xin_X8, xw_in 241 (by decide +kernel) rfl, rfl, tyX8_ok, nmX8, by decide, by decide, by decide, by decide⟩
theorem xf_X8_28 : xi_Fok RX8 xTs vwCl xft 28 7 4 3 := ⟨RX8, TX8, 14, tyX8, rfl, by decide, xin_X8, xw_in 242 (by decide +kernel) rfl, rfl, tyX8_ok, nmX8, by decide, by decide, by decide, by decide⟩
theorem xf_X8_35 : xi_Fok RX8 xTs vwCl xft 35 7 5 3 := ⟨RX8, TX8, 14, tyX8, rfl, by decide, xin_X8, xw_in 243 (by decide +kernel) rfl, rfl, tyX8_ok, nmX8, by decide, by decide, by decide, by decide⟩
theorem xf_X8_42 : xi_Fok RX8 xTs vwCl xft 42 7 6 3 := ⟨RX8, TX8, 14, tyX8, rfl, by decide, xin_X8, xw_in 244 (by decide +kernel) rfl, rfl, tyX8_ok, nmX8, by decide, by decide, by decide, by decide⟩
theorem xf_X8_49 : xi_Fok RX8 xTs vwCl xft 49 7 7 3 := ⟨RX8, TX8, 14, tyX8, rfl, by decide, xin_X8, xw_in 245 (by decide +kernel) rfl, rfl, tyX8_ok, nmX8, by decide, by decide, by decide, by decide⟩
theorem xf_X8_56 : xi_Fok RX8 xTs vwCl xft 56 7 8 3 := ⟨RX8, TX8, 14, tyX8, rfl, by decide, xin_X8, xw_in 246 (by decide +kernel) rfl, rfl, tyX8_ok, nmX8, by decide, by decide, by decide, by decide⟩
theorem xf_X8_60 : xi_Fok RX8 xTs vwCl xft 60 7 9 3 := ⟨RX8, TX8, 14, tyX8, rfl, by decide, xin_X8, xw_in 247 (by decide +kernel) rfl, rfl, tyX8_ok, nmX8, by decide, by decide, by decide, by decide⟩
theorem xf_X8_64 : xi_Fok RX8 xTs vwCl xft 64 7 13 2 := ⟨RX8, TX8, 14, tyX8, rfl, by decide, xin_X8, xw_in 251 (by decide +kernel) rfl, rfl, tyX8_ok, nmX8, by decide, by decide, by decide, by decide⟩
theorem xf_X8_86 : xi_Fok RX8 xTs vwCl xft 86 6 2 3 := ⟨RX7, TX7, 3, tyX7, rfl, by decide, xin_X7, xw_in 229 (by decide +kernel) rfl, rfl, tyX7_ok, nmX7, by decide, by decide, by decide, by decide⟩
theorem xf_X8_92 : xi_Fok RX8 xTs vwCl xft 92 6 0 1 := ⟨RX7, TX7, 3, tyX7, rfl, by decide, xin_X7, xw_in 222 (by decide +kernel) rfl, rfl, tyX7_ok, nmX7, by decide, by decide, by decide, by decide⟩
theorem xf_X8_105 : xi_Fok RX8 xTs vwCl xft 105 6 1 0 := ⟨RX7, TX7, 3, tyX7, rfl, by decide, xin_X7, xw_in 226 (by decide +kernel) rfl, rfl, tyX7_ok, nmX7, by decide, by decide, by decide, by decide⟩
theorem xf_X8_129 : xi_Fok RX8 xTs vwCl xft 129 5 1 0 := ⟨RX6, TX6, 14, tyX6, rfl, by decide, xin_X6, xw_in 90 (by decide +kernel) rfl, rfl, tyX6_ok, nmX6, by decide, by decide, by decide, by decide⟩
theorem xf_X8_142 : xi_Fok RX8 xTs vwCl xft 142 5 7 3 := ⟨RX6, TX6, 14, tyX6, rfl, by decide, xin_X6, xw_in 105 (by decide +kernel) rfl, rfl, tyX6_ok, nmX6, by decide, by decide, by decide, by decide⟩
theorem xf_X8_151 : xi_Fok RX8 xTs vwCl xft 151 5 9 3 := ⟨RX6, TX6, 14, tyX6, rfl, by decide, xin_X6, xw_in 112 (by decide +kernel) rfl, rfl, tyX6_ok, nmX6, by decide, by decide, by decide, by decide⟩
theorem xf_X8_167 : xi_Fok RX8 xTs vwCl xft 167 5 8 3 := ⟨RX6, TX6, 14, tyX6, rfl, by decide, xin_X6, xw_in 109 (by decide +kernel) rfl, rfl, tyX6_ok, nmX6, by decide, by decide, by decide, by decide⟩
theorem xf_X8_176 : xi_Fok RX8 xTs vwCl xft 176 5 3 0 := ⟨RX6, TX6, 14, tyX6, rfl, by decide, xin_X6, xw_in 93 (by decide +kernel) rfl, rfl, tyX6_ok, nmX6, by decide, by decide, by decide, by decide⟩
theorem xf_X8_183 : xi_Fok RX8 xTs vwCl xft 183 5 4 0 := ⟨RX6, TX6, 14, tyX6, rfl, by decide, xin_X6, xw_in 95 (by decide +kernel) rfl, rfl, tyX6_ok, nmX6, by decide, by decide, by decide, by decide⟩
theorem xf_X8_192 : xi_Fok RX8 xTs vwCl xft 192 5 5 3 := ⟨RX6, TX6, 14, tyX6, rfl, by decide, xin_X6, xw_in 100 (by decide +kernel) rfl, rfl, tyX6_ok, nmX6, by decide, by decide, by decide, by decide⟩
theorem xf_X8_221 : xi_Fok RX8 xTs vwCl xft 221 5 6 3 := ⟨RX6, TX6, 14, tyX6, rfl, by decide, xin_X6, xw_in 102 (by decide +kernel) rfl, rfl, tyX6_ok, nmX6, by decide, by decide, by decide, by decide⟩
theorem xf_X8_248 : xi_Fok RX8 xTs vwCl xft 248 3 0 0 := ⟨RX3, TX3, 3, tyX3, rfl, by decide, xin_X3, xw_in 205 (by decide +kernel) rfl, rfl, tyX3_ok, nmX3, by decide, by decide, by decide, by decide⟩
theorem xf_X8_255 : xi_Fok RX8 xTs vwCl xft 255 3 1 0 := ⟨RX3, TX3, 3, tyX3, rfl, by decide, xin_X3, xw_in 207 (by decide +kernel) rfl, rfl, tyX3_ok, nmX3, by decide, by decide, by decide, by decide⟩
theorem xf_X8_271 : xi_Fok RX8 xTs vwCl xft 271 5 10 3 := ⟨RX6, TX6, 14, tyX6, rfl, by decide, xin_X6, xw_in 115 (by decide +kernel) rfl, rfl, tyX6_ok, nmX6, by decide, by decide, by decide, by decide⟩
theorem xf_X8_298 : xi_Fok RX8 xTs vwCl xft 298 7 11 0 := ⟨RX8, TX8, 14, tyX8, rfl, by decide, xin_X8, xw_in 249 (by decide +kernel) rfl, rfl, tyX8_ok, nmX8, by decide, by decide, by decide, by decide⟩
theorem xf_X8_301 : xi_Fok RX8 xTs vwCl xft 301 7 12 2 := ⟨RX8, TX8, 14, tyX8, rfl, by decide, xin_X8, xw_in 250 (by decide +kernel) rfl, rfl, tyX8_ok, nmX8, by decide, by decide, by decide, by decide⟩
theorem xf_X8_314 : xi_Fok RX8 xTs vwCl xft 314 7 10 0 := ⟨RX8, TX8, 14, tyX8, rfl, by decide, xin_X8, xw_in 248 (by decide +kernel) rfl, rfl, tyX8_ok, nmX8, by decide, by decide, by decide, by decide⟩
def xfl_X8 : List (Nat × Nat × Nat × Nat) := [(11, 7, 0, 3), (15, 7, 1, 3), (21, 7, 2, 3), (25, 7, 3, 3), (28, 7, 4, 3), (35, 7, 5, 3), (42, 7, 6, 3), (49, 7, 7, 3), (56, 7, 8, 3), (60, 7, 9, 3), (64, 7, 13, 2), (86, 6, 2, 3), (92, 6, 0, 1), (105, 6, 1, 0), (129, 5, 1, 0), (142, 5, 7, 3), (151, 5, 9, 3), (167, 5, 8, 3), (176, 5, 3, 0), (183, 5, 4, 0), (192, 5, 5, 3), (221, 5, 6, 3), (248, 3, 0, 0), (255, 3, 1, 0), (271, 5, 10, 3), (298, 7, 11, 0), (301, 7, 12, 2), (314, 7, 10, 0)]
theorem xfa_X8 : ∀ q ∈ xfl_X8, xi_Fok RX8 xTs vwCl xft q.1 q.2.1 q.2.2.1 q.2.2.2 := List.forall_mem_cons.mpr ⟨xf_X8_11, List.forall_mem_cons.mpr ⟨xf_X8_15, List.forall_mem_cons.mpr ⟨xf_X8_21, List.forall_mem_cons.mpr ⟨xf_X8_25, List.forall_mem_cons.mpr ⟨xf_X8_28, List.forall_mem_cons.mpr ⟨xf_X8_35, List.forall_mem_cons.mpr ⟨xf_X8_42, List.forall_mem_cons.mpr ⟨xf_X8_49, List.forall_mem_cons.mpr ⟨xf_X8_56, List.forall_mem_cons.mpr ⟨xf_X8_60, List.forall_mem_cons.mpr ⟨xf_X8_64, List.forall_mem_cons.mpr ⟨xf_X8_86, List.forall_mem_cons.mpr ⟨xf_X8_92, List.forall_mem_cons.mpr ⟨xf_X8_105, List.forall_mem_cons.mpr ⟨xf_X8_129, List.forall_mem_cons.mpr ⟨xf_X8_142, List.forall_mem_cons.mpr ⟨xf_X8_151, List.forall_mem_cons.mpr ⟨xf_X8_167, List.forall_mem_cons.mpr ⟨xf_X8_176, List.forall_mem_cons.mpr ⟨xf_X8_183, List.forall_mem_cons.mpr ⟨xf_X8_192, List.forall_mem_cons.mpr ⟨xf_X8_221, List.forall_mem_cons.mpr ⟨xf_X8_248, List.forall_mem_cons.mpr ⟨xf_X8_255, List.forall_mem_cons.mpr ⟨xf_X8_271, List.forall_mem_cons.mpr ⟨xf_X8_298, List.forall_mem_cons.mpr ⟨xf_X8_301, List.forall_mem_cons.mpr ⟨xf_X8_314, fun _ h => absurd h List.not_mem_nil⟩⟩⟩⟩⟩⟩⟩⟩⟩⟩⟩⟩⟩⟩⟩⟩⟩⟩⟩⟩⟩⟩⟩⟩⟩⟩⟩⟩
theorem xfo_X8 : ∀ x ci k t, xi_tab xfl_X8 x = some (ci, k, t) → xi_Fok RX8 xTs vwCl xft x ci k t := fun x ci k t h => xfa_X8 (x, ci, k, t) (xi_tab_mem h)
def xki_X8 : List (Nat × Int32) := []
theorem xkia_X8 : ∀ q ∈ xki_X8, Cond.constant RX8 q.1 q.2 ∈ xTs := fun _ h => absurd h List.not_mem_nil
theorem xkio_X8 : ∀ x v, xi_tab xki_X8 x = some v → Cond.constant RX8 x v ∈ xTs := fun x v h => xkia_X8 (x, v) (xi_tab_mem h)
def xkl_X8 : List (Nat × Int64) := [(289, 12), (291, 2147483647), (293, 48271), (317, 17), (319, 31)]
theorem xkla_X8 : ∀ q ∈ xkl_X8, Cond.constantLong RX8 q.1 q.2 ∈ xTs := List.forall_mem_cons.mpr ⟨xw_in 759 (by decide +kernel) rfl, List.forall_mem_cons.mpr ⟨xw_in 764 (by decide +kernel) rfl, List.forall_mem_cons.mpr ⟨xw_in 765 (by decide +kernel) rfl, List.forall_mem_cons.mpr ⟨xw_in 814 (by decide +kernel) rfl, List.forall_mem_cons.mpr ⟨xw_in 815 (by decide +kernel) rfl, fun _ h => absurd h List.not_mem_nil⟩⟩⟩⟩⟩
theorem xklo_X8 : ∀ x v, xi_tab xkl_X8 x = some v → Cond.constantLong RX8 x v ∈ xTs := fun x v h => xkla_X8 (x, v) (xi_tab_mem h)
def xcs_X8 : List (Nat × Nat × Nat) := [(71, 2, 1), (99, 5, 0), (145, 2, 1), (154, 1, 1), (162, 1, 1), (195, 3, 1), (274, 4, 1), (304, 1, 1), (328, 2, 1), (334, 4, 1)]
def xcv_X8 : List (Nat × Nat × Nat) := [(75, 4, 1), (79, 2, 1), (83, 2, 1), (89, 2, 1), (96, 3, 1), (109, 1, 2), (118, 2, 1), (122, 2, 0), (126, 1, 0), (132, 2, 1), (136, 3, 1), (148, 2, 1), (159, 2, 1), (170, 3, 1), (173, 3, 1), (179, 4, 1), (186, 2, 1), (189, 2, 0), (199, 2, 1), (202, 3, 0), (206, 2, 0), (209, 3, 0), (212, 2, 1), (215, 2, 1), (218, 2, 1), (224, 3, 1), (227, 2, 0), (228, 3, 0), (232, 3, 1), (235, 3, 0), (238, 2, 0), (242, 3, 1), (245, 4, 0), (251, 3, 0), (258, 2, 1), (261, 1, 1), (265, 2, 1), (268, 3, 1), (278, 2, 1), (281, 4, 1), (285, 3, 2), (295, 2, 0), (308, 1, 1), (311, 2, 1), (321, 2, 1), (324, 2, 2), (331, 3, 1)]
theorem xf_X9_7 : xi_Fok RX9 xTs vwCl xft 7 8 0 3 := ⟨RX9, TX9, 21, tyX9, rfl, by decide, xin_X9, xw_in 828 (by decide +kernel) rfl, rfl, tyX9_ok, nmX9, by decide, by decide, by decide, by decide⟩
theorem xf_X9_13 : xi_Fok RX9 xTs vwCl xft 13 8 1 3 := ⟨RX9, TX9, 21, tyX9, rfl, by decide, xin_X9, xw_in 829 (by decide +kernel) rfl, rfl, tyX9_ok, nmX9, by decide, by decide, by decide, by decide⟩
theorem xf_X9_16 : xi_Fok RX9 xTs vwCl xft 16 8 2 3 := ⟨RX9, TX9, 21, tyX9, rfl, by decide, xin_X9, xw_in 830 (by decide +kernel) rfl, rfl, tyX9_ok, nmX9, by decide, by decide, by decide, by decide⟩
theorem xf_X9_19 : xi_Fok RX9 xTs vwCl xft 19 8 3 3 := ⟨RX9, TX9, 21, tyX9, rfl, by decide, xin_X9, xw_in 831 (by decide +kernel) rfl, rfl, tyX9_ok, nmX9, by decide, by decide, by decide, by decide⟩
theorem xf_X9_22 : xi_Fok RX9 xTs vwCl xft 22 8 4 3 := ⟨RX9, TX9, 21, tyX9, rfl, by decide, xin_X9, xw_in 832 (by decide +kernel) rfl, rfl, tyX9_ok, nmX9, by decide, by decide, by decide, by decide⟩
theorem xf_X9_25 : xi_Fok RX9 xTs vwCl xft 25 8 5 3 := ⟨RX9, TX9, 21, tyX9, rfl, by decide, xin_X9, xw_in 833 (by decide +kernel) rfl, rfl, tyX9_ok, nmX9, by decide, by decide, by decide, by decide⟩
theorem xf_X9_28 : xi_Fok RX9 xTs vwCl xft 28 8 6 3 := ⟨RX9, TX9, 21, tyX9, rfl, by decide, xin_X9, xw_in 834 (by decide +kernel) rfl, rfl, tyX9_ok, nmX9, by decide, by decide, by decide, by decide⟩
theorem xf_X9_31 : xi_Fok RX9 xTs vwCl xft 31 8 7 3 := ⟨RX9, TX9, 21, tyX9, rfl, by decide, xin_X9, xw_in 835 (by decide +kernel) rfl, rfl, tyX9_ok, nmX9, by decide, by decide, by decide, by decide⟩
theorem xf_X9_34 : xi_Fok RX9 xTs vwCl xft 34 8 8 3 := ⟨RX9, TX9, 21, tyX9, rfl, by decide, xin_X9, xw_in 836 (by decide +kernel) rfl, rfl, tyX9_ok, nmX9, by decide, by decide, by decide, by decide⟩
theorem xf_X9_37 : xi_Fok RX9 xTs vwCl xft 37 8 10 3 := ⟨RX9, TX9, 21, tyX9, rfl, by decide, xin_X9, xw_in 838 (by decide +kernel) rfl, rfl, tyX9_ok, nmX9, by decide, by decide, by decide, by decide⟩
theorem xf_X9_40 : xi_Fok RX9 xTs vwCl xft 40 8 11 3 := ⟨RX9, TX9, 21, tyX9, rfl, by decide, xin_X9, xw_in 839 (by decide +kernel) rfl, rfl, tyX9_ok, nmX9, by decide, by decide, by decide, by decide⟩
theorem xf_X9_43 : xi_Fok RX9 xTs vwCl xft 43 8 12 3 := ⟨RX9, TX9, 21, tyX9, rfl, by decide, xin_X9, xw_in 840 (by decide +kernel) rfl, rfl, tyX9_ok, nmX9, by decide, by decide, by decide, by decide⟩
theorem xf_X9_46 : xi_Fok RX9 xTs vwCl xft 46 8 14 3 := ⟨RX9, TX9, 21, tyX9, rfl, by decide, xin_X9, xw_in 842 (by decide +kernel) rfl, rfl, tyX9_ok, nmX9, by decide, by decide, by decide, by decide⟩
theorem xf_X9_49 : xi_Fok RX9 xTs vwCl xft 49 8 17 2 := ⟨RX9, TX9, 21, tyX9, rfl, by decide, xin_X9, xw_in 845 (by decide +kernel) rfl, rfl, tyX9_ok, nmX9, by decide, by decide, by decide, by decide⟩
theorem xf_X9_53 : xi_Fok RX9 xTs vwCl xft 53 8 20 3 := ⟨RX9, TX9, 21, tyX9, rfl, by decide, xin_X9, xw_in 848 (by decide +kernel) rfl, rfl, tyX9_ok, nmX9, by decide, by decide, by decide, by decide⟩
theorem xf_X9_56 : xi_Fok RX9 xTs vwCl xft 56 8 13 0 := ⟨RX9, TX9, 21, tyX9, rfl, by decide, xin_X9, xw_in 841 (by decide +kernel) rfl, rfl, tyX9_ok, nmX9, by decide, by decide, by decide, by decide⟩
theorem xf_X9_60 : xi_Fok RX9 xTs vwCl xft 60 8 15 0 := ⟨RX9, TX9, 21, tyX9, rfl, by decide, xin_X9, xw_in 843 (by decide +kernel) rfl, rfl, tyX9_ok, nmX9, by decide, by decide, by decide, by decide⟩
theorem xf_X9_84 : xi_Fok RX9 xTs vwCl xft 84 8 18 0 := ⟨RX9, TX9, 21, tyX9, rfl, by decide, xin_X9, xw_in 846 (by decide +kernel) rfl, rfl, tyX9_ok, nmX9, by decide, by decide, by decide, by decide⟩
theorem xf_X9_87 : xi_Fok RX9 xTs vwCl xft 87 8 19 0 := ⟨RX9, TX9, 21, tyX9, rfl, by decide, xin_X9, xw_in 847 (by decide +kernel) rfl, rfl, tyX9_ok, nmX9, by decide, by decide, by decide, by decide⟩
theorem xf_X9_125 : xi_Fok RX9 xTs vwCl xft 125 8 9 0 := ⟨RX9, TX9, 21, tyX9, rfl, by decide, xin_X9, xw_in 837 (by decide +kernel) rfl, rfl, tyX9_ok, nmX9, by decide, by decide, by decide, by decide⟩
theorem xf_X9_214 : xi_Fok RX9 xTs vwCl xft 214 8 16 2 := ⟨RX9, TX9, 21, tyX9, rfl, by decide, xin_X9, xw_in 844 (by decide +kernel) rfl, rfl, tyX9_ok, nmX9, by decide, by decide, by decide, by decide⟩
def xfl_X9 : List (Nat × Nat × Nat × Nat) := [(7, 8, 0, 3), (13, 8, 1, 3), (16, 8, 2, 3), (19, 8, 3, 3), (22, 8, 4, 3), (25, 8, 5, 3), (28, 8, 6, 3), (31, 8, 7, 3), (34, 8, 8, 3), (37, 8, 10, 3), (40, 8, 11, 3), (43, 8, 12, 3), (46, 8, 14, 3), (49, 8, 17, 2), (53, 8, 20, 3), (56, 8, 13, 0), (60, 8, 15, 0), (84, 8, 18, 0), (87, 8, 19, 0), (125, 8, 9, 0), (214, 8, 16, 2)]
theorem xfa_X9 : ∀ q ∈ xfl_X9, xi_Fok RX9 xTs vwCl xft q.1 q.2.1 q.2.2.1 q.2.2.2 := List.forall_mem_cons.mpr ⟨xf_X9_7, List.forall_mem_cons.mpr ⟨xf_X9_13, List.forall_mem_cons.mpr ⟨xf_X9_16, List.forall_mem_cons.mpr ⟨xf_X9_19, List.forall_mem_cons.mpr ⟨xf_X9_22, List.forall_mem_cons.mpr ⟨xf_X9_25, List.forall_mem_cons.mpr ⟨xf_X9_28, List.forall_mem_cons.mpr ⟨xf_X9_31, List.forall_mem_cons.mpr ⟨xf_X9_34, List.forall_mem_cons.mpr ⟨xf_X9_37, List.forall_mem_cons.mpr ⟨xf_X9_40, List.forall_mem_cons.mpr ⟨xf_X9_43, List.forall_mem_cons.mpr ⟨xf_X9_46, List.forall_mem_cons.mpr ⟨xf_X9_49, List.forall_mem_cons.mpr ⟨xf_X9_53, List.forall_mem_cons.mpr ⟨xf_X9_56, List.forall_mem_cons.mpr ⟨xf_X9_60, List.forall_mem_cons.mpr ⟨xf_X9_84, List.forall_mem_cons.mpr ⟨xf_X9_87, List.forall_mem_cons.mpr ⟨xf_X9_125, List.forall_mem_cons.mpr ⟨xf_X9_214, fun _ h => absurd h List.not_mem_nil⟩⟩⟩⟩⟩⟩⟩⟩⟩⟩⟩⟩⟩⟩⟩⟩⟩⟩⟩⟩⟩
theorem xfo_X9 : ∀ x ci k t, xi_tab xfl_X9 x = some (ci, k, t) → xi_Fok RX9 xTs vwCl xft x ci k t := fun x ci k t h => xfa_X9 (x, ci, k, t) (xi_tab_mem h)
def xki_X9 : List (Nat × Int32) := [(217, 2097151), (245, 2147483646)]
theorem xkia_X9 : ∀ q ∈ xki_X9, Cond.constant RX9 q.1 q.2 ∈ xTs := List.forall_mem_cons.mpr ⟨xw_in 1142 (by decide +kernel) rfl, List.forall_mem_cons.mpr ⟨xw_in 1211 (by decide +kernel) rfl, fun _ h => absurd h List.not_mem_nil⟩⟩
theorem xkio_X9 : ∀ x v, xi_tab xki_X9 x = some v → Cond.constant RX9 x v ∈ xTs := fun x v h => xkia_X9 (x, v) (xi_tab_mem h)
def xkl_X9 : List (Nat × Int64) := [(236, 12), (246, 48271), (248, 2147483647), (254, 8), (256, 64), (258, 4), (260, 21), (268, 31), (270, 17)]
theorem xkla_X9 : ∀ q ∈ xkl_X9, Cond.constantLong RX9 q.1 q.2 ∈ xTs := List.forall_mem_cons.mpr ⟨xw_in 1194 (by decide +kernel) rfl, List.forall_mem_cons.mpr ⟨xw_in 1212 (by decide +kernel) rfl, List.forall_mem_cons.mpr ⟨xw_in 1213 (by decide +kernel) rfl, List.forall_mem_cons.mpr ⟨xw_in 1218 (by decide +kernel) rfl, List.forall_mem_cons.mpr ⟨xw_in 1219 (by decide +kernel) rfl, List.forall_mem_cons.mpr ⟨xw_in 1220 (by decide +kernel) rfl, List.forall_mem_cons.mpr ⟨xw_in 1221 (by decide +kernel) rfl, List.forall_mem_cons.mpr ⟨xw_in 1258 (by decide +kernel) rfl, List.forall_mem_cons.mpr ⟨xw_in 1257 (by decide +kernel) rfl, fun _ h => absurd h List.not_mem_nil⟩⟩⟩⟩⟩⟩⟩⟩⟩
theorem xklo_X9 : ∀ x v, xi_tab xkl_X9 x = some v → Cond.constantLong RX9 x v ∈ xTs := fun x v h => xkla_X9 (x, v) (xi_tab_mem h)
def xcs_X9 : List (Nat × Nat × Nat) := [(63, 3, 1), (67, 1, 1), (81, 1, 1), (101, 1, 1), (121, 5, 0), (128, 4, 1), (132, 2, 1), (136, 2, 1), (139, 2, 1), (143, 3, 1), (147, 4, 1), (151, 3, 1), (154, 2, 1), (157, 3, 1), (160, 2, 1), (163, 1, 1), (173, 2, 1), (190, 1, 1), (193, 3, 1), (196, 2, 1), (199, 1, 1), (202, 2, 1), (221, 2, 1), (265, 1, 1), (275, 4, 2)]
def xcv_X9 : List (Nat × Nat × Nat) := [(71, 2, 1), (75, 2, 1), (78, 4, 1), (90, 2, 1), (93, 2, 0), (97, 4, 1), (104, 3, 1), (108, 2, 0), (111, 3, 0), (115, 2, 0), (118, 2, 1), (167, 2, 1), (170, 3, 1), (177, 2, 1), (180, 4, 1), (183, 1, 1), (187, 1, 0), (205, 2, 1), (208, 4, 1), (211, 5, 1), (218, 4, 1), (224, 4, 1), (227, 5, 1), (230, 2, 1), (233, 3, 1), (238, 3, 1), (241, 3, 1), (250, 2, 0), (262, 2, 1), (272, 2, 1)]
def xfl_J6 : List (Nat × Nat × Nat × Nat) := []
theorem xfa_J6 : ∀ q ∈ xfl_J6, xi_Fok RJ6 xTs vwCl xft q.1 q.2.1 q.2.2.1 q.2.2.2 := fun _ h => absurd h List.not_mem_nil
theorem xfo_J6 : ∀ x ci k t, xi_tab xfl_J6 x = some (ci, k, t) → xi_Fok RJ6 xTs vwCl xft x ci k t := fun x ci k t h => xfa_J6 (x, ci, k, t) (xi_tab_mem h)
def xki_J6 : List (Nat × Int32) := [(265, 1431655765), (266, 858993459), (267, 252645135)]
theorem xkia_J6 : ∀ q ∈ xki_J6, Cond.constant RJ6 q.1 q.2 ∈ xTs := List.forall_mem_cons.mpr ⟨xw_in 490 (by decide +kernel) rfl, List.forall_mem_cons.mpr ⟨xw_in 491 (by decide +kernel) rfl, List.forall_mem_cons.mpr ⟨xw_in 492 (by decide +kernel) rfl, fun _ h => absurd h List.not_mem_nil⟩⟩⟩
theorem xkio_J6 : ∀ x v, xi_tab xki_J6 x = some v → Cond.constant RJ6 x v ∈ xTs := fun x v h => xkia_J6 (x, v) (xi_tab_mem h)
def xkl_J6 : List (Nat × Int64) := []
theorem xkla_J6 : ∀ q ∈ xkl_J6, Cond.constantLong RJ6 q.1 q.2 ∈ xTs := fun _ h => absurd h List.not_mem_nil
theorem xklo_J6 : ∀ x v, xi_tab xkl_J6 x = some v → Cond.constantLong RJ6 x v ∈ xTs := fun x v h => xkla_J6 (x, v) (xi_tab_mem h)
def xcs_J6 : List (Nat × Nat × Nat) := []
def xcv_J6 : List (Nat × Nat × Nat) := []
def xfl_J9 : List (Nat × Nat × Nat × Nat) := []
theorem xfa_J9 : ∀ q ∈ xfl_J9, xi_Fok RJ9 xTs vwCl xft q.1 q.2.1 q.2.2.1 q.2.2.2 := fun _ h => absurd h List.not_mem_nil
theorem xfo_J9 : ∀ x ci k t, xi_tab xfl_J9 x = some (ci, k, t) → xi_Fok RJ9 xTs vwCl xft x ci k t := fun x ci k t h => xfa_J9 (x, ci, k, t) (xi_tab_mem h)
def xki_J9 : List (Nat × Int32) := []
theorem xkia_J9 : ∀ q ∈ xki_J9, Cond.constant RJ9 q.1 q.2 ∈ xTs := fun _ h => absurd h List.not_mem_nil
theorem xkio_J9 : ∀ x v, xi_tab xki_J9 x = some v → Cond.constant RJ9 x v ∈ xTs := fun x v h => xkia_J9 (x, v) (xi_tab_mem h)
def xkl_J9 : List (Nat × Int64) := []
theorem xkla_J9 : ∀ q ∈ xkl_J9, Cond.constantLong RJ9 q.1 q.2 ∈ xTs := fun _ h => absurd h List.not_mem_nil
theorem xklo_J9 : ∀ x v, xi_tab xkl_J9 x = some v → Cond.constantLong RJ9 x v ∈ xTs := fun x v h => xkla_J9 (x, v) (xi_tab_mem h)
def xcs_J9 : List (Nat × Nat × Nat) := []
def xcv_J9 : List (Nat × Nat × Nat) := []
def xfl_J7 : List (Nat × Nat × Nat × Nat) := []
theorem xfa_J7 : ∀ q ∈ xfl_J7, xi_Fok RJ7 xTs vwCl xft q.1 q.2.1 q.2.2.1 q.2.2.2 := fun _ h => absurd h List.not_mem_nil
theorem xfo_J7 : ∀ x ci k t, xi_tab xfl_J7 x = some (ci, k, t) → xi_Fok RJ7 xTs vwCl xft x ci k t := fun x ci k t h => xfa_J7 (x, ci, k, t) (xi_tab_mem h)
def xki_J7 : List (Nat × Int32) := []
theorem xkia_J7 : ∀ q ∈ xki_J7, Cond.constant RJ7 q.1 q.2 ∈ xTs := fun _ h => absurd h List.not_mem_nil
theorem xkio_J7 : ∀ x v, xi_tab xki_J7 x = some v → Cond.constant RJ7 x v ∈ xTs := fun x v h => xkia_J7 (x, v) (xi_tab_mem h)
def xkl_J7 : List (Nat × Int64) := []
theorem xkla_J7 : ∀ q ∈ xkl_J7, Cond.constantLong RJ7 q.1 q.2 ∈ xTs := fun _ h => absurd h List.not_mem_nil
theorem xklo_J7 : ∀ x v, xi_tab xkl_J7 x = some v → Cond.constantLong RJ7 x v ∈ xTs := fun x v h => xkla_J7 (x, v) (xi_tab_mem h)
def xcs_J7 : List (Nat × Nat × Nat) := []
def xcv_J7 : List (Nat × Nat × Nat) := []
end
section
section XCL
variable {l : Launch} {E : xi_E} {S : xi_S} {D : va_G} {tys : List (ClassId × FieldType)} {cc : ByteArray} {nL d : Nat} {As : List Value} {m1 m2 : xi_M} {r : Option Value} {f : xi_F}
theorem xc_X0_15 {d2 : Nat} (hs : ∀ As m1 r m2, f As m1 = some (r, m2) → xi_Sound l E S D vwCl tys xNs xTs yX0_goalsBy cX0_goalsBy 8 (some .int) d2 As m1 r m2) (hd : d2 + 1 ≤ d) : ∀ As m1 r m2, xi_wS 4 f As m1 = some (r, m2) → xi_Cal l E S D vwCl tys xNs RX0 xTs cc nL d (.invokestatic 15) As m1 r m2 := fun As m1 r m2 h => by
  obtain ⟨hl, h⟩ := xi_wS_some h
  exact xi_callS (hs _ _ _ _ h) xw_good (xw_in 621 (by decide +kernel) rfl) (xw_in 619 (by decide +kernel) rfl) (xw_in 620 (by decide +kernel) rfl) (xw_in 56 (by decide +kernel) rfl) ⟨by decide +kernel, by decide +kernel, by rw [hl]; decide +kernel⟩ hd (by decide)
theorem xc_X0_24 {d2 : Nat} (hs : ∀ As m1 r m2, f As m1 = some (r, m2) → xi_Sound l E S D vwCl tys xNs xTs yX0_first cX0_first 1 (some .int) d2 As m1 r m2) (hd : d2 + 1 ≤ d) : ∀ As m1 r m2, xi_wS 1 f As m1 = some (r, m2) → xi_Cal l E S D vwCl tys xNs RX0 xTs cc nL d (.invokestatic 24) As m1 r m2 := fun As m1 r m2 h => by
  obtain ⟨hl, h⟩ := xi_wS_some h
  exact xi_callS (hs _ _ _ _ h) xw_good (xw_in 624 (by decide +kernel) rfl) (xw_in 622 (by decide +kernel) rfl) (xw_in 623 (by decide +kernel) rfl) (xw_in 56 (by decide +kernel) rfl) ⟨by decide +kernel, by decide +kernel, by rw [hl]; decide +kernel⟩ hd (by decide)
theorem xc_X0_28 {d2 : Nat} (hs : ∀ As m1 r m2, f As m1 = some (r, m2) → xi_Sound l E S D vwCl tys xNs xTs yX0_second cX0_second 1 (some .int) d2 As m1 r m2) (hd : d2 + 1 ≤ d) : ∀ As m1 r m2, xi_wS 1 f As m1 = some (r, m2) → xi_Cal l E S D vwCl tys xNs RX0 xTs cc nL d (.invokestatic 28) As m1 r m2 := fun As m1 r m2 h => by
  obtain ⟨hl, h⟩ := xi_wS_some h
  exact xi_callS (hs _ _ _ _ h) xw_good (xw_in 627 (by decide +kernel) rfl) (xw_in 625 (by decide +kernel) rfl) (xw_in 626 (by decide +kernel) rfl) (xw_in 56 (by decide +kernel) rfl) ⟨by decide +kernel, by decide +kernel, by rw [hl]; decide +kernel⟩ hd (by decide)
theorem xc_X0_31 {d2 : Nat} (hE : xi_Eok E S vwCl tys) (hs : ∀ As m1 r m2, f As m1 = some (r, m2) → xi_Sound l E S D vwCl tys xNs xTs yX6_witnesses cX6_witnesses 4 (some .int) d2 As m1 r m2) (hd : d2 + 1 ≤ d) : ∀ As m1 r m2, xi_wV S 8 1 f As m1 = some (r, m2) → xi_Cal l E S D vwCl tys xNs RX0 xTs cc nL d (.invokevirtual 31) As m1 r m2 := fun As m1 r m2 h => by
  obtain ⟨b, t, rfl, hl, hb, h⟩ := xi_wV_some h
  exact xi_callV (T := TX6) (nf := 14) hE hb rfl (hs _ _ _ _ h) xw_good (xw_in 537 (by decide +kernel) rfl) (xw_in 628 (by decide +kernel) rfl) (xw_in 535 (by decide +kernel) rfl) (xw_in 536 (by decide +kernel) rfl) (xw_in 54 (by decide +kernel) rfl) ⟨by decide +kernel, by decide +kernel, by rw [hl]; decide +kernel⟩ hd (by decide)
theorem xc_X0_34 {d2 : Nat} (hE : xi_Eok E S vwCl tys) (hs : ∀ As m1 r m2, f As m1 = some (r, m2) → xi_Sound l E S D vwCl tys xNs xTs yX1_goalsAt cX1_goalsAt 7 (some .int) d2 As m1 r m2) (hd : d2 + 1 ≤ d) : ∀ As m1 r m2, xi_wV S 4 3 f As m1 = some (r, m2) → xi_Cal l E S D vwCl tys xNs RX0 xTs cc nL d (.invokevirtual 34) As m1 r m2 := fun As m1 r m2 h => by
  obtain ⟨b, t, rfl, hl, hb, h⟩ := xi_wV_some h
  exact xi_callV (T := TX1) (nf := 5) hE hb rfl (hs _ _ _ _ h) xw_good (xw_in 632 (by decide +kernel) rfl) (xw_in 629 (by decide +kernel) rfl) (xw_in 630 (by decide +kernel) rfl) (xw_in 631 (by decide +kernel) rfl) (xw_in 55 (by decide +kernel) rfl) ⟨by decide +kernel, by decide +kernel, by rw [hl]; decide +kernel⟩ hd (by decide)
theorem xc_X0_40 {d2 : Nat} (hs : ∀ As m1 r m2, f As m1 = some (r, m2) → xi_Sound l E S D vwCl tys xNs xTs yJ9_abs_0f7a4 cJ9_abs_0f7a4 1 (some .int) d2 As m1 r m2) (hd : d2 + 1 ≤ d) : ∀ As m1 r m2, xi_wS 1 f As m1 = some (r, m2) → xi_Cal l E S D vwCl tys xNs RX0 xTs cc nL d (.invokestatic 40) As m1 r m2 := fun As m1 r m2 h => by
  obtain ⟨hl, h⟩ := xi_wS_some h
  exact xi_callS (hs _ _ _ _ h) xw_good (xw_in 485 (by decide +kernel) rfl) (xw_in 641 (by decide +kernel) rfl) (xw_in 484 (by decide +kernel) rfl) (xw_in 65 (by decide +kernel) rfl) ⟨by decide +kernel, by decide +kernel, by rw [hl]; decide +kernel⟩ hd (by decide)
theorem xc_X0_45 {d2 : Nat} (hs : ∀ As m1 r m2, f As m1 = some (r, m2) → xi_Sound l E S D vwCl tys xNs xTs yX0_stepsOf cX0_stepsOf 1 (some .int) d2 As m1 r m2) (hd : d2 + 1 ≤ d) : ∀ As m1 r m2, xi_wS 1 f As m1 = some (r, m2) → xi_Cal l E S D vwCl tys xNs RX0 xTs cc nL d (.invokestatic 45) As m1 r m2 := fun As m1 r m2 h => by
  obtain ⟨hl, h⟩ := xi_wS_some h
  exact xi_callS (hs _ _ _ _ h) xw_good (xw_in 640 (by decide +kernel) rfl) (xw_in 638 (by decide +kernel) rfl) (xw_in 639 (by decide +kernel) rfl) (xw_in 56 (by decide +kernel) rfl) ⟨by decide +kernel, by decide +kernel, by rw [hl]; decide +kernel⟩ hd (by decide)
theorem xc_X0_48 {d2 : Nat} (hE : xi_Eok E S vwCl tys) (hs : ∀ As m1 r m2, f As m1 = some (r, m2) → xi_Sound l E S D vwCl tys xNs xTs yX0_leads cX0_leads 7 (some .boolean) d2 As m1 r m2) (hd : d2 + 1 ≤ d) : ∀ As m1 r m2, xi_wV S 3 4 f As m1 = some (r, m2) → xi_Cal l E S D vwCl tys xNs RX0 xTs cc nL d (.invokevirtual 48) As m1 r m2 := fun As m1 r m2 h => by
  obtain ⟨b, t, rfl, hl, hb, h⟩ := xi_wV_some h
  exact xi_callV (T := TX0) (nf := 3) hE hb rfl (hs _ _ _ _ h) xw_good (xw_in 645 (by decide +kernel) rfl) (xw_in 642 (by decide +kernel) rfl) (xw_in 644 (by decide +kernel) rfl) (xw_in 14 (by decide +kernel) rfl) (xw_in 56 (by decide +kernel) rfl) ⟨by decide +kernel, by decide +kernel, by rw [hl]; decide +kernel⟩ hd (by decide)
theorem xc_X1_34 {d2 : Nat} (hE : xi_Eok E S vwCl tys) (hs : ∀ As m1 r m2, f As m1 = some (r, m2) → xi_Sound l E S D vwCl tys xNs xTs yX6_openPlaces cX6_openPlaces 4 (some .int) d2 As m1 r m2) (hd : d2 + 1 ≤ d) : ∀ As m1 r m2, xi_wV S 8 1 f As m1 = some (r, m2) → xi_Cal l E S D vwCl tys xNs RX1 xTs cc nL d (.invokevirtual 34) As m1 r m2 := fun As m1 r m2 h => by
  obtain ⟨b, t, rfl, hl, hb, h⟩ := xi_wV_some h
  exact xi_callV (T := TX6) (nf := 14) hE hb rfl (hs _ _ _ _ h) xw_good (xw_in 466 (by decide +kernel) rfl) (xw_in 613 (by decide +kernel) rfl) (xw_in 464 (by decide +kernel) rfl) (xw_in 465 (by decide +kernel) rfl) (xw_in 54 (by decide +kernel) rfl) ⟨by decide +kernel, by decide +kernel, by rw [hl]; decide +kernel⟩ hd (by decide)
theorem xc_X1_41 {d2 : Nat} (hE : xi_Eok E S vwCl tys) (hs : ∀ As m1 r m2, f As m1 = some (r, m2) → xi_Sound l E S D vwCl tys xNs xTs yX6_ballBit cX6_ballBit 4 (some .int) d2 As m1 r m2) (hd : d2 + 1 ≤ d) : ∀ As m1 r m2, xi_wV S 8 2 f As m1 = some (r, m2) → xi_Cal l E S D vwCl tys xNs RX1 xTs cc nL d (.invokevirtual 41) As m1 r m2 := fun As m1 r m2 h => by
  obtain ⟨b, t, rfl, hl, hb, h⟩ := xi_wV_some h
  exact xi_callV (T := TX6) (nf := 14) hE hb rfl (hs _ _ _ _ h) xw_good (xw_in 451 (by decide +kernel) rfl) (xw_in 614 (by decide +kernel) rfl) (xw_in 449 (by decide +kernel) rfl) (xw_in 450 (by decide +kernel) rfl) (xw_in 54 (by decide +kernel) rfl) ⟨by decide +kernel, by decide +kernel, by rw [hl]; decide +kernel⟩ hd (by decide)
theorem xc_X1_45 {d2 : Nat} (hs : ∀ As m1 r m2, f As m1 = some (r, m2) → xi_Sound l E S D vwCl tys xNs xTs yX8_between cX8_between 3 (some .int) d2 As m1 r m2) (hd : d2 + 1 ≤ d) : ∀ As m1 r m2, xi_wS 3 f As m1 = some (r, m2) → xi_Cal l E S D vwCl tys xNs RX1 xTs cc nL d (.invokestatic 45) As m1 r m2 := fun As m1 r m2 h => by
  obtain ⟨hl, h⟩ := xi_wS_some h
  exact xi_callSN (host := "CoatGoals") (hs _ _ _ _ h) xw_good (xw_in 459 (by decide +kernel) rfl) (List.mem_of_getElem? (i := 2) rfl) (xw_in 458 (by decide +kernel) rfl) (xw_in 53 (by decide +kernel) rfl) ⟨by decide +kernel, by decide +kernel, by rw [hl]; decide +kernel⟩ hd (by decide)
theorem xc_X2_24 {d2 : Nat} (hs : ∀ As m1 r m2, f As m1 = some (r, m2) → xi_Sound l E S D vwCl tys xNs xTs yJ9_min_7cf53 cJ9_min_7cf53 2 (some .int) d2 As m1 r m2) (hd : d2 + 1 ≤ d) : ∀ As m1 r m2, xi_wS 2 f As m1 = some (r, m2) → xi_Cal l E S D vwCl tys xNs RX2 xTs cc nL d (.invokestatic 24) As m1 r m2 := fun As m1 r m2 h => by
  obtain ⟨hl, h⟩ := xi_wS_some h
  exact xi_callS (hs _ _ _ _ h) xw_good (xw_in 444 (by decide +kernel) rfl) (xw_in 740 (by decide +kernel) rfl) (xw_in 443 (by decide +kernel) rfl) (xw_in 65 (by decide +kernel) rfl) ⟨by decide +kernel, by decide +kernel, by rw [hl]; decide +kernel⟩ hd (by decide)
theorem xc_X2_30 {d2 : Nat} (hs : ∀ As m1 r m2, f As m1 = some (r, m2) → xi_Sound l E S D vwCl tys xNs xTs yX2_best cX2_best 13 (some .int) d2 As m1 r m2) (hd : d2 + 1 ≤ d) : ∀ As m1 r m2, xi_wS 6 f As m1 = some (r, m2) → xi_Cal l E S D vwCl tys xNs RX2 xTs cc nL d (.invokestatic 30) As m1 r m2 := fun As m1 r m2 h => by
  obtain ⟨hl, h⟩ := xi_wS_some h
  exact xi_callS (hs _ _ _ _ h) xw_good (xw_in 743 (by decide +kernel) rfl) (xw_in 741 (by decide +kernel) rfl) (xw_in 742 (by decide +kernel) rfl) (xw_in 57 (by decide +kernel) rfl) ⟨by decide +kernel, by decide +kernel, by rw [hl]; decide +kernel⟩ hd (by decide)
theorem xc_X2_34 {d2 : Nat} (hE : xi_Eok E S vwCl tys) (hs : ∀ As m1 r m2, f As m1 = some (r, m2) → xi_Sound l E S D vwCl tys xNs xTs yX1_goalsAt cX1_goalsAt 7 (some .int) d2 As m1 r m2) (hd : d2 + 1 ≤ d) : ∀ As m1 r m2, xi_wV S 4 3 f As m1 = some (r, m2) → xi_Cal l E S D vwCl tys xNs RX2 xTs cc nL d (.invokevirtual 34) As m1 r m2 := fun As m1 r m2 h => by
  obtain ⟨b, t, rfl, hl, hb, h⟩ := xi_wV_some h
  exact xi_callV (T := TX1) (nf := 5) hE hb rfl (hs _ _ _ _ h) xw_good (xw_in 632 (by decide +kernel) rfl) (xw_in 744 (by decide +kernel) rfl) (xw_in 630 (by decide +kernel) rfl) (xw_in 631 (by decide +kernel) rfl) (xw_in 55 (by decide +kernel) rfl) ⟨by decide +kernel, by decide +kernel, by rw [hl]; decide +kernel⟩ hd (by decide)
theorem xc_X2_40 {d2 : Nat} (hs : ∀ As m1 r m2, f As m1 = some (r, m2) → xi_Sound l E S D vwCl tys xNs xTs yX8_mayMove cX8_mayMove 5 (some .boolean) d2 As m1 r m2) (hd : d2 + 1 ≤ d) : ∀ As m1 r m2, xi_wS 3 f As m1 = some (r, m2) → xi_Cal l E S D vwCl tys xNs RX2 xTs cc nL d (.invokestatic 40) As m1 r m2 := fun As m1 r m2 h => by
  obtain ⟨hl, h⟩ := xi_wS_some h
  exact xi_callSN (host := "CoatGoals") (hs _ _ _ _ h) xw_good (xw_in 533 (by decide +kernel) rfl) (List.mem_of_getElem? (i := 5) rfl) (xw_in 532 (by decide +kernel) rfl) (xw_in 53 (by decide +kernel) rfl) ⟨by decide +kernel, by decide +kernel, by rw [hl]; decide +kernel⟩ hd (by decide)
theorem xc_X2_44 {d2 : Nat} (hs : ∀ As m1 r m2, f As m1 = some (r, m2) → xi_Sound l E S D vwCl tys xNs xTs yJ9_max_7cf53 cJ9_max_7cf53 2 (some .int) d2 As m1 r m2) (hd : d2 + 1 ≤ d) : ∀ As m1 r m2, xi_wS 2 f As m1 = some (r, m2) → xi_Cal l E S D vwCl tys xNs RX2 xTs cc nL d (.invokestatic 44) As m1 r m2 := fun As m1 r m2 h => by
  obtain ⟨hl, h⟩ := xi_wS_some h
  exact xi_callS (hs _ _ _ _ h) xw_good (xw_in 447 (by decide +kernel) rfl) (xw_in 746 (by decide +kernel) rfl) (xw_in 446 (by decide +kernel) rfl) (xw_in 65 (by decide +kernel) rfl) ⟨by decide +kernel, by decide +kernel, by rw [hl]; decide +kernel⟩ hd (by decide)
theorem xc_X3_22 {d2 : Nat} (hs : ∀ As m1 r m2, f As m1 = some (r, m2) → xi_Sound l E S D vwCl tys xNs xTs yJ7_fill_53178 cJ7_fill_53178 4 none d2 As m1 r m2) (hd : d2 + 1 ≤ d) : ∀ As m1 r m2, xi_wS 2 f As m1 = some (r, m2) → xi_Cal l E S D vwCl tys xNs RX3 xTs cc nL d (.invokestatic 22) As m1 r m2 := fun As m1 r m2 h => by
  obtain ⟨hl, h⟩ := xi_wS_some h
  exact xi_callS (hs _ _ _ _ h) xw_good (xw_in 302 (by decide +kernel) rfl) (xw_in 667 (by decide +kernel) rfl) (xw_in 301 (by decide +kernel) rfl) (xw_in 61 (by decide +kernel) rfl) ⟨by decide +kernel, by decide +kernel, by rw [hl]; decide +kernel⟩ hd (by decide)
theorem xc_X3_28 {d2 : Nat} (hE : xi_Eok E S vwCl tys) (hs : ∀ As m1 r m2, f As m1 = some (r, m2) → xi_Sound l E S D vwCl tys xNs xTs yX6_openPlaces cX6_openPlaces 4 (some .int) d2 As m1 r m2) (hd : d2 + 1 ≤ d) : ∀ As m1 r m2, xi_wV S 8 1 f As m1 = some (r, m2) → xi_Cal l E S D vwCl tys xNs RX3 xTs cc nL d (.invokevirtual 28) As m1 r m2 := fun As m1 r m2 h => by
  obtain ⟨b, t, rfl, hl, hb, h⟩ := xi_wV_some h
  exact xi_callV (T := TX6) (nf := 14) hE hb rfl (hs _ _ _ _ h) xw_good (xw_in 466 (by decide +kernel) rfl) (xw_in 668 (by decide +kernel) rfl) (xw_in 464 (by decide +kernel) rfl) (xw_in 465 (by decide +kernel) rfl) (xw_in 54 (by decide +kernel) rfl) ⟨by decide +kernel, by decide +kernel, by rw [hl]; decide +kernel⟩ hd (by decide)
theorem xc_X3_37 {d2 : Nat} (hs : ∀ As m1 r m2, f As m1 = some (r, m2) → xi_Sound l E S D vwCl tys xNs xTs yX8_between cX8_between 3 (some .int) d2 As m1 r m2) (hd : d2 + 1 ≤ d) : ∀ As m1 r m2, xi_wS 3 f As m1 = some (r, m2) → xi_Cal l E S D vwCl tys xNs RX3 xTs cc nL d (.invokestatic 37) As m1 r m2 := fun As m1 r m2 h => by
  obtain ⟨hl, h⟩ := xi_wS_some h
  exact xi_callSN (host := "CoatGoals") (hs _ _ _ _ h) xw_good (xw_in 459 (by decide +kernel) rfl) (List.mem_of_getElem? (i := 4) rfl) (xw_in 458 (by decide +kernel) rfl) (xw_in 53 (by decide +kernel) rfl) ⟨by decide +kernel, by decide +kernel, by rw [hl]; decide +kernel⟩ hd (by decide)
theorem xc_X3_41 {d2 : Nat} (hs : ∀ As m1 r m2, f As m1 = some (r, m2) → xi_Sound l E S D vwCl tys xNs xTs yX3_fits cX3_fits 3 (some .boolean) d2 As m1 r m2) (hd : d2 + 1 ≤ d) : ∀ As m1 r m2, xi_wS 2 f As m1 = some (r, m2) → xi_Cal l E S D vwCl tys xNs RX3 xTs cc nL d (.invokestatic 41) As m1 r m2 := fun As m1 r m2 h => by
  obtain ⟨hl, h⟩ := xi_wS_some h
  exact xi_callS (hs _ _ _ _ h) xw_good (xw_in 672 (by decide +kernel) rfl) (xw_in 670 (by decide +kernel) rfl) (xw_in 671 (by decide +kernel) rfl) (xw_in 58 (by decide +kernel) rfl) ⟨by decide +kernel, by decide +kernel, by rw [hl]; decide +kernel⟩ hd (by decide)
theorem xc_X3_45 {d2 : Nat} (hE : xi_Eok E S vwCl tys) (hs : ∀ As m1 r m2, f As m1 = some (r, m2) → xi_Sound l E S D vwCl tys xNs xTs yX3_addPair cX3_addPair 5 none d2 As m1 r m2) (hd : d2 + 1 ≤ d) : ∀ As m1 r m2, xi_wV S 6 3 f As m1 = some (r, m2) → xi_Cal l E S D vwCl tys xNs RX3 xTs cc nL d (.invokevirtual 45) As m1 r m2 := fun As m1 r m2 h => by
  obtain ⟨b, t, rfl, hl, hb, h⟩ := xi_wV_some h
  exact xi_callV (T := TX3) (nf := 3) hE hb rfl (hs _ _ _ _ h) xw_good (xw_in 676 (by decide +kernel) rfl) (xw_in 673 (by decide +kernel) rfl) (xw_in 675 (by decide +kernel) rfl) (xw_in 16 (by decide +kernel) rfl) (xw_in 58 (by decide +kernel) rfl) ⟨by decide +kernel, by decide +kernel, by rw [hl]; decide +kernel⟩ hd (by decide)
theorem xc_X3_57 {d2 : Nat} (hs : ∀ As m1 r m2, f As m1 = some (r, m2) → xi_Sound l E S D vwCl tys xNs xTs yJ9_max_7cf53 cJ9_max_7cf53 2 (some .int) d2 As m1 r m2) (hd : d2 + 1 ≤ d) : ∀ As m1 r m2, xi_wS 2 f As m1 = some (r, m2) → xi_Cal l E S D vwCl tys xNs RX3 xTs cc nL d (.invokestatic 57) As m1 r m2 := fun As m1 r m2 h => by
  obtain ⟨hl, h⟩ := xi_wS_some h
  exact xi_callS (hs _ _ _ _ h) xw_good (xw_in 447 (by decide +kernel) rfl) (xw_in 701 (by decide +kernel) rfl) (xw_in 446 (by decide +kernel) rfl) (xw_in 65 (by decide +kernel) rfl) ⟨by decide +kernel, by decide +kernel, by rw [hl]; decide +kernel⟩ hd (by decide)
theorem xc_X3_63 {d2 : Nat} (hE : xi_Eok E S vwCl tys) (hs : ∀ As m1 r m2, f As m1 = some (r, m2) → xi_Sound l E S D vwCl tys xNs xTs yX3_greaterPart cX3_greaterPart 2 (some .int) d2 As m1 r m2) (hd : d2 + 1 ≤ d) : ∀ As m1 r m2, xi_wV S 6 1 f As m1 = some (r, m2) → xi_Cal l E S D vwCl tys xNs RX3 xTs cc nL d (.invokevirtual 63) As m1 r m2 := fun As m1 r m2 h => by
  obtain ⟨b, t, rfl, hl, hb, h⟩ := xi_wV_some h
  exact xi_callV (T := TX3) (nf := 3) hE hb rfl (hs _ _ _ _ h) xw_good (xw_in 700 (by decide +kernel) rfl) (xw_in 697 (by decide +kernel) rfl) (xw_in 698 (by decide +kernel) rfl) (xw_in 699 (by decide +kernel) rfl) (xw_in 58 (by decide +kernel) rfl) ⟨by decide +kernel, by decide +kernel, by rw [hl]; decide +kernel⟩ hd (by decide)
theorem xc_X4_11 {d2 : Nat} (hs : ∀ As m1 r m2, f As m1 = some (r, m2) → xi_Sound l E S D vwCl tys xNs xTs yX4_isOf cX4_isOf 2 (some .boolean) d2 As m1 r m2) (hd : d2 + 1 ≤ d) : ∀ As m1 r m2, xi_wS 2 f As m1 = some (r, m2) → xi_Cal l E S D vwCl tys xNs RX4 xTs cc nL d (.invokestatic 11) As m1 r m2 := fun As m1 r m2 h => by
  obtain ⟨hl, h⟩ := xi_wS_some h
  exact xi_callS (hs _ _ _ _ h) xw_good (xw_in 441 (by decide +kernel) rfl) (xw_in 439 (by decide +kernel) rfl) (xw_in 440 (by decide +kernel) rfl) (xw_in 64 (by decide +kernel) rfl) ⟨by decide +kernel, by decide +kernel, by rw [hl]; decide +kernel⟩ hd (by decide)
theorem xc_X4_15 {d2 : Nat} (hs : ∀ As m1 r m2, f As m1 = some (r, m2) → xi_Sound l E S D vwCl tys xNs xTs yJ9_min_7cf53 cJ9_min_7cf53 2 (some .int) d2 As m1 r m2) (hd : d2 + 1 ≤ d) : ∀ As m1 r m2, xi_wS 2 f As m1 = some (r, m2) → xi_Cal l E S D vwCl tys xNs RX4 xTs cc nL d (.invokestatic 15) As m1 r m2 := fun As m1 r m2 h => by
  obtain ⟨hl, h⟩ := xi_wS_some h
  exact xi_callS (hs _ _ _ _ h) xw_good (xw_in 444 (by decide +kernel) rfl) (xw_in 442 (by decide +kernel) rfl) (xw_in 443 (by decide +kernel) rfl) (xw_in 65 (by decide +kernel) rfl) ⟨by decide +kernel, by decide +kernel, by rw [hl]; decide +kernel⟩ hd (by decide)
theorem xc_X4_21 {d2 : Nat} (hs : ∀ As m1 r m2, f As m1 = some (r, m2) → xi_Sound l E S D vwCl tys xNs xTs yJ9_max_7cf53 cJ9_max_7cf53 2 (some .int) d2 As m1 r m2) (hd : d2 + 1 ≤ d) : ∀ As m1 r m2, xi_wS 2 f As m1 = some (r, m2) → xi_Cal l E S D vwCl tys xNs RX4 xTs cc nL d (.invokestatic 21) As m1 r m2 := fun As m1 r m2 h => by
  obtain ⟨hl, h⟩ := xi_wS_some h
  exact xi_callS (hs _ _ _ _ h) xw_good (xw_in 447 (by decide +kernel) rfl) (xw_in 445 (by decide +kernel) rfl) (xw_in 446 (by decide +kernel) rfl) (xw_in 65 (by decide +kernel) rfl) ⟨by decide +kernel, by decide +kernel, by rw [hl]; decide +kernel⟩ hd (by decide)
theorem xc_X5_19 {d2 : Nat} (hE : xi_Eok E S vwCl tys) (hs : ∀ As m1 r m2, f As m1 = some (r, m2) → xi_Sound l E S D vwCl tys xNs xTs yX6_clear cX6_clear 1 none d2 As m1 r m2) (hd : d2 + 1 ≤ d) : ∀ As m1 r m2, xi_wV S 8 0 f As m1 = some (r, m2) → xi_Cal l E S D vwCl tys xNs RX5 xTs cc nL d (.invokevirtual 19) As m1 r m2 := fun As m1 r m2 h => by
  obtain ⟨b, t, rfl, hl, hb, h⟩ := xi_wV_some h
  exact xi_callV (T := TX6) (nf := 14) hE hb rfl (hs _ _ _ _ h) xw_good (xw_in 377 (by decide +kernel) rfl) (xw_in 374 (by decide +kernel) rfl) (xw_in 375 (by decide +kernel) rfl) (xw_in 376 (by decide +kernel) rfl) (xw_in 54 (by decide +kernel) rfl) ⟨by decide +kernel, by decide +kernel, by rw [hl]; decide +kernel⟩ hd (by decide)
theorem xc_X5_24 {d2 : Nat} (hE : xi_Eok E S vwCl tys) (hs : ∀ As m1 r m2, f As m1 = some (r, m2) → xi_Sound l E S D vwCl tys xNs xTs yX5_readSchool cX5_readSchool 2 none d2 As m1 r m2) (hd : d2 + 1 ≤ d) : ∀ As m1 r m2, xi_wV S 7 1 f As m1 = some (r, m2) → xi_Cal l E S D vwCl tys xNs RX5 xTs cc nL d (.invokevirtual 24) As m1 r m2 := fun As m1 r m2 h => by
  obtain ⟨b, t, rfl, hl, hb, h⟩ := xi_wV_some h
  exact xi_callV (T := TX5) (nf := 3) hE hb rfl (hs _ _ _ _ h) xw_good (xw_in 382 (by decide +kernel) rfl) (xw_in 379 (by decide +kernel) rfl) (xw_in 381 (by decide +kernel) rfl) (xw_in 3 (by decide +kernel) rfl) (xw_in 63 (by decide +kernel) rfl) ⟨by decide +kernel, by decide +kernel, by rw [hl]; decide +kernel⟩ hd (by decide)
theorem xc_X5_28 {d2 : Nat} (hE : xi_Eok E S vwCl tys) (hs : ∀ As m1 r m2, f As m1 = some (r, m2) → xi_Sound l E S D vwCl tys xNs xTs yX5_readCoat cX5_readCoat 4 none d2 As m1 r m2) (hd : d2 + 1 ≤ d) : ∀ As m1 r m2, xi_wV S 7 2 f As m1 = some (r, m2) → xi_Cal l E S D vwCl tys xNs RX5 xTs cc nL d (.invokevirtual 28) As m1 r m2 := fun As m1 r m2 h => by
  obtain ⟨b, t, rfl, hl, hb, h⟩ := xi_wV_some h
  exact xi_callV (T := TX5) (nf := 3) hE hb rfl (hs _ _ _ _ h) xw_good (xw_in 398 (by decide +kernel) rfl) (xw_in 395 (by decide +kernel) rfl) (xw_in 397 (by decide +kernel) rfl) (xw_in 7 (by decide +kernel) rfl) (xw_in 63 (by decide +kernel) rfl) ⟨by decide +kernel, by decide +kernel, by rw [hl]; decide +kernel⟩ hd (by decide)
theorem xc_X5_32 {d2 : Nat} (hE : xi_Eok E S vwCl tys) (hs : ∀ As m1 r m2, f As m1 = some (r, m2) → xi_Sound l E S D vwCl tys xNs xTs yX5_readPlayer cX5_readPlayer 4 none d2 As m1 r m2) (hd : d2 + 1 ≤ d) : ∀ As m1 r m2, xi_wV S 7 2 f As m1 = some (r, m2) → xi_Cal l E S D vwCl tys xNs RX5 xTs cc nL d (.invokevirtual 32) As m1 r m2 := fun As m1 r m2 h => by
  obtain ⟨b, t, rfl, hl, hb, h⟩ := xi_wV_some h
  exact xi_callV (T := TX5) (nf := 3) hE hb rfl (hs _ _ _ _ h) xw_good (xw_in 406 (by decide +kernel) rfl) (xw_in 403 (by decide +kernel) rfl) (xw_in 405 (by decide +kernel) rfl) (xw_in 9 (by decide +kernel) rfl) (xw_in 63 (by decide +kernel) rfl) ⟨by decide +kernel, by decide +kernel, by rw [hl]; decide +kernel⟩ hd (by decide)
theorem xc_X5_35 {d2 : Nat} (hE : xi_Eok E S vwCl tys) (hs : ∀ As m1 r m2, f As m1 = some (r, m2) → xi_Sound l E S D vwCl tys xNs xTs yX5_skipBlanks cX5_skipBlanks 1 none d2 As m1 r m2) (hd : d2 + 1 ≤ d) : ∀ As m1 r m2, xi_wV S 7 0 f As m1 = some (r, m2) → xi_Cal l E S D vwCl tys xNs RX5 xTs cc nL d (.invokevirtual 35) As m1 r m2 := fun As m1 r m2 h => by
  obtain ⟨b, t, rfl, hl, hb, h⟩ := xi_wV_some h
  exact xi_callV (T := TX5) (nf := 3) hE hb rfl (hs _ _ _ _ h) xw_good (xw_in 386 (by decide +kernel) rfl) (xw_in 383 (by decide +kernel) rfl) (xw_in 385 (by decide +kernel) rfl) (xw_in 4 (by decide +kernel) rfl) (xw_in 63 (by decide +kernel) rfl) ⟨by decide +kernel, by decide +kernel, by rw [hl]; decide +kernel⟩ hd (by decide)
theorem xc_X5_38 {d2 : Nat} (hE : xi_Eok E S vwCl tys) (hs : ∀ As m1 r m2, f As m1 = some (r, m2) → xi_Sound l E S D vwCl tys xNs xTs yX5_letter cX5_letter 2 none d2 As m1 r m2) (hd : d2 + 1 ≤ d) : ∀ As m1 r m2, xi_wV S 7 1 f As m1 = some (r, m2) → xi_Cal l E S D vwCl tys xNs RX5 xTs cc nL d (.invokevirtual 38) As m1 r m2 := fun As m1 r m2 h => by
  obtain ⟨b, t, rfl, hl, hb, h⟩ := xi_wV_some h
  exact xi_callV (T := TX5) (nf := 3) hE hb rfl (hs _ _ _ _ h) xw_good (xw_in 390 (by decide +kernel) rfl) (xw_in 387 (by decide +kernel) rfl) (xw_in 389 (by decide +kernel) rfl) (xw_in 5 (by decide +kernel) rfl) (xw_in 63 (by decide +kernel) rfl) ⟨by decide +kernel, by decide +kernel, by rw [hl]; decide +kernel⟩ hd (by decide)
theorem xc_X5_42 {d2 : Nat} (hE : xi_Eok E S vwCl tys) (hs : ∀ As m1 r m2, f As m1 = some (r, m2) → xi_Sound l E S D vwCl tys xNs xTs yX5_figure cX5_figure 4 (some .int) d2 As m1 r m2) (hd : d2 + 1 ≤ d) : ∀ As m1 r m2, xi_wV S 7 2 f As m1 = some (r, m2) → xi_Cal l E S D vwCl tys xNs RX5 xTs cc nL d (.invokevirtual 42) As m1 r m2 := fun As m1 r m2 h => by
  obtain ⟨b, t, rfl, hl, hb, h⟩ := xi_wV_some h
  exact xi_callV (T := TX5) (nf := 3) hE hb rfl (hs _ _ _ _ h) xw_good (xw_in 394 (by decide +kernel) rfl) (xw_in 391 (by decide +kernel) rfl) (xw_in 393 (by decide +kernel) rfl) (xw_in 6 (by decide +kernel) rfl) (xw_in 63 (by decide +kernel) rfl) ⟨by decide +kernel, by decide +kernel, by rw [hl]; decide +kernel⟩ hd (by decide)
theorem xc_X5_53 {d2 : Nat} (hE : xi_Eok E S vwCl tys) (hs : ∀ As m1 r m2, f As m1 = some (r, m2) → xi_Sound l E S D vwCl tys xNs xTs yX5_twoFigures cX5_twoFigures 4 (some .int) d2 As m1 r m2) (hd : d2 + 1 ≤ d) : ∀ As m1 r m2, xi_wV S 7 1 f As m1 = some (r, m2) → xi_Cal l E S D vwCl tys xNs RX5 xTs cc nL d (.invokevirtual 53) As m1 r m2 := fun As m1 r m2 h => by
  obtain ⟨b, t, rfl, hl, hb, h⟩ := xi_wV_some h
  exact xi_callV (T := TX5) (nf := 3) hE hb rfl (hs _ _ _ _ h) xw_good (xw_in 402 (by decide +kernel) rfl) (xw_in 399 (by decide +kernel) rfl) (xw_in 401 (by decide +kernel) rfl) (xw_in 8 (by decide +kernel) rfl) (xw_in 63 (by decide +kernel) rfl) ⟨by decide +kernel, by decide +kernel, by rw [hl]; decide +kernel⟩ hd (by decide)
theorem xc_X5_68 {d2 : Nat} (hs : ∀ As m1 r m2, f As m1 = some (r, m2) → xi_Sound l E S D vwCl tys xNs xTs yX4_ofLetter cX4_ofLetter 1 (some .int) d2 As m1 r m2) (hd : d2 + 1 ≤ d) : ∀ As m1 r m2, xi_wS 1 f As m1 = some (r, m2) → xi_Cal l E S D vwCl tys xNs RX5 xTs cc nL d (.invokestatic 68) As m1 r m2 := fun As m1 r m2 h => by
  obtain ⟨hl, h⟩ := xi_wS_some h
  exact xi_callS (hs _ _ _ _ h) xw_good (xw_in 409 (by decide +kernel) rfl) (xw_in 407 (by decide +kernel) rfl) (xw_in 408 (by decide +kernel) rfl) (xw_in 64 (by decide +kernel) rfl) ⟨by decide +kernel, by decide +kernel, by rw [hl]; decide +kernel⟩ hd (by decide)
theorem xc_X6_55 {d2 : Nat} (hs : ∀ As m1 r m2, f As m1 = some (r, m2) → xi_Sound l E S D vwCl tys xNs xTs yJ7_fill_53178 cJ7_fill_53178 4 none d2 As m1 r m2) (hd : d2 + 1 ≤ d) : ∀ As m1 r m2, xi_wS 2 f As m1 = some (r, m2) → xi_Cal l E S D vwCl tys xNs RX6 xTs cc nL d (.invokestatic 55) As m1 r m2 := fun As m1 r m2 h => by
  obtain ⟨hl, h⟩ := xi_wS_some h
  exact xi_callS (hs _ _ _ _ h) xw_good (xw_in 302 (by decide +kernel) rfl) (xw_in 378 (by decide +kernel) rfl) (xw_in 301 (by decide +kernel) rfl) (xw_in 61 (by decide +kernel) rfl) ⟨by decide +kernel, by decide +kernel, by rw [hl]; decide +kernel⟩ hd (by decide)
theorem xc_X6_67 {d2 : Nat} (hs : ∀ As m1 r m2, f As m1 = some (r, m2) → xi_Sound l E S D vwCl tys xNs xTs yX4_landing cX4_landing 5 (some .int) d2 As m1 r m2) (hd : d2 + 1 ≤ d) : ∀ As m1 r m2, xi_wS 4 f As m1 = some (r, m2) → xi_Cal l E S D vwCl tys xNs RX6 xTs cc nL d (.invokestatic 67) As m1 r m2 := fun As m1 r m2 h => by
  obtain ⟨hl, h⟩ := xi_wS_some h
  exact xi_callS (hs _ _ _ _ h) xw_good (xw_in 438 (by decide +kernel) rfl) (xw_in 436 (by decide +kernel) rfl) (xw_in 437 (by decide +kernel) rfl) (xw_in 64 (by decide +kernel) rfl) ⟨by decide +kernel, by decide +kernel, by rw [hl]; decide +kernel⟩ hd (by decide)
theorem xc_X6_73 {d2 : Nat} (hE : xi_Eok E S vwCl tys) (hs : ∀ As m1 r m2, f As m1 = some (r, m2) → xi_Sound l E S D vwCl tys xNs xTs yX6_landing cX6_landing 2 (some .int) d2 As m1 r m2) (hd : d2 + 1 ≤ d) : ∀ As m1 r m2, xi_wV S 8 1 f As m1 = some (r, m2) → xi_Cal l E S D vwCl tys xNs RX6 xTs cc nL d (.invokevirtual 73) As m1 r m2 := fun As m1 r m2 h => by
  obtain ⟨b, t, rfl, hl, hb, h⟩ := xi_wV_some h
  exact xi_callV (T := TX6) (nf := 14) hE hb rfl (hs _ _ _ _ h) xw_good (xw_in 435 (by decide +kernel) rfl) (xw_in 432 (by decide +kernel) rfl) (xw_in 433 (by decide +kernel) rfl) (xw_in 434 (by decide +kernel) rfl) (xw_in 54 (by decide +kernel) rfl) ⟨by decide +kernel, by decide +kernel, by rw [hl]; decide +kernel⟩ hd (by decide)
theorem xc_X6_76 {d2 : Nat} (hs : ∀ As m1 r m2, f As m1 = some (r, m2) → xi_Sound l E S D vwCl tys xNs xTs yJ9_min_7cf53 cJ9_min_7cf53 2 (some .int) d2 As m1 r m2) (hd : d2 + 1 ≤ d) : ∀ As m1 r m2, xi_wS 2 f As m1 = some (r, m2) → xi_Cal l E S D vwCl tys xNs RX6 xTs cc nL d (.invokestatic 76) As m1 r m2 := fun As m1 r m2 h => by
  obtain ⟨hl, h⟩ := xi_wS_some h
  exact xi_callS (hs _ _ _ _ h) xw_good (xw_in 444 (by decide +kernel) rfl) (xw_in 452 (by decide +kernel) rfl) (xw_in 443 (by decide +kernel) rfl) (xw_in 65 (by decide +kernel) rfl) ⟨by decide +kernel, by decide +kernel, by rw [hl]; decide +kernel⟩ hd (by decide)
theorem xc_X6_82 {d2 : Nat} (hs : ∀ As m1 r m2, f As m1 = some (r, m2) → xi_Sound l E S D vwCl tys xNs xTs yX4_reach cX4_reach 2 (some .int) d2 As m1 r m2) (hd : d2 + 1 ≤ d) : ∀ As m1 r m2, xi_wS 2 f As m1 = some (r, m2) → xi_Cal l E S D vwCl tys xNs RX6 xTs cc nL d (.invokestatic 82) As m1 r m2 := fun As m1 r m2 h => by
  obtain ⟨hl, h⟩ := xi_wS_some h
  exact xi_callS (hs _ _ _ _ h) xw_good (xw_in 474 (by decide +kernel) rfl) (xw_in 472 (by decide +kernel) rfl) (xw_in 473 (by decide +kernel) rfl) (xw_in 64 (by decide +kernel) rfl) ⟨by decide +kernel, by decide +kernel, by rw [hl]; decide +kernel⟩ hd (by decide)
theorem xc_X6_85 {d2 : Nat} (hs : ∀ As m1 r m2, f As m1 = some (r, m2) → xi_Sound l E S D vwCl tys xNs xTs yJ9_max_7cf53 cJ9_max_7cf53 2 (some .int) d2 As m1 r m2) (hd : d2 + 1 ≤ d) : ∀ As m1 r m2, xi_wS 2 f As m1 = some (r, m2) → xi_Cal l E S D vwCl tys xNs RX6 xTs cc nL d (.invokestatic 85) As m1 r m2 := fun As m1 r m2 h => by
  obtain ⟨hl, h⟩ := xi_wS_some h
  exact xi_callS (hs _ _ _ _ h) xw_good (xw_in 447 (by decide +kernel) rfl) (xw_in 475 (by decide +kernel) rfl) (xw_in 446 (by decide +kernel) rfl) (xw_in 65 (by decide +kernel) rfl) ⟨by decide +kernel, by decide +kernel, by rw [hl]; decide +kernel⟩ hd (by decide)
theorem xc_X6_88 {d2 : Nat} (hs : ∀ As m1 r m2, f As m1 = some (r, m2) → xi_Sound l E S D vwCl tys xNs xTs yX8_span cX8_span 2 (some .int) d2 As m1 r m2) (hd : d2 + 1 ≤ d) : ∀ As m1 r m2, xi_wS 2 f As m1 = some (r, m2) → xi_Cal l E S D vwCl tys xNs RX6 xTs cc nL d (.invokestatic 88) As m1 r m2 := fun As m1 r m2 h => by
  obtain ⟨hl, h⟩ := xi_wS_some h
  exact xi_callSN (host := "CoatGoals") (hs _ _ _ _ h) xw_good (xw_in 462 (by decide +kernel) rfl) (List.mem_of_getElem? (i := 1) rfl) (xw_in 461 (by decide +kernel) rfl) (xw_in 53 (by decide +kernel) rfl) ⟨by decide +kernel, by decide +kernel, by rw [hl]; decide +kernel⟩ hd (by decide)
theorem xc_X6_92 {d2 : Nat} (hE : xi_Eok E S vwCl tys) (hs : ∀ As m1 r m2, f As m1 = some (r, m2) → xi_Sound l E S D vwCl tys xNs xTs yX6_reached cX6_reached 3 (some .int) d2 As m1 r m2) (hd : d2 + 1 ≤ d) : ∀ As m1 r m2, xi_wV S 8 1 f As m1 = some (r, m2) → xi_Cal l E S D vwCl tys xNs RX6 xTs cc nL d (.invokevirtual 92) As m1 r m2 := fun As m1 r m2 h => by
  obtain ⟨b, t, rfl, hl, hb, h⟩ := xi_wV_some h
  exact xi_callV (T := TX6) (nf := 14) hE hb rfl (hs _ _ _ _ h) xw_good (xw_in 471 (by decide +kernel) rfl) (xw_in 468 (by decide +kernel) rfl) (xw_in 469 (by decide +kernel) rfl) (xw_in 470 (by decide +kernel) rfl) (xw_in 54 (by decide +kernel) rfl) ⟨by decide +kernel, by decide +kernel, by rw [hl]; decide +kernel⟩ hd (by decide)
theorem xc_X6_95 {d2 : Nat} (hs : ∀ As m1 r m2, f As m1 = some (r, m2) → xi_Sound l E S D vwCl tys xNs xTs yX8_between cX8_between 3 (some .int) d2 As m1 r m2) (hd : d2 + 1 ≤ d) : ∀ As m1 r m2, xi_wS 3 f As m1 = some (r, m2) → xi_Cal l E S D vwCl tys xNs RX6 xTs cc nL d (.invokestatic 95) As m1 r m2 := fun As m1 r m2 h => by
  obtain ⟨hl, h⟩ := xi_wS_some h
  exact xi_callSN (host := "CoatGoals") (hs _ _ _ _ h) xw_good (xw_in 459 (by decide +kernel) rfl) (List.mem_of_getElem? (i := 0) rfl) (xw_in 458 (by decide +kernel) rfl) (xw_in 53 (by decide +kernel) rfl) ⟨by decide +kernel, by decide +kernel, by rw [hl]; decide +kernel⟩ hd (by decide)
theorem xc_X6_99 {d2 : Nat} (hE : xi_Eok E S vwCl tys) (hs : ∀ As m1 r m2, f As m1 = some (r, m2) → xi_Sound l E S D vwCl tys xNs xTs yX6_openPlaces cX6_openPlaces 4 (some .int) d2 As m1 r m2) (hd : d2 + 1 ≤ d) : ∀ As m1 r m2, xi_wV S 8 1 f As m1 = some (r, m2) → xi_Cal l E S D vwCl tys xNs RX6 xTs cc nL d (.invokevirtual 99) As m1 r m2 := fun As m1 r m2 h => by
  obtain ⟨b, t, rfl, hl, hb, h⟩ := xi_wV_some h
  exact xi_callV (T := TX6) (nf := 14) hE hb rfl (hs _ _ _ _ h) xw_good (xw_in 466 (by decide +kernel) rfl) (xw_in 463 (by decide +kernel) rfl) (xw_in 464 (by decide +kernel) rfl) (xw_in 465 (by decide +kernel) rfl) (xw_in 54 (by decide +kernel) rfl) ⟨by decide +kernel, by decide +kernel, by rw [hl]; decide +kernel⟩ hd (by decide)
theorem xc_X6_102 {d2 : Nat} (hE : xi_Eok E S vwCl tys) (hs : ∀ As m1 r m2, f As m1 = some (r, m2) → xi_Sound l E S D vwCl tys xNs xTs yX6_ballBit cX6_ballBit 4 (some .int) d2 As m1 r m2) (hd : d2 + 1 ≤ d) : ∀ As m1 r m2, xi_wV S 8 2 f As m1 = some (r, m2) → xi_Cal l E S D vwCl tys xNs RX6 xTs cc nL d (.invokevirtual 102) As m1 r m2 := fun As m1 r m2 h => by
  obtain ⟨b, t, rfl, hl, hb, h⟩ := xi_wV_some h
  exact xi_callV (T := TX6) (nf := 14) hE hb rfl (hs _ _ _ _ h) xw_good (xw_in 451 (by decide +kernel) rfl) (xw_in 448 (by decide +kernel) rfl) (xw_in 449 (by decide +kernel) rfl) (xw_in 450 (by decide +kernel) rfl) (xw_in 54 (by decide +kernel) rfl) ⟨by decide +kernel, by decide +kernel, by rw [hl]; decide +kernel⟩ hd (by decide)
theorem xc_X6_105 {d2 : Nat} (hE : xi_Eok E S vwCl tys) (hs : ∀ As m1 r m2, f As m1 = some (r, m2) → xi_Sound l E S D vwCl tys xNs xTs yX6_inPlaces cX6_inPlaces 2 (some .int) d2 As m1 r m2) (hd : d2 + 1 ≤ d) : ∀ As m1 r m2, xi_wV S 8 1 f As m1 = some (r, m2) → xi_Cal l E S D vwCl tys xNs RX6 xTs cc nL d (.invokevirtual 105) As m1 r m2 := fun As m1 r m2 h => by
  obtain ⟨b, t, rfl, hl, hb, h⟩ := xi_wV_some h
  exact xi_callV (T := TX6) (nf := 14) hE hb rfl (hs _ _ _ _ h) xw_good (xw_in 456 (by decide +kernel) rfl) (xw_in 453 (by decide +kernel) rfl) (xw_in 454 (by decide +kernel) rfl) (xw_in 455 (by decide +kernel) rfl) (xw_in 54 (by decide +kernel) rfl) ⟨by decide +kernel, by decide +kernel, by rw [hl]; decide +kernel⟩ hd (by decide)
theorem xc_X6_108 {d2 : Nat} (hE : xi_Eok E S vwCl tys) (hs : ∀ As m1 r m2, f As m1 = some (r, m2) → xi_Sound l E S D vwCl tys xNs xTs yX6_scorers cX6_scorers 7 (some .int) d2 As m1 r m2) (hd : d2 + 1 ≤ d) : ∀ As m1 r m2, xi_wV S 8 1 f As m1 = some (r, m2) → xi_Cal l E S D vwCl tys xNs RX6 xTs cc nL d (.invokevirtual 108) As m1 r m2 := fun As m1 r m2 h => by
  obtain ⟨b, t, rfl, hl, hb, h⟩ := xi_wV_some h
  exact xi_callV (T := TX6) (nf := 14) hE hb rfl (hs _ _ _ _ h) xw_good (xw_in 509 (by decide +kernel) rfl) (xw_in 604 (by decide +kernel) rfl) (xw_in 507 (by decide +kernel) rfl) (xw_in 508 (by decide +kernel) rfl) (xw_in 54 (by decide +kernel) rfl) ⟨by decide +kernel, by decide +kernel, by rw [hl]; decide +kernel⟩ hd (by decide)
theorem xc_X6_111 {d2 : Nat} (hE : xi_Eok E S vwCl tys) (hs : ∀ As m1 r m2, f As m1 = some (r, m2) → xi_Sound l E S D vwCl tys xNs xTs yX6_membersOf cX6_membersOf 4 (some .int) d2 As m1 r m2) (hd : d2 + 1 ≤ d) : ∀ As m1 r m2, xi_wV S 8 1 f As m1 = some (r, m2) → xi_Cal l E S D vwCl tys xNs RX6 xTs cc nL d (.invokevirtual 111) As m1 r m2 := fun As m1 r m2 h => by
  obtain ⟨b, t, rfl, hl, hb, h⟩ := xi_wV_some h
  exact xi_callV (T := TX6) (nf := 14) hE hb rfl (hs _ _ _ _ h) xw_good (xw_in 525 (by decide +kernel) rfl) (xw_in 522 (by decide +kernel) rfl) (xw_in 523 (by decide +kernel) rfl) (xw_in 524 (by decide +kernel) rfl) (xw_in 54 (by decide +kernel) rfl) ⟨by decide +kernel, by decide +kernel, by rw [hl]; decide +kernel⟩ hd (by decide)
theorem xc_X6_114 {d2 : Nat} (hs : ∀ As m1 r m2, f As m1 = some (r, m2) → xi_Sound l E S D vwCl tys xNs xTs yJ6_bitCount_0f7a4 cJ6_bitCount_0f7a4 1 (some .int) d2 As m1 r m2) (hd : d2 + 1 ≤ d) : ∀ As m1 r m2, xi_wS 1 f As m1 = some (r, m2) → xi_Cal l E S D vwCl tys xNs RX6 xTs cc nL d (.invokestatic 114) As m1 r m2 := fun As m1 r m2 h => by
  obtain ⟨hl, h⟩ := xi_wS_some h
  exact xi_callS (hs _ _ _ _ h) xw_good (xw_in 489 (by decide +kernel) rfl) (xw_in 526 (by decide +kernel) rfl) (xw_in 488 (by decide +kernel) rfl) (xw_in 66 (by decide +kernel) rfl) ⟨by decide +kernel, by decide +kernel, by rw [hl]; decide +kernel⟩ hd (by decide)
theorem xc_X6_119 {d2 : Nat} (hs : ∀ As m1 r m2, f As m1 = some (r, m2) → xi_Sound l E S D vwCl tys xNs xTs yJ9_abs_0f7a4 cJ9_abs_0f7a4 1 (some .int) d2 As m1 r m2) (hd : d2 + 1 ≤ d) : ∀ As m1 r m2, xi_wS 1 f As m1 = some (r, m2) → xi_Cal l E S D vwCl tys xNs RX6 xTs cc nL d (.invokestatic 119) As m1 r m2 := fun As m1 r m2 h => by
  obtain ⟨hl, h⟩ := xi_wS_some h
  exact xi_callS (hs _ _ _ _ h) xw_good (xw_in 485 (by decide +kernel) rfl) (xw_in 538 (by decide +kernel) rfl) (xw_in 484 (by decide +kernel) rfl) (xw_in 65 (by decide +kernel) rfl) ⟨by decide +kernel, by decide +kernel, by rw [hl]; decide +kernel⟩ hd (by decide)
theorem xc_X6_122 {d2 : Nat} (hE : xi_Eok E S vwCl tys) (hs : ∀ As m1 r m2, f As m1 = some (r, m2) → xi_Sound l E S D vwCl tys xNs xTs yX6_manyOf cX6_manyOf 4 (some .int) d2 As m1 r m2) (hd : d2 + 1 ≤ d) : ∀ As m1 r m2, xi_wV S 8 1 f As m1 = some (r, m2) → xi_Cal l E S D vwCl tys xNs RX6 xTs cc nL d (.invokevirtual 122) As m1 r m2 := fun As m1 r m2 h => by
  obtain ⟨b, t, rfl, hl, hb, h⟩ := xi_wV_some h
  exact xi_callV (T := TX6) (nf := 14) hE hb rfl (hs _ _ _ _ h) xw_good (xw_in 800 (by decide +kernel) rfl) (xw_in 797 (by decide +kernel) rfl) (xw_in 799 (by decide +kernel) rfl) (xw_in 22 (by decide +kernel) rfl) (xw_in 54 (by decide +kernel) rfl) ⟨by decide +kernel, by decide +kernel, by rw [hl]; decide +kernel⟩ hd (by decide)
theorem xc_X6_125 {d2 : Nat} (hs : ∀ As m1 r m2, f As m1 = some (r, m2) → xi_Sound l E S D vwCl tys xNs xTs yX4_isOf cX4_isOf 2 (some .boolean) d2 As m1 r m2) (hd : d2 + 1 ≤ d) : ∀ As m1 r m2, xi_wS 2 f As m1 = some (r, m2) → xi_Cal l E S D vwCl tys xNs RX6 xTs cc nL d (.invokestatic 125) As m1 r m2 := fun As m1 r m2 h => by
  obtain ⟨hl, h⟩ := xi_wS_some h
  exact xi_callS (hs _ _ _ _ h) xw_good (xw_in 441 (by decide +kernel) rfl) (xw_in 801 (by decide +kernel) rfl) (xw_in 440 (by decide +kernel) rfl) (xw_in 64 (by decide +kernel) rfl) ⟨by decide +kernel, by decide +kernel, by rw [hl]; decide +kernel⟩ hd (by decide)
theorem xc_X6_129 {d2 : Nat} (hE : xi_Eok E S vwCl tys) (hs : ∀ As m1 r m2, f As m1 = some (r, m2) → xi_Sound l E S D vwCl tys xNs xTs yX6_note cX6_note 4 none d2 As m1 r m2) (hd : d2 + 1 ≤ d) : ∀ As m1 r m2, xi_wV S 8 3 f As m1 = some (r, m2) → xi_Cal l E S D vwCl tys xNs RX6 xTs cc nL d (.invokevirtual 129) As m1 r m2 := fun As m1 r m2 h => by
  obtain ⟨b, t, rfl, hl, hb, h⟩ := xi_wV_some h
  exact xi_callV (T := TX6) (nf := 14) hE hb rfl (hs _ _ _ _ h) xw_good (xw_in 517 (by decide +kernel) rfl) (xw_in 514 (by decide +kernel) rfl) (xw_in 516 (by decide +kernel) rfl) (xw_in 10 (by decide +kernel) rfl) (xw_in 54 (by decide +kernel) rfl) ⟨by decide +kernel, by decide +kernel, by rw [hl]; decide +kernel⟩ hd (by decide)
theorem xc_X6_133 {d2 : Nat} (hE : xi_Eok E S vwCl tys) (hs : ∀ As m1 r m2, f As m1 = some (r, m2) → xi_Sound l E S D vwCl tys xNs xTs yX6_addGoals cX6_addGoals 3 none d2 As m1 r m2) (hd : d2 + 1 ≤ d) : ∀ As m1 r m2, xi_wV S 8 2 f As m1 = some (r, m2) → xi_Cal l E S D vwCl tys xNs RX6 xTs cc nL d (.invokevirtual 133) As m1 r m2 := fun As m1 r m2 h => by
  obtain ⟨b, t, rfl, hl, hb, h⟩ := xi_wV_some h
  exact xi_callV (T := TX6) (nf := 14) hE hb rfl (hs _ _ _ _ h) xw_good (xw_in 521 (by decide +kernel) rfl) (xw_in 518 (by decide +kernel) rfl) (xw_in 520 (by decide +kernel) rfl) (xw_in 11 (by decide +kernel) rfl) (xw_in 54 (by decide +kernel) rfl) ⟨by decide +kernel, by decide +kernel, by rw [hl]; decide +kernel⟩ hd (by decide)
theorem xc_X6_137 {d2 : Nat} (hE : xi_Eok E S vwCl tys) (hs : ∀ As m1 r m2, f As m1 = some (r, m2) → xi_Sound l E S D vwCl tys xNs xTs yX6_takeBackOne cX6_takeBackOne 4 none d2 As m1 r m2) (hd : d2 + 1 ≤ d) : ∀ As m1 r m2, xi_wV S 8 3 f As m1 = some (r, m2) → xi_Cal l E S D vwCl tys xNs RX6 xTs cc nL d (.invokevirtual 137) As m1 r m2 := fun As m1 r m2 h => by
  obtain ⟨b, t, rfl, hl, hb, h⟩ := xi_wV_some h
  exact xi_callV (T := TX6) (nf := 14) hE hb rfl (hs _ _ _ _ h) xw_good (xw_in 570 (by decide +kernel) rfl) (xw_in 567 (by decide +kernel) rfl) (xw_in 569 (by decide +kernel) rfl) (xw_in 12 (by decide +kernel) rfl) (xw_in 54 (by decide +kernel) rfl) ⟨by decide +kernel, by decide +kernel, by rw [hl]; decide +kernel⟩ hd (by decide)
theorem xc_X7_23 {d2 : Nat} (hs : ∀ As m1 r m2, f As m1 = some (r, m2) → xi_Sound l E S D vwCl tys xNs xTs yJ7_fill_53178 cJ7_fill_53178 4 none d2 As m1 r m2) (hd : d2 + 1 ≤ d) : ∀ As m1 r m2, xi_wS 2 f As m1 = some (r, m2) → xi_Cal l E S D vwCl tys xNs RX7 xTs cc nL d (.invokestatic 23) As m1 r m2 := fun As m1 r m2 h => by
  obtain ⟨hl, h⟩ := xi_wS_some h
  exact xi_callS (hs _ _ _ _ h) xw_good (xw_in 302 (by decide +kernel) rfl) (xw_in 300 (by decide +kernel) rfl) (xw_in 301 (by decide +kernel) rfl) (xw_in 61 (by decide +kernel) rfl) ⟨by decide +kernel, by decide +kernel, by rw [hl]; decide +kernel⟩ hd (by decide)
theorem xc_X7_29 {d2 : Nat} (hs : ∀ As m1 r m2, f As m1 = some (r, m2) → xi_Sound l E S D vwCl tys xNs xTs yX8_within cX8_within 2 (some .boolean) d2 As m1 r m2) (hd : d2 + 1 ≤ d) : ∀ As m1 r m2, xi_wS 2 f As m1 = some (r, m2) → xi_Cal l E S D vwCl tys xNs RX7 xTs cc nL d (.invokestatic 29) As m1 r m2 := fun As m1 r m2 h => by
  obtain ⟨hl, h⟩ := xi_wS_some h
  exact xi_callSN (host := "CoatGoals") (hs _ _ _ _ h) xw_good (xw_in 287 (by decide +kernel) rfl) (List.mem_of_getElem? (i := 3) rfl) (xw_in 286 (by decide +kernel) rfl) (xw_in 53 (by decide +kernel) rfl) ⟨by decide +kernel, by decide +kernel, by rw [hl]; decide +kernel⟩ hd (by decide)
theorem xc_X8_71 {d2 : Nat} (hs : ∀ As m1 r m2, f As m1 = some (r, m2) → xi_Sound l E S D vwCl tys xNs xTs yX8_within cX8_within 2 (some .boolean) d2 As m1 r m2) (hd : d2 + 1 ≤ d) : ∀ As m1 r m2, xi_wS 2 f As m1 = some (r, m2) → xi_Cal l E S D vwCl tys xNs RX8 xTs cc nL d (.invokestatic 71) As m1 r m2 := fun As m1 r m2 h => by
  obtain ⟨hl, h⟩ := xi_wS_some h
  exact xi_callS (hs _ _ _ _ h) xw_good (xw_in 287 (by decide +kernel) rfl) (xw_in 285 (by decide +kernel) rfl) (xw_in 286 (by decide +kernel) rfl) (xw_in 53 (by decide +kernel) rfl) ⟨by decide +kernel, by decide +kernel, by rw [hl]; decide +kernel⟩ hd (by decide)
theorem xc_X8_75 {d2 : Nat} (hE : xi_Eok E S vwCl tys) (hs : ∀ As m1 r m2, f As m1 = some (r, m2) → xi_Sound l E S D vwCl tys xNs xTs yX8_begun cX8_begun 4 (some .int) d2 As m1 r m2) (hd : d2 + 1 ≤ d) : ∀ As m1 r m2, xi_wV S 10 3 f As m1 = some (r, m2) → xi_Cal l E S D vwCl tys xNs RX8 xTs cc nL d (.invokevirtual 75) As m1 r m2 := fun As m1 r m2 h => by
  obtain ⟨b, t, rfl, hl, hb, h⟩ := xi_wV_some h
  exact xi_callV (T := TX8) (nf := 14) hE hb rfl (hs _ _ _ _ h) xw_good (xw_in 291 (by decide +kernel) rfl) (xw_in 288 (by decide +kernel) rfl) (xw_in 290 (by decide +kernel) rfl) (xw_in 0 (by decide +kernel) rfl) (xw_in 53 (by decide +kernel) rfl) ⟨by decide +kernel, by decide +kernel, by rw [hl]; decide +kernel⟩ hd (by decide)
theorem xc_X8_79 {d2 : Nat} (hE : xi_Eok E S vwCl tys) (hs : ∀ As m1 r m2, f As m1 = some (r, m2) → xi_Sound l E S D vwCl tys xNs xTs yX7_findingAt cX7_findingAt 2 (some .int) d2 As m1 r m2) (hd : d2 + 1 ≤ d) : ∀ As m1 r m2, xi_wV S 9 1 f As m1 = some (r, m2) → xi_Cal l E S D vwCl tys xNs RX8 xTs cc nL d (.invokevirtual 79) As m1 r m2 := fun As m1 r m2 h => by
  obtain ⟨b, t, rfl, hl, hb, h⟩ := xi_wV_some h
  exact xi_callV (T := TX7) (nf := 3) hE hb rfl (hs _ _ _ _ h) xw_good (xw_in 310 (by decide +kernel) rfl) (xw_in 307 (by decide +kernel) rfl) (xw_in 308 (by decide +kernel) rfl) (xw_in 309 (by decide +kernel) rfl) (xw_in 59 (by decide +kernel) rfl) ⟨by decide +kernel, by decide +kernel, by rw [hl]; decide +kernel⟩ hd (by decide)
theorem xc_X8_83 {d2 : Nat} (hE : xi_Eok E S vwCl tys) (hs : ∀ As m1 r m2, f As m1 = some (r, m2) → xi_Sound l E S D vwCl tys xNs xTs yX8_refuse cX8_refuse 2 (some .int) d2 As m1 r m2) (hd : d2 + 1 ≤ d) : ∀ As m1 r m2, xi_wV S 10 1 f As m1 = some (r, m2) → xi_Cal l E S D vwCl tys xNs RX8 xTs cc nL d (.invokevirtual 83) As m1 r m2 := fun As m1 r m2 h => by
  obtain ⟨b, t, rfl, hl, hb, h⟩ := xi_wV_some h
  exact xi_callV (T := TX8) (nf := 14) hE hb rfl (hs _ _ _ _ h) xw_good (xw_in 295 (by decide +kernel) rfl) (xw_in 292 (by decide +kernel) rfl) (xw_in 294 (by decide +kernel) rfl) (xw_in 1 (by decide +kernel) rfl) (xw_in 53 (by decide +kernel) rfl) ⟨by decide +kernel, by decide +kernel, by rw [hl]; decide +kernel⟩ hd (by decide)
theorem xc_X8_89 {d2 : Nat} (hE : xi_Eok E S vwCl tys) (hs : ∀ As m1 r m2, f As m1 = some (r, m2) → xi_Sound l E S D vwCl tys xNs xTs yX8_answer cX8_answer 2 (some .int) d2 As m1 r m2) (hd : d2 + 1 ≤ d) : ∀ As m1 r m2, xi_wV S 10 1 f As m1 = some (r, m2) → xi_Cal l E S D vwCl tys xNs RX8 xTs cc nL d (.invokevirtual 89) As m1 r m2 := fun As m1 r m2 h => by
  obtain ⟨b, t, rfl, hl, hb, h⟩ := xi_wV_some h
  exact xi_callV (T := TX8) (nf := 14) hE hb rfl (hs _ _ _ _ h) xw_good (xw_in 314 (by decide +kernel) rfl) (xw_in 311 (by decide +kernel) rfl) (xw_in 313 (by decide +kernel) rfl) (xw_in 2 (by decide +kernel) rfl) (xw_in 53 (by decide +kernel) rfl) ⟨by decide +kernel, by decide +kernel, by rw [hl]; decide +kernel⟩ hd (by decide)
theorem xc_X8_96 {d2 : Nat} (hE : xi_Eok E S vwCl tys) (hs : ∀ As m1 r m2, f As m1 = some (r, m2) → xi_Sound l E S D vwCl tys xNs xTs yX7_holds cX7_holds 3 (some .boolean) d2 As m1 r m2) (hd : d2 + 1 ≤ d) : ∀ As m1 r m2, xi_wV S 9 2 f As m1 = some (r, m2) → xi_Cal l E S D vwCl tys xNs RX8 xTs cc nL d (.invokevirtual 96) As m1 r m2 := fun As m1 r m2 h => by
  obtain ⟨b, t, rfl, hl, hb, h⟩ := xi_wV_some h
  exact xi_callV (T := TX7) (nf := 3) hE hb rfl (hs _ _ _ _ h) xw_good (xw_in 330 (by decide +kernel) rfl) (xw_in 327 (by decide +kernel) rfl) (xw_in 328 (by decide +kernel) rfl) (xw_in 329 (by decide +kernel) rfl) (xw_in 59 (by decide +kernel) rfl) ⟨by decide +kernel, by decide +kernel, by rw [hl]; decide +kernel⟩ hd (by decide)
theorem xc_X8_109 {d2 : Nat} (hE : xi_Eok E S vwCl tys) (hs : ∀ As m1 r m2, f As m1 = some (r, m2) → xi_Sound l E S D vwCl tys xNs xTs yX7_sum cX7_sum 4 (some .long) d2 As m1 r m2) (hd : d2 + 1 ≤ d) : ∀ As m1 r m2, xi_wV S 9 0 f As m1 = some (r, m2) → xi_Cal l E S D vwCl tys xNs RX8 xTs cc nL d (.invokevirtual 109) As m1 r m2 := fun As m1 r m2 h => by
  obtain ⟨b, t, rfl, hl, hb, h⟩ := xi_wV_some h
  exact xi_callV (T := TX7) (nf := 3) hE hb rfl (hs _ _ _ _ h) xw_good (xw_in 341 (by decide +kernel) rfl) (xw_in 338 (by decide +kernel) rfl) (xw_in 339 (by decide +kernel) rfl) (xw_in 340 (by decide +kernel) rfl) (xw_in 59 (by decide +kernel) rfl) ⟨by decide +kernel, by decide +kernel, by rw [hl]; decide +kernel⟩ hd (by decide)
theorem xc_X8_118 {d2 : Nat} (hE : xi_Eok E S vwCl tys) (hs : ∀ As m1 r m2, f As m1 = some (r, m2) → xi_Sound l E S D vwCl tys xNs xTs yX5_read cX5_read 3 (some .int) d2 As m1 r m2) (hd : d2 + 1 ≤ d) : ∀ As m1 r m2, xi_wV S 7 1 f As m1 = some (r, m2) → xi_Cal l E S D vwCl tys xNs RX8 xTs cc nL d (.invokevirtual 118) As m1 r m2 := fun As m1 r m2 h => by
  obtain ⟨b, t, rfl, hl, hb, h⟩ := xi_wV_some h
  exact xi_callV (T := TX5) (nf := 3) hE hb rfl (hs _ _ _ _ h) xw_good (xw_in 373 (by decide +kernel) rfl) (xw_in 370 (by decide +kernel) rfl) (xw_in 371 (by decide +kernel) rfl) (xw_in 372 (by decide +kernel) rfl) (xw_in 63 (by decide +kernel) rfl) ⟨by decide +kernel, by decide +kernel, by rw [hl]; decide +kernel⟩ hd (by decide)
theorem xc_X8_122 {d2 : Nat} (hE : xi_Eok E S vwCl tys) (hs : ∀ As m1 r m2, f As m1 = some (r, m2) → xi_Sound l E S D vwCl tys xNs xTs yX6_take cX6_take 2 none d2 As m1 r m2) (hd : d2 + 1 ≤ d) : ∀ As m1 r m2, xi_wV S 8 1 f As m1 = some (r, m2) → xi_Cal l E S D vwCl tys xNs RX8 xTs cc nL d (.invokevirtual 122) As m1 r m2 := fun As m1 r m2 h => by
  obtain ⟨b, t, rfl, hl, hb, h⟩ := xi_wV_some h
  exact xi_callV (T := TX6) (nf := 14) hE hb rfl (hs _ _ _ _ h) xw_good (xw_in 417 (by decide +kernel) rfl) (xw_in 414 (by decide +kernel) rfl) (xw_in 415 (by decide +kernel) rfl) (xw_in 416 (by decide +kernel) rfl) (xw_in 54 (by decide +kernel) rfl) ⟨by decide +kernel, by decide +kernel, by rw [hl]; decide +kernel⟩ hd (by decide)
theorem xc_X8_126 {d2 : Nat} (hE : xi_Eok E S vwCl tys) (hs : ∀ As m1 r m2, f As m1 = some (r, m2) → xi_Sound l E S D vwCl tys xNs xTs yX6_clear cX6_clear 1 none d2 As m1 r m2) (hd : d2 + 1 ≤ d) : ∀ As m1 r m2, xi_wV S 8 0 f As m1 = some (r, m2) → xi_Cal l E S D vwCl tys xNs RX8 xTs cc nL d (.invokevirtual 126) As m1 r m2 := fun As m1 r m2 h => by
  obtain ⟨b, t, rfl, hl, hb, h⟩ := xi_wV_some h
  exact xi_callV (T := TX6) (nf := 14) hE hb rfl (hs _ _ _ _ h) xw_good (xw_in 377 (by decide +kernel) rfl) (xw_in 419 (by decide +kernel) rfl) (xw_in 375 (by decide +kernel) rfl) (xw_in 376 (by decide +kernel) rfl) (xw_in 54 (by decide +kernel) rfl) ⟨by decide +kernel, by decide +kernel, by rw [hl]; decide +kernel⟩ hd (by decide)
theorem xc_X8_132 {d2 : Nat} (hE : xi_Eok E S vwCl tys) (hs : ∀ As m1 r m2, f As m1 = some (r, m2) → xi_Sound l E S D vwCl tys xNs xTs yX6_hasPlayer cX6_hasPlayer 2 (some .boolean) d2 As m1 r m2) (hd : d2 + 1 ≤ d) : ∀ As m1 r m2, xi_wV S 8 1 f As m1 = some (r, m2) → xi_Cal l E S D vwCl tys xNs RX8 xTs cc nL d (.invokevirtual 132) As m1 r m2 := fun As m1 r m2 h => by
  obtain ⟨b, t, rfl, hl, hb, h⟩ := xi_wV_some h
  exact xi_callV (T := TX6) (nf := 14) hE hb rfl (hs _ _ _ _ h) xw_good (xw_in 427 (by decide +kernel) rfl) (xw_in 424 (by decide +kernel) rfl) (xw_in 425 (by decide +kernel) rfl) (xw_in 426 (by decide +kernel) rfl) (xw_in 54 (by decide +kernel) rfl) ⟨by decide +kernel, by decide +kernel, by rw [hl]; decide +kernel⟩ hd (by decide)
theorem xc_X8_136 {d2 : Nat} (hE : xi_Eok E S vwCl tys) (hs : ∀ As m1 r m2, f As m1 = some (r, m2) → xi_Sound l E S D vwCl tys xNs xTs yX6_fact cX6_fact 3 (some .int) d2 As m1 r m2) (hd : d2 + 1 ≤ d) : ∀ As m1 r m2, xi_wV S 8 2 f As m1 = some (r, m2) → xi_Cal l E S D vwCl tys xNs RX8 xTs cc nL d (.invokevirtual 136) As m1 r m2 := fun As m1 r m2 h => by
  obtain ⟨b, t, rfl, hl, hb, h⟩ := xi_wV_some h
  exact xi_callV (T := TX6) (nf := 14) hE hb rfl (hs _ _ _ _ h) xw_good (xw_in 431 (by decide +kernel) rfl) (xw_in 428 (by decide +kernel) rfl) (xw_in 429 (by decide +kernel) rfl) (xw_in 430 (by decide +kernel) rfl) (xw_in 54 (by decide +kernel) rfl) ⟨by decide +kernel, by decide +kernel, by rw [hl]; decide +kernel⟩ hd (by decide)
theorem xc_X8_145 {d2 : Nat} (hs : ∀ As m1 r m2, f As m1 = some (r, m2) → xi_Sound l E S D vwCl tys xNs xTs yX4_isOf cX4_isOf 2 (some .boolean) d2 As m1 r m2) (hd : d2 + 1 ≤ d) : ∀ As m1 r m2, xi_wS 2 f As m1 = some (r, m2) → xi_Cal l E S D vwCl tys xNs RX8 xTs cc nL d (.invokestatic 145) As m1 r m2 := fun As m1 r m2 h => by
  obtain ⟨hl, h⟩ := xi_wS_some h
  exact xi_callS (hs _ _ _ _ h) xw_good (xw_in 441 (by decide +kernel) rfl) (xw_in 481 (by decide +kernel) rfl) (xw_in 440 (by decide +kernel) rfl) (xw_in 64 (by decide +kernel) rfl) ⟨by decide +kernel, by decide +kernel, by rw [hl]; decide +kernel⟩ hd (by decide)
theorem xc_X8_148 {d2 : Nat} (hE : xi_Eok E S vwCl tys) (hs : ∀ As m1 r m2, f As m1 = some (r, m2) → xi_Sound l E S D vwCl tys xNs xTs yX6_landing cX6_landing 2 (some .int) d2 As m1 r m2) (hd : d2 + 1 ≤ d) : ∀ As m1 r m2, xi_wV S 8 1 f As m1 = some (r, m2) → xi_Cal l E S D vwCl tys xNs RX8 xTs cc nL d (.invokevirtual 148) As m1 r m2 := fun As m1 r m2 h => by
  obtain ⟨b, t, rfl, hl, hb, h⟩ := xi_wV_some h
  exact xi_callV (T := TX6) (nf := 14) hE hb rfl (hs _ _ _ _ h) xw_good (xw_in 435 (by decide +kernel) rfl) (xw_in 482 (by decide +kernel) rfl) (xw_in 433 (by decide +kernel) rfl) (xw_in 434 (by decide +kernel) rfl) (xw_in 54 (by decide +kernel) rfl) ⟨by decide +kernel, by decide +kernel, by rw [hl]; decide +kernel⟩ hd (by decide)
theorem xc_X8_154 {d2 : Nat} (hs : ∀ As m1 r m2, f As m1 = some (r, m2) → xi_Sound l E S D vwCl tys xNs xTs yJ9_abs_0f7a4 cJ9_abs_0f7a4 1 (some .int) d2 As m1 r m2) (hd : d2 + 1 ≤ d) : ∀ As m1 r m2, xi_wS 1 f As m1 = some (r, m2) → xi_Cal l E S D vwCl tys xNs RX8 xTs cc nL d (.invokestatic 154) As m1 r m2 := fun As m1 r m2 h => by
  obtain ⟨hl, h⟩ := xi_wS_some h
  exact xi_callS (hs _ _ _ _ h) xw_good (xw_in 485 (by decide +kernel) rfl) (xw_in 483 (by decide +kernel) rfl) (xw_in 484 (by decide +kernel) rfl) (xw_in 65 (by decide +kernel) rfl) ⟨by decide +kernel, by decide +kernel, by rw [hl]; decide +kernel⟩ hd (by decide)
theorem xc_X8_159 {d2 : Nat} (hE : xi_Eok E S vwCl tys) (hs : ∀ As m1 r m2, f As m1 = some (r, m2) → xi_Sound l E S D vwCl tys xNs xTs yX6_reached cX6_reached 3 (some .int) d2 As m1 r m2) (hd : d2 + 1 ≤ d) : ∀ As m1 r m2, xi_wV S 8 1 f As m1 = some (r, m2) → xi_Cal l E S D vwCl tys xNs RX8 xTs cc nL d (.invokevirtual 159) As m1 r m2 := fun As m1 r m2 h => by
  obtain ⟨b, t, rfl, hl, hb, h⟩ := xi_wV_some h
  exact xi_callV (T := TX6) (nf := 14) hE hb rfl (hs _ _ _ _ h) xw_good (xw_in 471 (by decide +kernel) rfl) (xw_in 486 (by decide +kernel) rfl) (xw_in 469 (by decide +kernel) rfl) (xw_in 470 (by decide +kernel) rfl) (xw_in 54 (by decide +kernel) rfl) ⟨by decide +kernel, by decide +kernel, by rw [hl]; decide +kernel⟩ hd (by decide)
theorem xc_X8_162 {d2 : Nat} (hs : ∀ As m1 r m2, f As m1 = some (r, m2) → xi_Sound l E S D vwCl tys xNs xTs yJ6_bitCount_0f7a4 cJ6_bitCount_0f7a4 1 (some .int) d2 As m1 r m2) (hd : d2 + 1 ≤ d) : ∀ As m1 r m2, xi_wS 1 f As m1 = some (r, m2) → xi_Cal l E S D vwCl tys xNs RX8 xTs cc nL d (.invokestatic 162) As m1 r m2 := fun As m1 r m2 h => by
  obtain ⟨hl, h⟩ := xi_wS_some h
  exact xi_callS (hs _ _ _ _ h) xw_good (xw_in 489 (by decide +kernel) rfl) (xw_in 487 (by decide +kernel) rfl) (xw_in 488 (by decide +kernel) rfl) (xw_in 66 (by decide +kernel) rfl) ⟨by decide +kernel, by decide +kernel, by rw [hl]; decide +kernel⟩ hd (by decide)
theorem xc_X8_170 {d2 : Nat} (hE : xi_Eok E S vwCl tys) (hs : ∀ As m1 r m2, f As m1 = some (r, m2) → xi_Sound l E S D vwCl tys xNs xTs yX6_ballBit cX6_ballBit 4 (some .int) d2 As m1 r m2) (hd : d2 + 1 ≤ d) : ∀ As m1 r m2, xi_wV S 8 2 f As m1 = some (r, m2) → xi_Cal l E S D vwCl tys xNs RX8 xTs cc nL d (.invokevirtual 170) As m1 r m2 := fun As m1 r m2 h => by
  obtain ⟨b, t, rfl, hl, hb, h⟩ := xi_wV_some h
  exact xi_callV (T := TX6) (nf := 14) hE hb rfl (hs _ _ _ _ h) xw_good (xw_in 451 (by decide +kernel) rfl) (xw_in 493 (by decide +kernel) rfl) (xw_in 449 (by decide +kernel) rfl) (xw_in 450 (by decide +kernel) rfl) (xw_in 54 (by decide +kernel) rfl) ⟨by decide +kernel, by decide +kernel, by rw [hl]; decide +kernel⟩ hd (by decide)
theorem xc_X8_173 {d2 : Nat} (hE : xi_Eok E S vwCl tys) (hs : ∀ As m1 r m2, f As m1 = some (r, m2) → xi_Sound l E S D vwCl tys xNs xTs yX6_ballsOf cX6_ballsOf 5 (some .int) d2 As m1 r m2) (hd : d2 + 1 ≤ d) : ∀ As m1 r m2, xi_wV S 8 2 f As m1 = some (r, m2) → xi_Cal l E S D vwCl tys xNs RX8 xTs cc nL d (.invokevirtual 173) As m1 r m2 := fun As m1 r m2 h => by
  obtain ⟨b, t, rfl, hl, hb, h⟩ := xi_wV_some h
  exact xi_callV (T := TX6) (nf := 14) hE hb rfl (hs _ _ _ _ h) xw_good (xw_in 497 (by decide +kernel) rfl) (xw_in 494 (by decide +kernel) rfl) (xw_in 495 (by decide +kernel) rfl) (xw_in 496 (by decide +kernel) rfl) (xw_in 54 (by decide +kernel) rfl) ⟨by decide +kernel, by decide +kernel, by rw [hl]; decide +kernel⟩ hd (by decide)
theorem xc_X8_179 {d2 : Nat} (hE : xi_Eok E S vwCl tys) (hs : ∀ As m1 r m2, f As m1 = some (r, m2) → xi_Sound l E S D vwCl tys xNs xTs yX6_landingFrom cX6_landingFrom 4 (some .int) d2 As m1 r m2) (hd : d2 + 1 ≤ d) : ∀ As m1 r m2, xi_wV S 8 3 f As m1 = some (r, m2) → xi_Cal l E S D vwCl tys xNs RX8 xTs cc nL d (.invokevirtual 179) As m1 r m2 := fun As m1 r m2 h => by
  obtain ⟨b, t, rfl, hl, hb, h⟩ := xi_wV_some h
  exact xi_callV (T := TX6) (nf := 14) hE hb rfl (hs _ _ _ _ h) xw_good (xw_in 501 (by decide +kernel) rfl) (xw_in 498 (by decide +kernel) rfl) (xw_in 499 (by decide +kernel) rfl) (xw_in 500 (by decide +kernel) rfl) (xw_in 54 (by decide +kernel) rfl) ⟨by decide +kernel, by decide +kernel, by rw [hl]; decide +kernel⟩ hd (by decide)
theorem xc_X8_186 {d2 : Nat} (hE : xi_Eok E S vwCl tys) (hs : ∀ As m1 r m2, f As m1 = some (r, m2) → xi_Sound l E S D vwCl tys xNs xTs yX6_scorers cX6_scorers 7 (some .int) d2 As m1 r m2) (hd : d2 + 1 ≤ d) : ∀ As m1 r m2, xi_wV S 8 1 f As m1 = some (r, m2) → xi_Cal l E S D vwCl tys xNs RX8 xTs cc nL d (.invokevirtual 186) As m1 r m2 := fun As m1 r m2 h => by
  obtain ⟨b, t, rfl, hl, hb, h⟩ := xi_wV_some h
  exact xi_callV (T := TX6) (nf := 14) hE hb rfl (hs _ _ _ _ h) xw_good (xw_in 509 (by decide +kernel) rfl) (xw_in 506 (by decide +kernel) rfl) (xw_in 507 (by decide +kernel) rfl) (xw_in 508 (by decide +kernel) rfl) (xw_in 54 (by decide +kernel) rfl) ⟨by decide +kernel, by decide +kernel, by rw [hl]; decide +kernel⟩ hd (by decide)
theorem xc_X8_189 {d2 : Nat} (hE : xi_Eok E S vwCl tys) (hs : ∀ As m1 r m2, f As m1 = some (r, m2) → xi_Sound l E S D vwCl tys xNs xTs yX6_endTerm cX6_endTerm 2 none d2 As m1 r m2) (hd : d2 + 1 ≤ d) : ∀ As m1 r m2, xi_wV S 8 1 f As m1 = some (r, m2) → xi_Cal l E S D vwCl tys xNs RX8 xTs cc nL d (.invokevirtual 189) As m1 r m2 := fun As m1 r m2 h => by
  obtain ⟨b, t, rfl, hl, hb, h⟩ := xi_wV_some h
  exact xi_callV (T := TX6) (nf := 14) hE hb rfl (hs _ _ _ _ h) xw_good (xw_in 513 (by decide +kernel) rfl) (xw_in 510 (by decide +kernel) rfl) (xw_in 511 (by decide +kernel) rfl) (xw_in 512 (by decide +kernel) rfl) (xw_in 54 (by decide +kernel) rfl) ⟨by decide +kernel, by decide +kernel, by rw [hl]; decide +kernel⟩ hd (by decide)
theorem xc_X8_195 {d2 : Nat} (hs : ∀ As m1 r m2, f As m1 = some (r, m2) → xi_Sound l E S D vwCl tys xNs xTs yX8_mayMove cX8_mayMove 5 (some .boolean) d2 As m1 r m2) (hd : d2 + 1 ≤ d) : ∀ As m1 r m2, xi_wS 3 f As m1 = some (r, m2) → xi_Cal l E S D vwCl tys xNs RX8 xTs cc nL d (.invokestatic 195) As m1 r m2 := fun As m1 r m2 h => by
  obtain ⟨hl, h⟩ := xi_wS_some h
  exact xi_callS (hs _ _ _ _ h) xw_good (xw_in 533 (by decide +kernel) rfl) (xw_in 531 (by decide +kernel) rfl) (xw_in 532 (by decide +kernel) rfl) (xw_in 53 (by decide +kernel) rfl) ⟨by decide +kernel, by decide +kernel, by rw [hl]; decide +kernel⟩ hd (by decide)
theorem xc_X8_199 {d2 : Nat} (hE : xi_Eok E S vwCl tys) (hs : ∀ As m1 r m2, f As m1 = some (r, m2) → xi_Sound l E S D vwCl tys xNs xTs yX6_witnesses cX6_witnesses 4 (some .int) d2 As m1 r m2) (hd : d2 + 1 ≤ d) : ∀ As m1 r m2, xi_wV S 8 1 f As m1 = some (r, m2) → xi_Cal l E S D vwCl tys xNs RX8 xTs cc nL d (.invokevirtual 199) As m1 r m2 := fun As m1 r m2 h => by
  obtain ⟨b, t, rfl, hl, hb, h⟩ := xi_wV_some h
  exact xi_callV (T := TX6) (nf := 14) hE hb rfl (hs _ _ _ _ h) xw_good (xw_in 537 (by decide +kernel) rfl) (xw_in 534 (by decide +kernel) rfl) (xw_in 535 (by decide +kernel) rfl) (xw_in 536 (by decide +kernel) rfl) (xw_in 54 (by decide +kernel) rfl) ⟨by decide +kernel, by decide +kernel, by rw [hl]; decide +kernel⟩ hd (by decide)
theorem xc_X8_202 {d2 : Nat} (hE : xi_Eok E S vwCl tys) (hs : ∀ As m1 r m2, f As m1 = some (r, m2) → xi_Sound l E S D vwCl tys xNs xTs yX6_moveCoat cX6_moveCoat 3 none d2 As m1 r m2) (hd : d2 + 1 ≤ d) : ∀ As m1 r m2, xi_wV S 8 2 f As m1 = some (r, m2) → xi_Cal l E S D vwCl tys xNs RX8 xTs cc nL d (.invokevirtual 202) As m1 r m2 := fun As m1 r m2 h => by
  obtain ⟨b, t, rfl, hl, hb, h⟩ := xi_wV_some h
  exact xi_callV (T := TX6) (nf := 14) hE hb rfl (hs _ _ _ _ h) xw_good (xw_in 542 (by decide +kernel) rfl) (xw_in 539 (by decide +kernel) rfl) (xw_in 540 (by decide +kernel) rfl) (xw_in 541 (by decide +kernel) rfl) (xw_in 54 (by decide +kernel) rfl) ⟨by decide +kernel, by decide +kernel, by rw [hl]; decide +kernel⟩ hd (by decide)
theorem xc_X8_206 {d2 : Nat} (hE : xi_Eok E S vwCl tys) (hs : ∀ As m1 r m2, f As m1 = some (r, m2) → xi_Sound l E S D vwCl tys xNs xTs yX6_turnWeather cX6_turnWeather 2 none d2 As m1 r m2) (hd : d2 + 1 ≤ d) : ∀ As m1 r m2, xi_wV S 8 1 f As m1 = some (r, m2) → xi_Cal l E S D vwCl tys xNs RX8 xTs cc nL d (.invokevirtual 206) As m1 r m2 := fun As m1 r m2 h => by
  obtain ⟨b, t, rfl, hl, hb, h⟩ := xi_wV_some h
  exact xi_callV (T := TX6) (nf := 14) hE hb rfl (hs _ _ _ _ h) xw_good (xw_in 550 (by decide +kernel) rfl) (xw_in 547 (by decide +kernel) rfl) (xw_in 548 (by decide +kernel) rfl) (xw_in 549 (by decide +kernel) rfl) (xw_in 54 (by decide +kernel) rfl) ⟨by decide +kernel, by decide +kernel, by rw [hl]; decide +kernel⟩ hd (by decide)
theorem xc_X8_209 {d2 : Nat} (hE : xi_Eok E S vwCl tys) (hs : ∀ As m1 r m2, f As m1 = some (r, m2) → xi_Sound l E S D vwCl tys xNs xTs yX6_send cX6_send 3 none d2 As m1 r m2) (hd : d2 + 1 ≤ d) : ∀ As m1 r m2, xi_wV S 8 2 f As m1 = some (r, m2) → xi_Cal l E S D vwCl tys xNs RX8 xTs cc nL d (.invokevirtual 209) As m1 r m2 := fun As m1 r m2 h => by
  obtain ⟨b, t, rfl, hl, hb, h⟩ := xi_wV_some h
  exact xi_callV (T := TX6) (nf := 14) hE hb rfl (hs _ _ _ _ h) xw_good (xw_in 558 (by decide +kernel) rfl) (xw_in 555 (by decide +kernel) rfl) (xw_in 556 (by decide +kernel) rfl) (xw_in 557 (by decide +kernel) rfl) (xw_in 54 (by decide +kernel) rfl) ⟨by decide +kernel, by decide +kernel, by rw [hl]; decide +kernel⟩ hd (by decide)
theorem xc_X8_212 {d2 : Nat} (hE : xi_Eok E S vwCl tys) (hs : ∀ As m1 r m2, f As m1 = some (r, m2) → xi_Sound l E S D vwCl tys xNs xTs yX6_takeBack cX6_takeBack 4 (some .int) d2 As m1 r m2) (hd : d2 + 1 ≤ d) : ∀ As m1 r m2, xi_wV S 8 1 f As m1 = some (r, m2) → xi_Cal l E S D vwCl tys xNs RX8 xTs cc nL d (.invokevirtual 212) As m1 r m2 := fun As m1 r m2 h => by
  obtain ⟨b, t, rfl, hl, hb, h⟩ := xi_wV_some h
  exact xi_callV (T := TX6) (nf := 14) hE hb rfl (hs _ _ _ _ h) xw_good (xw_in 566 (by decide +kernel) rfl) (xw_in 563 (by decide +kernel) rfl) (xw_in 564 (by decide +kernel) rfl) (xw_in 565 (by decide +kernel) rfl) (xw_in 54 (by decide +kernel) rfl) ⟨by decide +kernel, by decide +kernel, by rw [hl]; decide +kernel⟩ hd (by decide)
theorem xc_X8_215 {d2 : Nat} (hE : xi_Eok E S vwCl tys) (hs : ∀ As m1 r m2, f As m1 = some (r, m2) → xi_Sound l E S D vwCl tys xNs xTs yX8_isKept cX8_isKept 2 (some .boolean) d2 As m1 r m2) (hd : d2 + 1 ≤ d) : ∀ As m1 r m2, xi_wV S 10 1 f As m1 = some (r, m2) → xi_Cal l E S D vwCl tys xNs RX8 xTs cc nL d (.invokevirtual 215) As m1 r m2 := fun As m1 r m2 h => by
  obtain ⟨b, t, rfl, hl, hb, h⟩ := xi_wV_some h
  exact xi_callV (T := TX8) (nf := 14) hE hb rfl (hs _ _ _ _ h) xw_good (xw_in 582 (by decide +kernel) rfl) (xw_in 579 (by decide +kernel) rfl) (xw_in 581 (by decide +kernel) rfl) (xw_in 13 (by decide +kernel) rfl) (xw_in 53 (by decide +kernel) rfl) ⟨by decide +kernel, by decide +kernel, by rw [hl]; decide +kernel⟩ hd (by decide)
theorem xc_X8_218 {d2 : Nat} (hE : xi_Eok E S vwCl tys) (hs : ∀ As m1 r m2, f As m1 = some (r, m2) → xi_Sound l E S D vwCl tys xNs xTs yX6_inPlaces cX6_inPlaces 2 (some .int) d2 As m1 r m2) (hd : d2 + 1 ≤ d) : ∀ As m1 r m2, xi_wV S 8 1 f As m1 = some (r, m2) → xi_Cal l E S D vwCl tys xNs RX8 xTs cc nL d (.invokevirtual 218) As m1 r m2 := fun As m1 r m2 h => by
  obtain ⟨b, t, rfl, hl, hb, h⟩ := xi_wV_some h
  exact xi_callV (T := TX6) (nf := 14) hE hb rfl (hs _ _ _ _ h) xw_good (xw_in 456 (by decide +kernel) rfl) (xw_in 591 (by decide +kernel) rfl) (xw_in 454 (by decide +kernel) rfl) (xw_in 455 (by decide +kernel) rfl) (xw_in 54 (by decide +kernel) rfl) ⟨by decide +kernel, by decide +kernel, by rw [hl]; decide +kernel⟩ hd (by decide)
theorem xc_X8_224 {d2 : Nat} (hE : xi_Eok E S vwCl tys) (hs : ∀ As m1 r m2, f As m1 = some (r, m2) → xi_Sound l E S D vwCl tys xNs xTs yX6_advantage cX6_advantage 5 (some .int) d2 As m1 r m2) (hd : d2 + 1 ≤ d) : ∀ As m1 r m2, xi_wV S 8 2 f As m1 = some (r, m2) → xi_Cal l E S D vwCl tys xNs RX8 xTs cc nL d (.invokevirtual 224) As m1 r m2 := fun As m1 r m2 h => by
  obtain ⟨b, t, rfl, hl, hb, h⟩ := xi_wV_some h
  exact xi_callV (T := TX6) (nf := 14) hE hb rfl (hs _ _ _ _ h) xw_good (xw_in 603 (by decide +kernel) rfl) (xw_in 600 (by decide +kernel) rfl) (xw_in 601 (by decide +kernel) rfl) (xw_in 602 (by decide +kernel) rfl) (xw_in 54 (by decide +kernel) rfl) ⟨by decide +kernel, by decide +kernel, by rw [hl]; decide +kernel⟩ hd (by decide)
theorem xc_X8_227 {d2 : Nat} (hE : xi_Eok E S vwCl tys) (hs : ∀ As m1 r m2, f As m1 = some (r, m2) → xi_Sound l E S D vwCl tys xNs xTs yX1_take cX1_take 3 none d2 As m1 r m2) (hd : d2 + 1 ≤ d) : ∀ As m1 r m2, xi_wV S 4 1 f As m1 = some (r, m2) → xi_Cal l E S D vwCl tys xNs RX8 xTs cc nL d (.invokevirtual 227) As m1 r m2 := fun As m1 r m2 h => by
  obtain ⟨b, t, rfl, hl, hb, h⟩ := xi_wV_some h
  exact xi_callV (T := TX1) (nf := 5) hE hb rfl (hs _ _ _ _ h) xw_good (xw_in 612 (by decide +kernel) rfl) (xw_in 609 (by decide +kernel) rfl) (xw_in 610 (by decide +kernel) rfl) (xw_in 611 (by decide +kernel) rfl) (xw_in 55 (by decide +kernel) rfl) ⟨by decide +kernel, by decide +kernel, by rw [hl]; decide +kernel⟩ hd (by decide)
theorem xc_X8_228 {d2 : Nat} (hE : xi_Eok E S vwCl tys) (hs : ∀ As m1 r m2, f As m1 = some (r, m2) → xi_Sound l E S D vwCl tys xNs xTs yX0_weigh cX0_weigh 5 none d2 As m1 r m2) (hd : d2 + 1 ≤ d) : ∀ As m1 r m2, xi_wV S 3 2 f As m1 = some (r, m2) → xi_Cal l E S D vwCl tys xNs RX8 xTs cc nL d (.invokevirtual 228) As m1 r m2 := fun As m1 r m2 h => by
  obtain ⟨b, t, rfl, hl, hb, h⟩ := xi_wV_some h
  exact xi_callV (T := TX0) (nf := 3) hE hb rfl (hs _ _ _ _ h) xw_good (xw_in 618 (by decide +kernel) rfl) (xw_in 615 (by decide +kernel) rfl) (xw_in 616 (by decide +kernel) rfl) (xw_in 617 (by decide +kernel) rfl) (xw_in 56 (by decide +kernel) rfl) ⟨by decide +kernel, by decide +kernel, by rw [hl]; decide +kernel⟩ hd (by decide)
theorem xc_X8_232 {d2 : Nat} (hE : xi_Eok E S vwCl tys) (hs : ∀ As m1 r m2, f As m1 = some (r, m2) → xi_Sound l E S D vwCl tys xNs xTs yX0_fewest cX0_fewest 7 (some .int) d2 As m1 r m2) (hd : d2 + 1 ≤ d) : ∀ As m1 r m2, xi_wV S 3 2 f As m1 = some (r, m2) → xi_Cal l E S D vwCl tys xNs RX8 xTs cc nL d (.invokevirtual 232) As m1 r m2 := fun As m1 r m2 h => by
  obtain ⟨b, t, rfl, hl, hb, h⟩ := xi_wV_some h
  exact xi_callV (T := TX0) (nf := 3) hE hb rfl (hs _ _ _ _ h) xw_good (xw_in 637 (by decide +kernel) rfl) (xw_in 634 (by decide +kernel) rfl) (xw_in 635 (by decide +kernel) rfl) (xw_in 636 (by decide +kernel) rfl) (xw_in 56 (by decide +kernel) rfl) ⟨by decide +kernel, by decide +kernel, by rw [hl]; decide +kernel⟩ hd (by decide)
theorem xc_X8_235 {d2 : Nat} (hE : xi_Eok E S vwCl tys) (hs : ∀ As m1 r m2, f As m1 = some (r, m2) → xi_Sound l E S D vwCl tys xNs xTs yX7_begin cX7_begin 3 none d2 As m1 r m2) (hd : d2 + 1 ≤ d) : ∀ As m1 r m2, xi_wV S 9 2 f As m1 = some (r, m2) → xi_Cal l E S D vwCl tys xNs RX8 xTs cc nL d (.invokevirtual 235) As m1 r m2 := fun As m1 r m2 h => by
  obtain ⟨b, t, rfl, hl, hb, h⟩ := xi_wV_some h
  exact xi_callV (T := TX7) (nf := 3) hE hb rfl (hs _ _ _ _ h) xw_good (xw_in 299 (by decide +kernel) rfl) (xw_in 296 (by decide +kernel) rfl) (xw_in 297 (by decide +kernel) rfl) (xw_in 298 (by decide +kernel) rfl) (xw_in 59 (by decide +kernel) rfl) ⟨by decide +kernel, by decide +kernel, by rw [hl]; decide +kernel⟩ hd (by decide)
theorem xc_X8_238 {d2 : Nat} (hE : xi_Eok E S vwCl tys) (hs : ∀ As m1 r m2, f As m1 = some (r, m2) → xi_Sound l E S D vwCl tys xNs xTs yX0_write cX0_write 2 none d2 As m1 r m2) (hd : d2 + 1 ≤ d) : ∀ As m1 r m2, xi_wV S 3 1 f As m1 = some (r, m2) → xi_Cal l E S D vwCl tys xNs RX8 xTs cc nL d (.invokevirtual 238) As m1 r m2 := fun As m1 r m2 h => by
  obtain ⟨b, t, rfl, hl, hb, h⟩ := xi_wV_some h
  exact xi_callV (T := TX0) (nf := 3) hE hb rfl (hs _ _ _ _ h) xw_good (xw_in 649 (by decide +kernel) rfl) (xw_in 646 (by decide +kernel) rfl) (xw_in 647 (by decide +kernel) rfl) (xw_in 648 (by decide +kernel) rfl) (xw_in 56 (by decide +kernel) rfl) ⟨by decide +kernel, by decide +kernel, by rw [hl]; decide +kernel⟩ hd (by decide)
theorem xc_X8_242 {d2 : Nat} (hE : xi_Eok E S vwCl tys) (hs : ∀ As m1 r m2, f As m1 = some (r, m2) → xi_Sound l E S D vwCl tys xNs xTs yX8_refusedGuess cX8_refusedGuess 4 (some .int) d2 As m1 r m2) (hd : d2 + 1 ≤ d) : ∀ As m1 r m2, xi_wV S 10 2 f As m1 = some (r, m2) → xi_Cal l E S D vwCl tys xNs RX8 xTs cc nL d (.invokevirtual 242) As m1 r m2 := fun As m1 r m2 h => by
  obtain ⟨b, t, rfl, hl, hb, h⟩ := xi_wV_some h
  exact xi_callV (T := TX8) (nf := 14) hE hb rfl (hs _ _ _ _ h) xw_good (xw_in 657 (by decide +kernel) rfl) (xw_in 654 (by decide +kernel) rfl) (xw_in 656 (by decide +kernel) rfl) (xw_in 15 (by decide +kernel) rfl) (xw_in 53 (by decide +kernel) rfl) ⟨by decide +kernel, by decide +kernel, by rw [hl]; decide +kernel⟩ hd (by decide)
theorem xc_X8_245 {d2 : Nat} (hE : xi_Eok E S vwCl tys) (hs : ∀ As m1 r m2, f As m1 = some (r, m2) → xi_Sound l E S D vwCl tys xNs xTs yX3_weigh cX3_weigh 8 none d2 As m1 r m2) (hd : d2 + 1 ≤ d) : ∀ As m1 r m2, xi_wV S 6 3 f As m1 = some (r, m2) → xi_Cal l E S D vwCl tys xNs RX8 xTs cc nL d (.invokevirtual 245) As m1 r m2 := fun As m1 r m2 h => by
  obtain ⟨b, t, rfl, hl, hb, h⟩ := xi_wV_some h
  exact xi_callV (T := TX3) (nf := 3) hE hb rfl (hs _ _ _ _ h) xw_good (xw_in 666 (by decide +kernel) rfl) (xw_in 663 (by decide +kernel) rfl) (xw_in 664 (by decide +kernel) rfl) (xw_in 665 (by decide +kernel) rfl) (xw_in 58 (by decide +kernel) rfl) ⟨by decide +kernel, by decide +kernel, by rw [hl]; decide +kernel⟩ hd (by decide)
theorem xc_X8_251 {d2 : Nat} (hE : xi_Eok E S vwCl tys) (hs : ∀ As m1 r m2, f As m1 = some (r, m2) → xi_Sound l E S D vwCl tys xNs xTs yX8_tell cX8_tell 12 none d2 As m1 r m2) (hd : d2 + 1 ≤ d) : ∀ As m1 r m2, xi_wV S 10 2 f As m1 = some (r, m2) → xi_Cal l E S D vwCl tys xNs RX8 xTs cc nL d (.invokevirtual 251) As m1 r m2 := fun As m1 r m2 h => by
  obtain ⟨b, t, rfl, hl, hb, h⟩ := xi_wV_some h
  exact xi_callV (T := TX8) (nf := 14) hE hb rfl (hs _ _ _ _ h) xw_good (xw_in 680 (by decide +kernel) rfl) (xw_in 677 (by decide +kernel) rfl) (xw_in 679 (by decide +kernel) rfl) (xw_in 17 (by decide +kernel) rfl) (xw_in 53 (by decide +kernel) rfl) ⟨by decide +kernel, by decide +kernel, by rw [hl]; decide +kernel⟩ hd (by decide)
theorem xc_X8_258 {d2 : Nat} (hE : xi_Eok E S vwCl tys) (hs : ∀ As m1 r m2, f As m1 = some (r, m2) → xi_Sound l E S D vwCl tys xNs xTs yX3_placesInWith cX3_placesInWith 4 (some .int) d2 As m1 r m2) (hd : d2 + 1 ≤ d) : ∀ As m1 r m2, xi_wV S 6 1 f As m1 = some (r, m2) → xi_Cal l E S D vwCl tys xNs RX8 xTs cc nL d (.invokevirtual 258) As m1 r m2 := fun As m1 r m2 h => by
  obtain ⟨b, t, rfl, hl, hb, h⟩ := xi_wV_some h
  exact xi_callV (T := TX3) (nf := 3) hE hb rfl (hs _ _ _ _ h) xw_good (xw_in 688 (by decide +kernel) rfl) (xw_in 685 (by decide +kernel) rfl) (xw_in 686 (by decide +kernel) rfl) (xw_in 687 (by decide +kernel) rfl) (xw_in 58 (by decide +kernel) rfl) ⟨by decide +kernel, by decide +kernel, by rw [hl]; decide +kernel⟩ hd (by decide)
theorem xc_X8_261 {d2 : Nat} (hE : xi_Eok E S vwCl tys) (hs : ∀ As m1 r m2, f As m1 = some (r, m2) → xi_Sound l E S D vwCl tys xNs xTs yX3_tellingPlace cX3_tellingPlace 3 (some .int) d2 As m1 r m2) (hd : d2 + 1 ≤ d) : ∀ As m1 r m2, xi_wV S 6 0 f As m1 = some (r, m2) → xi_Cal l E S D vwCl tys xNs RX8 xTs cc nL d (.invokevirtual 261) As m1 r m2 := fun As m1 r m2 h => by
  obtain ⟨b, t, rfl, hl, hb, h⟩ := xi_wV_some h
  exact xi_callV (T := TX3) (nf := 3) hE hb rfl (hs _ _ _ _ h) xw_good (xw_in 696 (by decide +kernel) rfl) (xw_in 693 (by decide +kernel) rfl) (xw_in 694 (by decide +kernel) rfl) (xw_in 695 (by decide +kernel) rfl) (xw_in 58 (by decide +kernel) rfl) ⟨by decide +kernel, by decide +kernel, by rw [hl]; decide +kernel⟩ hd (by decide)
theorem xc_X8_265 {d2 : Nat} (hE : xi_Eok E S vwCl tys) (hs : ∀ As m1 r m2, f As m1 = some (r, m2) → xi_Sound l E S D vwCl tys xNs xTs yX3_greaterPart cX3_greaterPart 2 (some .int) d2 As m1 r m2) (hd : d2 + 1 ≤ d) : ∀ As m1 r m2, xi_wV S 6 1 f As m1 = some (r, m2) → xi_Cal l E S D vwCl tys xNs RX8 xTs cc nL d (.invokevirtual 265) As m1 r m2 := fun As m1 r m2 h => by
  obtain ⟨b, t, rfl, hl, hb, h⟩ := xi_wV_some h
  exact xi_callV (T := TX3) (nf := 3) hE hb rfl (hs _ _ _ _ h) xw_good (xw_in 700 (by decide +kernel) rfl) (xw_in 702 (by decide +kernel) rfl) (xw_in 698 (by decide +kernel) rfl) (xw_in 699 (by decide +kernel) rfl) (xw_in 58 (by decide +kernel) rfl) ⟨by decide +kernel, by decide +kernel, by rw [hl]; decide +kernel⟩ hd (by decide)
theorem xc_X8_268 {d2 : Nat} (hE : xi_Eok E S vwCl tys) (hs : ∀ As m1 r m2, f As m1 = some (r, m2) → xi_Sound l E S D vwCl tys xNs xTs yX8_refusedTrace cX8_refusedTrace 4 (some .int) d2 As m1 r m2) (hd : d2 + 1 ≤ d) : ∀ As m1 r m2, xi_wV S 10 2 f As m1 = some (r, m2) → xi_Cal l E S D vwCl tys xNs RX8 xTs cc nL d (.invokevirtual 268) As m1 r m2 := fun As m1 r m2 h => by
  obtain ⟨b, t, rfl, hl, hb, h⟩ := xi_wV_some h
  exact xi_callV (T := TX8) (nf := 14) hE hb rfl (hs _ _ _ _ h) xw_good (xw_in 710 (by decide +kernel) rfl) (xw_in 707 (by decide +kernel) rfl) (xw_in 709 (by decide +kernel) rfl) (xw_in 18 (by decide +kernel) rfl) (xw_in 53 (by decide +kernel) rfl) ⟨by decide +kernel, by decide +kernel, by rw [hl]; decide +kernel⟩ hd (by decide)
theorem xc_X8_274 {d2 : Nat} (hs : ∀ As m1 r m2, f As m1 = some (r, m2) → xi_Sound l E S D vwCl tys xNs xTs yX8_landedSo cX8_landedSo 5 (some .boolean) d2 As m1 r m2) (hd : d2 + 1 ≤ d) : ∀ As m1 r m2, xi_wS 4 f As m1 = some (r, m2) → xi_Cal l E S D vwCl tys xNs RX8 xTs cc nL d (.invokestatic 274) As m1 r m2 := fun As m1 r m2 h => by
  obtain ⟨hl, h⟩ := xi_wS_some h
  exact xi_callS (hs _ _ _ _ h) xw_good (xw_in 713 (by decide +kernel) rfl) (xw_in 711 (by decide +kernel) rfl) (xw_in 712 (by decide +kernel) rfl) (xw_in 53 (by decide +kernel) rfl) ⟨by decide +kernel, by decide +kernel, by rw [hl]; decide +kernel⟩ hd (by decide)
theorem xc_X8_278 {d2 : Nat} (hE : xi_Eok E S vwCl tys) (hs : ∀ As m1 r m2, f As m1 = some (r, m2) → xi_Sound l E S D vwCl tys xNs xTs yX6_strengthOf cX6_strengthOf 4 (some .int) d2 As m1 r m2) (hd : d2 + 1 ≤ d) : ∀ As m1 r m2, xi_wV S 8 1 f As m1 = some (r, m2) → xi_Cal l E S D vwCl tys xNs RX8 xTs cc nL d (.invokevirtual 278) As m1 r m2 := fun As m1 r m2 h => by
  obtain ⟨b, t, rfl, hl, hb, h⟩ := xi_wV_some h
  exact xi_callV (T := TX6) (nf := 14) hE hb rfl (hs _ _ _ _ h) xw_good (xw_in 726 (by decide +kernel) rfl) (xw_in 723 (by decide +kernel) rfl) (xw_in 724 (by decide +kernel) rfl) (xw_in 725 (by decide +kernel) rfl) (xw_in 54 (by decide +kernel) rfl) ⟨by decide +kernel, by decide +kernel, by rw [hl]; decide +kernel⟩ hd (by decide)
theorem xc_X8_281 {d2 : Nat} (hE : xi_Eok E S vwCl tys) (hs : ∀ As m1 r m2, f As m1 = some (r, m2) → xi_Sound l E S D vwCl tys xNs xTs yX2_outcome cX2_outcome 4 (some .int) d2 As m1 r m2) (hd : d2 + 1 ≤ d) : ∀ As m1 r m2, xi_wV S 5 3 f As m1 = some (r, m2) → xi_Cal l E S D vwCl tys xNs RX8 xTs cc nL d (.invokevirtual 281) As m1 r m2 := fun As m1 r m2 h => by
  obtain ⟨b, t, rfl, hl, hb, h⟩ := xi_wV_some h
  exact xi_callV (T := TX2) (nf := 1) hE hb rfl (hs _ _ _ _ h) xw_good (xw_in 738 (by decide +kernel) rfl) (xw_in 735 (by decide +kernel) rfl) (xw_in 736 (by decide +kernel) rfl) (xw_in 737 (by decide +kernel) rfl) (xw_in 57 (by decide +kernel) rfl) ⟨by decide +kernel, by decide +kernel, by rw [hl]; decide +kernel⟩ hd (by decide)
theorem xc_X8_285 {d2 : Nat} (hE : xi_Eok E S vwCl tys) (hs : ∀ As m1 r m2, f As m1 = some (r, m2) → xi_Sound l E S D vwCl tys xNs xTs yX8_weightOf cX8_weightOf 6 (some .long) d2 As m1 r m2) (hd : d2 + 1 ≤ d) : ∀ As m1 r m2, xi_wV S 10 2 f As m1 = some (r, m2) → xi_Cal l E S D vwCl tys xNs RX8 xTs cc nL d (.invokevirtual 285) As m1 r m2 := fun As m1 r m2 h => by
  obtain ⟨b, t, rfl, hl, hb, h⟩ := xi_wV_some h
  exact xi_callV (T := TX8) (nf := 14) hE hb rfl (hs _ _ _ _ h) xw_good (xw_in 754 (by decide +kernel) rfl) (xw_in 751 (by decide +kernel) rfl) (xw_in 753 (by decide +kernel) rfl) (xw_in 19 (by decide +kernel) rfl) (xw_in 53 (by decide +kernel) rfl) ⟨by decide +kernel, by decide +kernel, by rw [hl]; decide +kernel⟩ hd (by decide)
theorem xc_X8_295 {d2 : Nat} (hE : xi_Eok E S vwCl tys) (hs : ∀ As m1 r m2, f As m1 = some (r, m2) → xi_Sound l E S D vwCl tys xNs xTs yX8_doByLot cX8_doByLot 5 none d2 As m1 r m2) (hd : d2 + 1 ≤ d) : ∀ As m1 r m2, xi_wV S 10 1 f As m1 = some (r, m2) → xi_Cal l E S D vwCl tys xNs RX8 xTs cc nL d (.invokevirtual 295) As m1 r m2 := fun As m1 r m2 h => by
  obtain ⟨b, t, rfl, hl, hb, h⟩ := xi_wV_some h
  exact xi_callV (T := TX8) (nf := 14) hE hb rfl (hs _ _ _ _ h) xw_good (xw_in 769 (by decide +kernel) rfl) (xw_in 766 (by decide +kernel) rfl) (xw_in 768 (by decide +kernel) rfl) (xw_in 20 (by decide +kernel) rfl) (xw_in 53 (by decide +kernel) rfl) ⟨by decide +kernel, by decide +kernel, by rw [hl]; decide +kernel⟩ hd (by decide)
theorem xc_X8_304 {d2 : Nat} (hs : ∀ As m1 r m2, f As m1 = some (r, m2) → xi_Sound l E S D vwCl tys xNs xTs yX8_thereOf cX8_thereOf 3 (some .int) d2 As m1 r m2) (hd : d2 + 1 ≤ d) : ∀ As m1 r m2, xi_wS 1 f As m1 = some (r, m2) → xi_Cal l E S D vwCl tys xNs RX8 xTs cc nL d (.invokestatic 304) As m1 r m2 := fun As m1 r m2 h => by
  obtain ⟨hl, h⟩ := xi_wS_some h
  exact xi_callS (hs _ _ _ _ h) xw_good (xw_in 788 (by decide +kernel) rfl) (xw_in 786 (by decide +kernel) rfl) (xw_in 787 (by decide +kernel) rfl) (xw_in 53 (by decide +kernel) rfl) ⟨by decide +kernel, by decide +kernel, by rw [hl]; decide +kernel⟩ hd (by decide)
theorem xc_X8_308 {d2 : Nat} (hE : xi_Eok E S vwCl tys) (hs : ∀ As m1 r m2, f As m1 = some (r, m2) → xi_Sound l E S D vwCl tys xNs xTs yX8_keptMany cX8_keptMany 3 (some .int) d2 As m1 r m2) (hd : d2 + 1 ≤ d) : ∀ As m1 r m2, xi_wV S 10 0 f As m1 = some (r, m2) → xi_Cal l E S D vwCl tys xNs RX8 xTs cc nL d (.invokevirtual 308) As m1 r m2 := fun As m1 r m2 h => by
  obtain ⟨b, t, rfl, hl, hb, h⟩ := xi_wV_some h
  exact xi_callV (T := TX8) (nf := 14) hE hb rfl (hs _ _ _ _ h) xw_good (xw_in 792 (by decide +kernel) rfl) (xw_in 789 (by decide +kernel) rfl) (xw_in 791 (by decide +kernel) rfl) (xw_in 21 (by decide +kernel) rfl) (xw_in 53 (by decide +kernel) rfl) ⟨by decide +kernel, by decide +kernel, by rw [hl]; decide +kernel⟩ hd (by decide)
theorem xc_X8_311 {d2 : Nat} (hE : xi_Eok E S vwCl tys) (hs : ∀ As m1 r m2, f As m1 = some (r, m2) → xi_Sound l E S D vwCl tys xNs xTs yX6_number cX6_number 2 (some .int) d2 As m1 r m2) (hd : d2 + 1 ≤ d) : ∀ As m1 r m2, xi_wV S 8 1 f As m1 = some (r, m2) → xi_Cal l E S D vwCl tys xNs RX8 xTs cc nL d (.invokevirtual 311) As m1 r m2 := fun As m1 r m2 h => by
  obtain ⟨b, t, rfl, hl, hb, h⟩ := xi_wV_some h
  exact xi_callV (T := TX6) (nf := 14) hE hb rfl (hs _ _ _ _ h) xw_good (xw_in 796 (by decide +kernel) rfl) (xw_in 793 (by decide +kernel) rfl) (xw_in 794 (by decide +kernel) rfl) (xw_in 795 (by decide +kernel) rfl) (xw_in 54 (by decide +kernel) rfl) ⟨by decide +kernel, by decide +kernel, by rw [hl]; decide +kernel⟩ hd (by decide)
theorem xc_X8_321 {d2 : Nat} (hE : xi_Eok E S vwCl tys) (hs : ∀ As m1 r m2, f As m1 = some (r, m2) → xi_Sound l E S D vwCl tys xNs xTs yX8_count cX8_count 2 (some .int) d2 As m1 r m2) (hd : d2 + 1 ≤ d) : ∀ As m1 r m2, xi_wV S 10 1 f As m1 = some (r, m2) → xi_Cal l E S D vwCl tys xNs RX8 xTs cc nL d (.invokevirtual 321) As m1 r m2 := fun As m1 r m2 h => by
  obtain ⟨b, t, rfl, hl, hb, h⟩ := xi_wV_some h
  exact xi_callV (T := TX8) (nf := 14) hE hb rfl (hs _ _ _ _ h) xw_good (xw_in 785 (by decide +kernel) rfl) (xw_in 816 (by decide +kernel) rfl) (xw_in 783 (by decide +kernel) rfl) (xw_in 784 (by decide +kernel) rfl) (xw_in 53 (by decide +kernel) rfl) ⟨by decide +kernel, by decide +kernel, by rw [hl]; decide +kernel⟩ hd (by decide)
theorem xc_X8_324 {d2 : Nat} (hE : xi_Eok E S vwCl tys) (hs : ∀ As m1 r m2, f As m1 = some (r, m2) → xi_Sound l E S D vwCl tys xNs xTs yX7_digestOnto cX7_digestOnto 6 (some .long) d2 As m1 r m2) (hd : d2 + 1 ≤ d) : ∀ As m1 r m2, xi_wV S 9 1 f As m1 = some (r, m2) → xi_Cal l E S D vwCl tys xNs RX8 xTs cc nL d (.invokevirtual 324) As m1 r m2 := fun As m1 r m2 h => by
  obtain ⟨b, t, rfl, hl, hb, h⟩ := xi_wV_some h
  exact xi_callV (T := TX7) (nf := 3) hE hb rfl (hs _ _ _ _ h) xw_good (xw_in 820 (by decide +kernel) rfl) (xw_in 817 (by decide +kernel) rfl) (xw_in 818 (by decide +kernel) rfl) (xw_in 819 (by decide +kernel) rfl) (xw_in 59 (by decide +kernel) rfl) ⟨by decide +kernel, by decide +kernel, by rw [hl]; decide +kernel⟩ hd (by decide)
theorem xc_X8_328 {d2 : Nat} (hs : ∀ As m1 r m2, f As m1 = some (r, m2) → xi_Sound l E S D vwCl tys xNs xTs yX8_span cX8_span 2 (some .int) d2 As m1 r m2) (hd : d2 + 1 ≤ d) : ∀ As m1 r m2, xi_wS 2 f As m1 = some (r, m2) → xi_Cal l E S D vwCl tys xNs RX8 xTs cc nL d (.invokestatic 328) As m1 r m2 := fun As m1 r m2 h => by
  obtain ⟨hl, h⟩ := xi_wS_some h
  exact xi_callS (hs _ _ _ _ h) xw_good (xw_in 462 (by decide +kernel) rfl) (xw_in 460 (by decide +kernel) rfl) (xw_in 461 (by decide +kernel) rfl) (xw_in 53 (by decide +kernel) rfl) ⟨by decide +kernel, by decide +kernel, by rw [hl]; decide +kernel⟩ hd (by decide)
theorem xc_X8_331 {d2 : Nat} (hE : xi_Eok E S vwCl tys) (hs : ∀ As m1 r m2, f As m1 = some (r, m2) → xi_Sound l E S D vwCl tys xNs xTs yX7_findingOfPairs cX7_findingOfPairs 4 (some .int) d2 As m1 r m2) (hd : d2 + 1 ≤ d) : ∀ As m1 r m2, xi_wV S 9 2 f As m1 = some (r, m2) → xi_Cal l E S D vwCl tys xNs RX8 xTs cc nL d (.invokevirtual 331) As m1 r m2 := fun As m1 r m2 h => by
  obtain ⟨b, t, rfl, hl, hb, h⟩ := xi_wV_some h
  exact xi_callV (T := TX7) (nf := 3) hE hb rfl (hs _ _ _ _ h) xw_good (xw_in 661 (by decide +kernel) rfl) (xw_in 658 (by decide +kernel) rfl) (xw_in 659 (by decide +kernel) rfl) (xw_in 660 (by decide +kernel) rfl) (xw_in 59 (by decide +kernel) rfl) ⟨by decide +kernel, by decide +kernel, by rw [hl]; decide +kernel⟩ hd (by decide)
theorem xc_X8_334 {d2 : Nat} (hs : ∀ As m1 r m2, f As m1 = some (r, m2) → xi_Sound l E S D vwCl tys xNs xTs yX4_landing cX4_landing 5 (some .int) d2 As m1 r m2) (hd : d2 + 1 ≤ d) : ∀ As m1 r m2, xi_wS 4 f As m1 = some (r, m2) → xi_Cal l E S D vwCl tys xNs RX8 xTs cc nL d (.invokestatic 334) As m1 r m2 := fun As m1 r m2 h => by
  obtain ⟨hl, h⟩ := xi_wS_some h
  exact xi_callS (hs _ _ _ _ h) xw_good (xw_in 438 (by decide +kernel) rfl) (xw_in 714 (by decide +kernel) rfl) (xw_in 437 (by decide +kernel) rfl) (xw_in 64 (by decide +kernel) rfl) ⟨by decide +kernel, by decide +kernel, by rw [hl]; decide +kernel⟩ hd (by decide)
theorem xc_X9_63 {d2 : Nat} (hs : ∀ As m1 r m2, f As m1 = some (r, m2) → xi_Sound l E S D vwCl tys xNs xTs yX9_in0 cX9_in0 3 (some .boolean) d2 As m1 r m2) (hd : d2 + 1 ≤ d) : ∀ As m1 r m2, xi_wS 3 f As m1 = some (r, m2) → xi_Cal l E S D vwCl tys xNs RX9 xTs cc nL d (.invokestatic 63) As m1 r m2 := fun As m1 r m2 h => by
  obtain ⟨hl, h⟩ := xi_wS_some h
  exact xi_callS (hs _ _ _ _ h) xw_good (xw_in 901 (by decide +kernel) rfl) (xw_in 899 (by decide +kernel) rfl) (xw_in 900 (by decide +kernel) rfl) (xw_in 60 (by decide +kernel) rfl) ⟨by decide +kernel, by decide +kernel, by rw [hl]; decide +kernel⟩ hd (by decide)
theorem xc_X9_67 {d2 : Nat} (hs : ∀ As m1 r m2, f As m1 = some (r, m2) → xi_Sound l E S D vwCl tys xNs xTs yX9_isRow cX9_isRow 1 (some .boolean) d2 As m1 r m2) (hd : d2 + 1 ≤ d) : ∀ As m1 r m2, xi_wS 1 f As m1 = some (r, m2) → xi_Cal l E S D vwCl tys xNs RX9 xTs cc nL d (.invokestatic 67) As m1 r m2 := fun As m1 r m2 h => by
  obtain ⟨hl, h⟩ := xi_wS_some h
  exact xi_callS (hs _ _ _ _ h) xw_good (xw_in 898 (by decide +kernel) rfl) (xw_in 896 (by decide +kernel) rfl) (xw_in 897 (by decide +kernel) rfl) (xw_in 60 (by decide +kernel) rfl) ⟨by decide +kernel, by decide +kernel, by rw [hl]; decide +kernel⟩ hd (by decide)
theorem xc_X9_71 {d2 : Nat} (hE : xi_Eok E S vwCl tys) (hs : ∀ As m1 r m2, f As m1 = some (r, m2) → xi_Sound l E S D vwCl tys xNs xTs yX9_found cX9_found 2 (some .int) d2 As m1 r m2) (hd : d2 + 1 ≤ d) : ∀ As m1 r m2, xi_wV S 11 1 f As m1 = some (r, m2) → xi_Cal l E S D vwCl tys xNs RX9 xTs cc nL d (.invokevirtual 71) As m1 r m2 := fun As m1 r m2 h => by
  obtain ⟨b, t, rfl, hl, hb, h⟩ := xi_wV_some h
  exact xi_callV (T := TX9) (nf := 21) hE hb rfl (hs _ _ _ _ h) xw_good (xw_in 905 (by decide +kernel) rfl) (xw_in 902 (by decide +kernel) rfl) (xw_in 904 (by decide +kernel) rfl) (xw_in 23 (by decide +kernel) rfl) (xw_in 60 (by decide +kernel) rfl) ⟨by decide +kernel, by decide +kernel, by rw [hl]; decide +kernel⟩ hd (by decide)
theorem xc_X9_75 {d2 : Nat} (hE : xi_Eok E S vwCl tys) (hs : ∀ As m1 r m2, f As m1 = some (r, m2) → xi_Sound l E S D vwCl tys xNs xTs yX9_tells cX9_tells 2 (some .int) d2 As m1 r m2) (hd : d2 + 1 ≤ d) : ∀ As m1 r m2, xi_wV S 11 1 f As m1 = some (r, m2) → xi_Cal l E S D vwCl tys xNs RX9 xTs cc nL d (.invokevirtual 75) As m1 r m2 := fun As m1 r m2 h => by
  obtain ⟨b, t, rfl, hl, hb, h⟩ := xi_wV_some h
  exact xi_callV (T := TX9) (nf := 21) hE hb rfl (hs _ _ _ _ h) xw_good (xw_in 913 (by decide +kernel) rfl) (xw_in 910 (by decide +kernel) rfl) (xw_in 912 (by decide +kernel) rfl) (xw_in 24 (by decide +kernel) rfl) (xw_in 60 (by decide +kernel) rfl) ⟨by decide +kernel, by decide +kernel, by rw [hl]; decide +kernel⟩ hd (by decide)
theorem xc_X9_78 {d2 : Nat} (hE : xi_Eok E S vwCl tys) (hs : ∀ As m1 r m2, f As m1 = some (r, m2) → xi_Sound l E S D vwCl tys xNs xTs yX9_hasPart cX9_hasPart 4 (some .boolean) d2 As m1 r m2) (hd : d2 + 1 ≤ d) : ∀ As m1 r m2, xi_wV S 11 3 f As m1 = some (r, m2) → xi_Cal l E S D vwCl tys xNs RX9 xTs cc nL d (.invokevirtual 78) As m1 r m2 := fun As m1 r m2 h => by
  obtain ⟨b, t, rfl, hl, hb, h⟩ := xi_wV_some h
  exact xi_callV (T := TX9) (nf := 21) hE hb rfl (hs _ _ _ _ h) xw_good (xw_in 929 (by decide +kernel) rfl) (xw_in 926 (by decide +kernel) rfl) (xw_in 928 (by decide +kernel) rfl) (xw_in 25 (by decide +kernel) rfl) (xw_in 60 (by decide +kernel) rfl) ⟨by decide +kernel, by decide +kernel, by rw [hl]; decide +kernel⟩ hd (by decide)
theorem xc_X9_81 {d2 : Nat} (hs : ∀ As m1 r m2, f As m1 = some (r, m2) → xi_Sound l E S D vwCl tys xNs xTs yX9_isText cX9_isText 1 (some .boolean) d2 As m1 r m2) (hd : d2 + 1 ≤ d) : ∀ As m1 r m2, xi_wS 1 f As m1 = some (r, m2) → xi_Cal l E S D vwCl tys xNs RX9 xTs cc nL d (.invokestatic 81) As m1 r m2 := fun As m1 r m2 h => by
  obtain ⟨hl, h⟩ := xi_wS_some h
  exact xi_callS (hs _ _ _ _ h) xw_good (xw_in 940 (by decide +kernel) rfl) (xw_in 938 (by decide +kernel) rfl) (xw_in 939 (by decide +kernel) rfl) (xw_in 60 (by decide +kernel) rfl) ⟨by decide +kernel, by decide +kernel, by rw [hl]; decide +kernel⟩ hd (by decide)
theorem xc_X9_90 {d2 : Nat} (hE : xi_Eok E S vwCl tys) (hs : ∀ As m1 r m2, f As m1 = some (r, m2) → xi_Sound l E S D vwCl tys xNs xTs yX9_look cX9_look 2 (some .int) d2 As m1 r m2) (hd : d2 + 1 ≤ d) : ∀ As m1 r m2, xi_wV S 11 1 f As m1 = some (r, m2) → xi_Cal l E S D vwCl tys xNs RX9 xTs cc nL d (.invokevirtual 90) As m1 r m2 := fun As m1 r m2 h => by
  obtain ⟨b, t, rfl, hl, hb, h⟩ := xi_wV_some h
  exact xi_callV (T := TX9) (nf := 21) hE hb rfl (hs _ _ _ _ h) xw_good (xw_in 960 (by decide +kernel) rfl) (xw_in 957 (by decide +kernel) rfl) (xw_in 959 (by decide +kernel) rfl) (xw_in 28 (by decide +kernel) rfl) (xw_in 60 (by decide +kernel) rfl) ⟨by decide +kernel, by decide +kernel, by rw [hl]; decide +kernel⟩ hd (by decide)
theorem xc_X9_93 {d2 : Nat} (hE : xi_Eok E S vwCl tys) (hs : ∀ As m1 r m2, f As m1 = some (r, m2) → xi_Sound l E S D vwCl tys xNs xTs yX9_fails cX9_fails 2 none d2 As m1 r m2) (hd : d2 + 1 ≤ d) : ∀ As m1 r m2, xi_wV S 11 1 f As m1 = some (r, m2) → xi_Cal l E S D vwCl tys xNs RX9 xTs cc nL d (.invokevirtual 93) As m1 r m2 := fun As m1 r m2 h => by
  obtain ⟨b, t, rfl, hl, hb, h⟩ := xi_wV_some h
  exact xi_callV (T := TX9) (nf := 21) hE hb rfl (hs _ _ _ _ h) xw_good (xw_in 968 (by decide +kernel) rfl) (xw_in 965 (by decide +kernel) rfl) (xw_in 967 (by decide +kernel) rfl) (xw_in 30 (by decide +kernel) rfl) (xw_in 60 (by decide +kernel) rfl) ⟨by decide +kernel, by decide +kernel, by rw [hl]; decide +kernel⟩ hd (by decide)
theorem xc_X9_97 {d2 : Nat} (hE : xi_Eok E S vwCl tys) (hs : ∀ As m1 r m2, f As m1 = some (r, m2) → xi_Sound l E S D vwCl tys xNs xTs yX9_figure cX9_figure 5 (some .int) d2 As m1 r m2) (hd : d2 + 1 ≤ d) : ∀ As m1 r m2, xi_wV S 11 3 f As m1 = some (r, m2) → xi_Cal l E S D vwCl tys xNs RX9 xTs cc nL d (.invokevirtual 97) As m1 r m2 := fun As m1 r m2 h => by
  obtain ⟨b, t, rfl, hl, hb, h⟩ := xi_wV_some h
  exact xi_callV (T := TX9) (nf := 21) hE hb rfl (hs _ _ _ _ h) xw_good (xw_in 972 (by decide +kernel) rfl) (xw_in 969 (by decide +kernel) rfl) (xw_in 971 (by decide +kernel) rfl) (xw_in 31 (by decide +kernel) rfl) (xw_in 60 (by decide +kernel) rfl) ⟨by decide +kernel, by decide +kernel, by rw [hl]; decide +kernel⟩ hd (by decide)
theorem xc_X9_101 {d2 : Nat} (hs : ∀ As m1 r m2, f As m1 = some (r, m2) → xi_Sound l E S D vwCl tys xNs xTs yX9_kindOf cX9_kindOf 1 (some .int) d2 As m1 r m2) (hd : d2 + 1 ≤ d) : ∀ As m1 r m2, xi_wS 1 f As m1 = some (r, m2) → xi_Cal l E S D vwCl tys xNs RX9 xTs cc nL d (.invokestatic 101) As m1 r m2 := fun As m1 r m2 h => by
  obtain ⟨hl, h⟩ := xi_wS_some h
  exact xi_callS (hs _ _ _ _ h) xw_good (xw_in 983 (by decide +kernel) rfl) (xw_in 981 (by decide +kernel) rfl) (xw_in 982 (by decide +kernel) rfl) (xw_in 60 (by decide +kernel) rfl) ⟨by decide +kernel, by decide +kernel, by rw [hl]; decide +kernel⟩ hd (by decide)
theorem xc_X9_104 {d2 : Nat} (hE : xi_Eok E S vwCl tys) (hs : ∀ As m1 r m2, f As m1 = some (r, m2) → xi_Sound l E S D vwCl tys xNs xTs yX9_place cX9_place 5 (some .int) d2 As m1 r m2) (hd : d2 + 1 ≤ d) : ∀ As m1 r m2, xi_wV S 11 2 f As m1 = some (r, m2) → xi_Cal l E S D vwCl tys xNs RX9 xTs cc nL d (.invokevirtual 104) As m1 r m2 := fun As m1 r m2 h => by
  obtain ⟨b, t, rfl, hl, hb, h⟩ := xi_wV_some h
  exact xi_callV (T := TX9) (nf := 21) hE hb rfl (hs _ _ _ _ h) xw_good (xw_in 976 (by decide +kernel) rfl) (xw_in 973 (by decide +kernel) rfl) (xw_in 975 (by decide +kernel) rfl) (xw_in 32 (by decide +kernel) rfl) (xw_in 60 (by decide +kernel) rfl) ⟨by decide +kernel, by decide +kernel, by rw [hl]; decide +kernel⟩ hd (by decide)
theorem xc_X9_108 {d2 : Nat} (hE : xi_Eok E S vwCl tys) (hs : ∀ As m1 r m2, f As m1 = some (r, m2) → xi_Sound l E S D vwCl tys xNs xTs yX9_blanks cX9_blanks 2 none d2 As m1 r m2) (hd : d2 + 1 ≤ d) : ∀ As m1 r m2, xi_wV S 11 1 f As m1 = some (r, m2) → xi_Cal l E S D vwCl tys xNs RX9 xTs cc nL d (.invokevirtual 108) As m1 r m2 := fun As m1 r m2 h => by
  obtain ⟨b, t, rfl, hl, hb, h⟩ := xi_wV_some h
  exact xi_callV (T := TX9) (nf := 21) hE hb rfl (hs _ _ _ _ h) xw_good (xw_in 956 (by decide +kernel) rfl) (xw_in 953 (by decide +kernel) rfl) (xw_in 955 (by decide +kernel) rfl) (xw_in 27 (by decide +kernel) rfl) (xw_in 60 (by decide +kernel) rfl) ⟨by decide +kernel, by decide +kernel, by rw [hl]; decide +kernel⟩ hd (by decide)
theorem xc_X9_111 {d2 : Nat} (hE : xi_Eok E S vwCl tys) (hs : ∀ As m1 r m2, f As m1 = some (r, m2) → xi_Sound l E S D vwCl tys xNs xTs yX9_letter cX9_letter 3 none d2 As m1 r m2) (hd : d2 + 1 ≤ d) : ∀ As m1 r m2, xi_wV S 11 2 f As m1 = some (r, m2) → xi_Cal l E S D vwCl tys xNs RX9 xTs cc nL d (.invokevirtual 111) As m1 r m2 := fun As m1 r m2 h => by
  obtain ⟨b, t, rfl, hl, hb, h⟩ := xi_wV_some h
  exact xi_callV (T := TX9) (nf := 21) hE hb rfl (hs _ _ _ _ h) xw_good (xw_in 964 (by decide +kernel) rfl) (xw_in 961 (by decide +kernel) rfl) (xw_in 963 (by decide +kernel) rfl) (xw_in 29 (by decide +kernel) rfl) (xw_in 60 (by decide +kernel) rfl) ⟨by decide +kernel, by decide +kernel, by rw [hl]; decide +kernel⟩ hd (by decide)
theorem xc_X9_115 {d2 : Nat} (hE : xi_Eok E S vwCl tys) (hs : ∀ As m1 r m2, f As m1 = some (r, m2) → xi_Sound l E S D vwCl tys xNs xTs yX9_readsPlayer cX9_readsPlayer 7 none d2 As m1 r m2) (hd : d2 + 1 ≤ d) : ∀ As m1 r m2, xi_wV S 11 1 f As m1 = some (r, m2) → xi_Cal l E S D vwCl tys xNs RX9 xTs cc nL d (.invokevirtual 115) As m1 r m2 := fun As m1 r m2 h => by
  obtain ⟨b, t, rfl, hl, hb, h⟩ := xi_wV_some h
  exact xi_callV (T := TX9) (nf := 21) hE hb rfl (hs _ _ _ _ h) xw_good (xw_in 980 (by decide +kernel) rfl) (xw_in 977 (by decide +kernel) rfl) (xw_in 979 (by decide +kernel) rfl) (xw_in 33 (by decide +kernel) rfl) (xw_in 60 (by decide +kernel) rfl) ⟨by decide +kernel, by decide +kernel, by rw [hl]; decide +kernel⟩ hd (by decide)
theorem xc_X9_118 {d2 : Nat} (hE : xi_Eok E S vwCl tys) (hs : ∀ As m1 r m2, f As m1 = some (r, m2) → xi_Sound l E S D vwCl tys xNs xTs yX9_reads cX9_reads 3 (some .int) d2 As m1 r m2) (hd : d2 + 1 ≤ d) : ∀ As m1 r m2, xi_wV S 11 1 f As m1 = some (r, m2) → xi_Cal l E S D vwCl tys xNs RX9 xTs cc nL d (.invokevirtual 118) As m1 r m2 := fun As m1 r m2 h => by
  obtain ⟨b, t, rfl, hl, hb, h⟩ := xi_wV_some h
  exact xi_callV (T := TX9) (nf := 21) hE hb rfl (hs _ _ _ _ h) xw_good (xw_in 952 (by decide +kernel) rfl) (xw_in 949 (by decide +kernel) rfl) (xw_in 951 (by decide +kernel) rfl) (xw_in 26 (by decide +kernel) rfl) (xw_in 60 (by decide +kernel) rfl) ⟨by decide +kernel, by decide +kernel, by rw [hl]; decide +kernel⟩ hd (by decide)
theorem xc_X9_121 {d2 : Nat} (hs : ∀ As m1 r m2, f As m1 = some (r, m2) → xi_Sound l E S D vwCl tys xNs xTs yX9_copies cX9_copies 6 none d2 As m1 r m2) (hd : d2 + 1 ≤ d) : ∀ As m1 r m2, xi_wS 5 f As m1 = some (r, m2) → xi_Cal l E S D vwCl tys xNs RX9 xTs cc nL d (.invokestatic 121) As m1 r m2 := fun As m1 r m2 h => by
  obtain ⟨hl, h⟩ := xi_wS_some h
  exact xi_callS (hs _ _ _ _ h) xw_good (xw_in 990 (by decide +kernel) rfl) (xw_in 988 (by decide +kernel) rfl) (xw_in 989 (by decide +kernel) rfl) (xw_in 60 (by decide +kernel) rfl) ⟨by decide +kernel, by decide +kernel, by rw [hl]; decide +kernel⟩ hd (by decide)
theorem xc_X9_128 {d2 : Nat} (hs : ∀ As m1 r m2, f As m1 = some (r, m2) → xi_Sound l E S D vwCl tys xNs xTs yX9_landing cX9_landing 5 (some .int) d2 As m1 r m2) (hd : d2 + 1 ≤ d) : ∀ As m1 r m2, xi_wS 4 f As m1 = some (r, m2) → xi_Cal l E S D vwCl tys xNs RX9 xTs cc nL d (.invokestatic 128) As m1 r m2 := fun As m1 r m2 h => by
  obtain ⟨hl, h⟩ := xi_wS_some h
  exact xi_callS (hs _ _ _ _ h) xw_good (xw_in 1008 (by decide +kernel) rfl) (xw_in 1006 (by decide +kernel) rfl) (xw_in 1007 (by decide +kernel) rfl) (xw_in 60 (by decide +kernel) rfl) ⟨by decide +kernel, by decide +kernel, by rw [hl]; decide +kernel⟩ hd (by decide)
theorem xc_X9_132 {d2 : Nat} (hs : ∀ As m1 r m2, f As m1 = some (r, m2) → xi_Sound l E S D vwCl tys xNs xTs yX9_isKeeper cX9_isKeeper 2 (some .boolean) d2 As m1 r m2) (hd : d2 + 1 ≤ d) : ∀ As m1 r m2, xi_wS 2 f As m1 = some (r, m2) → xi_Cal l E S D vwCl tys xNs RX9 xTs cc nL d (.invokestatic 132) As m1 r m2 := fun As m1 r m2 h => by
  obtain ⟨hl, h⟩ := xi_wS_some h
  exact xi_callS (hs _ _ _ _ h) xw_good (xw_in 1026 (by decide +kernel) rfl) (xw_in 1024 (by decide +kernel) rfl) (xw_in 1025 (by decide +kernel) rfl) (xw_in 60 (by decide +kernel) rfl) ⟨by decide +kernel, by decide +kernel, by rw [hl]; decide +kernel⟩ hd (by decide)
theorem xc_X9_136 {d2 : Nat} (hs : ∀ As m1 r m2, f As m1 = some (r, m2) → xi_Sound l E S D vwCl tys xNs xTs yX9_apart cX9_apart 2 (some .int) d2 As m1 r m2) (hd : d2 + 1 ≤ d) : ∀ As m1 r m2, xi_wS 2 f As m1 = some (r, m2) → xi_Cal l E S D vwCl tys xNs RX9 xTs cc nL d (.invokestatic 136) As m1 r m2 := fun As m1 r m2 h => by
  obtain ⟨hl, h⟩ := xi_wS_some h
  exact xi_callS (hs _ _ _ _ h) xw_good (xw_in 1029 (by decide +kernel) rfl) (xw_in 1027 (by decide +kernel) rfl) (xw_in 1028 (by decide +kernel) rfl) (xw_in 60 (by decide +kernel) rfl) ⟨by decide +kernel, by decide +kernel, by rw [hl]; decide +kernel⟩ hd (by decide)
theorem xc_X9_139 {d2 : Nat} (hs : ∀ As m1 r m2, f As m1 = some (r, m2) → xi_Sound l E S D vwCl tys xNs xTs yX9_reach cX9_reach 2 (some .int) d2 As m1 r m2) (hd : d2 + 1 ≤ d) : ∀ As m1 r m2, xi_wS 2 f As m1 = some (r, m2) → xi_Cal l E S D vwCl tys xNs RX9 xTs cc nL d (.invokestatic 139) As m1 r m2 := fun As m1 r m2 h => by
  obtain ⟨hl, h⟩ := xi_wS_some h
  exact xi_callS (hs _ _ _ _ h) xw_good (xw_in 1032 (by decide +kernel) rfl) (xw_in 1030 (by decide +kernel) rfl) (xw_in 1031 (by decide +kernel) rfl) (xw_in 60 (by decide +kernel) rfl) ⟨by decide +kernel, by decide +kernel, by rw [hl]; decide +kernel⟩ hd (by decide)
theorem xc_X9_143 {d2 : Nat} (hs : ∀ As m1 r m2, f As m1 = some (r, m2) → xi_Sound l E S D vwCl tys xNs xTs yX9_isReached cX9_isReached 3 (some .boolean) d2 As m1 r m2) (hd : d2 + 1 ≤ d) : ∀ As m1 r m2, xi_wS 3 f As m1 = some (r, m2) → xi_Cal l E S D vwCl tys xNs RX9 xTs cc nL d (.invokestatic 143) As m1 r m2 := fun As m1 r m2 h => by
  obtain ⟨hl, h⟩ := xi_wS_some h
  exact xi_callS (hs _ _ _ _ h) xw_good (xw_in 1023 (by decide +kernel) rfl) (xw_in 1021 (by decide +kernel) rfl) (xw_in 1022 (by decide +kernel) rfl) (xw_in 60 (by decide +kernel) rfl) ⟨by decide +kernel, by decide +kernel, by rw [hl]; decide +kernel⟩ hd (by decide)
theorem xc_X9_147 {d2 : Nat} (hs : ∀ As m1 r m2, f As m1 = some (r, m2) → xi_Sound l E S D vwCl tys xNs xTs yX9_isWithin cX9_isWithin 4 (some .boolean) d2 As m1 r m2) (hd : d2 + 1 ≤ d) : ∀ As m1 r m2, xi_wS 4 f As m1 = some (r, m2) → xi_Cal l E S D vwCl tys xNs RX9 xTs cc nL d (.invokestatic 147) As m1 r m2 := fun As m1 r m2 h => by
  obtain ⟨hl, h⟩ := xi_wS_some h
  exact xi_callS (hs _ _ _ _ h) xw_good (xw_in 1017 (by decide +kernel) rfl) (xw_in 1015 (by decide +kernel) rfl) (xw_in 1016 (by decide +kernel) rfl) (xw_in 60 (by decide +kernel) rfl) ⟨by decide +kernel, by decide +kernel, by rw [hl]; decide +kernel⟩ hd (by decide)
theorem xc_X9_151 {d2 : Nat} (hs : ∀ As m1 r m2, f As m1 = some (r, m2) → xi_Sound l E S D vwCl tys xNs xTs yX9_isKept cX9_isKept 5 (some .boolean) d2 As m1 r m2) (hd : d2 + 1 ≤ d) : ∀ As m1 r m2, xi_wS 3 f As m1 = some (r, m2) → xi_Cal l E S D vwCl tys xNs RX9 xTs cc nL d (.invokestatic 151) As m1 r m2 := fun As m1 r m2 h => by
  obtain ⟨hl, h⟩ := xi_wS_some h
  exact xi_callS (hs _ _ _ _ h) xw_good (xw_in 1020 (by decide +kernel) rfl) (xw_in 1018 (by decide +kernel) rfl) (xw_in 1019 (by decide +kernel) rfl) (xw_in 60 (by decide +kernel) rfl) ⟨by decide +kernel, by decide +kernel, by rw [hl]; decide +kernel⟩ hd (by decide)
theorem xc_X9_154 {d2 : Nat} (hs : ∀ As m1 r m2, f As m1 = some (r, m2) → xi_Sound l E S D vwCl tys xNs xTs yX9_ball cX9_ball 3 (some .int) d2 As m1 r m2) (hd : d2 + 1 ≤ d) : ∀ As m1 r m2, xi_wS 2 f As m1 = some (r, m2) → xi_Cal l E S D vwCl tys xNs RX9 xTs cc nL d (.invokestatic 154) As m1 r m2 := fun As m1 r m2 h => by
  obtain ⟨hl, h⟩ := xi_wS_some h
  exact xi_callS (hs _ _ _ _ h) xw_good (xw_in 1005 (by decide +kernel) rfl) (xw_in 1003 (by decide +kernel) rfl) (xw_in 1004 (by decide +kernel) rfl) (xw_in 60 (by decide +kernel) rfl) ⟨by decide +kernel, by decide +kernel, by rw [hl]; decide +kernel⟩ hd (by decide)
theorem xc_X9_157 {d2 : Nat} (hs : ∀ As m1 r m2, f As m1 = some (r, m2) → xi_Sound l E S D vwCl tys xNs xTs yX9_isIn cX9_isIn 3 (some .boolean) d2 As m1 r m2) (hd : d2 + 1 ≤ d) : ∀ As m1 r m2, xi_wS 3 f As m1 = some (r, m2) → xi_Cal l E S D vwCl tys xNs RX9 xTs cc nL d (.invokestatic 157) As m1 r m2 := fun As m1 r m2 h => by
  obtain ⟨hl, h⟩ := xi_wS_some h
  exact xi_callS (hs _ _ _ _ h) xw_good (xw_in 1014 (by decide +kernel) rfl) (xw_in 1012 (by decide +kernel) rfl) (xw_in 1013 (by decide +kernel) rfl) (xw_in 60 (by decide +kernel) rfl) ⟨by decide +kernel, by decide +kernel, by rw [hl]; decide +kernel⟩ hd (by decide)
theorem xc_X9_160 {d2 : Nat} (hs : ∀ As m1 r m2, f As m1 = some (r, m2) → xi_Sound l E S D vwCl tys xNs xTs yX9_isScored cX9_isScored 3 (some .boolean) d2 As m1 r m2) (hd : d2 + 1 ≤ d) : ∀ As m1 r m2, xi_wS 2 f As m1 = some (r, m2) → xi_Cal l E S D vwCl tys xNs RX9 xTs cc nL d (.invokestatic 160) As m1 r m2 := fun As m1 r m2 h => by
  obtain ⟨hl, h⟩ := xi_wS_some h
  exact xi_callS (hs _ _ _ _ h) xw_good (xw_in 1011 (by decide +kernel) rfl) (xw_in 1009 (by decide +kernel) rfl) (xw_in 1010 (by decide +kernel) rfl) (xw_in 60 (by decide +kernel) rfl) ⟨by decide +kernel, by decide +kernel, by rw [hl]; decide +kernel⟩ hd (by decide)
theorem xc_X9_163 {d2 : Nat} (hs : ∀ As m1 r m2, f As m1 = some (r, m2) → xi_Sound l E S D vwCl tys xNs xTs yX9_scored cX9_scored 3 (some .int) d2 As m1 r m2) (hd : d2 + 1 ≤ d) : ∀ As m1 r m2, xi_wS 1 f As m1 = some (r, m2) → xi_Cal l E S D vwCl tys xNs RX9 xTs cc nL d (.invokestatic 163) As m1 r m2 := fun As m1 r m2 h => by
  obtain ⟨hl, h⟩ := xi_wS_some h
  exact xi_callS (hs _ _ _ _ h) xw_good (xw_in 1065 (by decide +kernel) rfl) (xw_in 1063 (by decide +kernel) rfl) (xw_in 1064 (by decide +kernel) rfl) (xw_in 60 (by decide +kernel) rfl) ⟨by decide +kernel, by decide +kernel, by rw [hl]; decide +kernel⟩ hd (by decide)
theorem xc_X9_167 {d2 : Nat} (hE : xi_Eok E S vwCl tys) (hs : ∀ As m1 r m2, f As m1 = some (r, m2) → xi_Sound l E S D vwCl tys xNs xTs yX9_isPlayer cX9_isPlayer 2 (some .boolean) d2 As m1 r m2) (hd : d2 + 1 ≤ d) : ∀ As m1 r m2, xi_wV S 11 1 f As m1 = some (r, m2) → xi_Cal l E S D vwCl tys xNs RX9 xTs cc nL d (.invokevirtual 167) As m1 r m2 := fun As m1 r m2 h => by
  obtain ⟨b, t, rfl, hl, hb, h⟩ := xi_wV_some h
  exact xi_callV (T := TX9) (nf := 21) hE hb rfl (hs _ _ _ _ h) xw_good (xw_in 998 (by decide +kernel) rfl) (xw_in 995 (by decide +kernel) rfl) (xw_in 997 (by decide +kernel) rfl) (xw_in 34 (by decide +kernel) rfl) (xw_in 60 (by decide +kernel) rfl) ⟨by decide +kernel, by decide +kernel, by rw [hl]; decide +kernel⟩ hd (by decide)
theorem xc_X9_170 {d2 : Nat} (hE : xi_Eok E S vwCl tys) (hs : ∀ As m1 r m2, f As m1 = some (r, m2) → xi_Sound l E S D vwCl tys xNs xTs yX9_tellsOf cX9_tellsOf 4 (some .int) d2 As m1 r m2) (hd : d2 + 1 ≤ d) : ∀ As m1 r m2, xi_wV S 11 2 f As m1 = some (r, m2) → xi_Cal l E S D vwCl tys xNs RX9 xTs cc nL d (.invokevirtual 170) As m1 r m2 := fun As m1 r m2 h => by
  obtain ⟨b, t, rfl, hl, hb, h⟩ := xi_wV_some h
  exact xi_callV (T := TX9) (nf := 21) hE hb rfl (hs _ _ _ _ h) xw_good (xw_in 1002 (by decide +kernel) rfl) (xw_in 999 (by decide +kernel) rfl) (xw_in 1001 (by decide +kernel) rfl) (xw_in 35 (by decide +kernel) rfl) (xw_in 60 (by decide +kernel) rfl) ⟨by decide +kernel, by decide +kernel, by rw [hl]; decide +kernel⟩ hd (by decide)
theorem xc_X9_173 {d2 : Nat} (hs : ∀ As m1 r m2, f As m1 = some (r, m2) → xi_Sound l E S D vwCl tys xNs xTs yX9_isOf cX9_isOf 2 (some .boolean) d2 As m1 r m2) (hd : d2 + 1 ≤ d) : ∀ As m1 r m2, xi_wS 2 f As m1 = some (r, m2) → xi_Cal l E S D vwCl tys xNs RX9 xTs cc nL d (.invokestatic 173) As m1 r m2 := fun As m1 r m2 h => by
  obtain ⟨hl, h⟩ := xi_wS_some h
  exact xi_callS (hs _ _ _ _ h) xw_good (xw_in 1039 (by decide +kernel) rfl) (xw_in 1037 (by decide +kernel) rfl) (xw_in 1038 (by decide +kernel) rfl) (xw_in 60 (by decide +kernel) rfl) ⟨by decide +kernel, by decide +kernel, by rw [hl]; decide +kernel⟩ hd (by decide)
theorem xc_X9_177 {d2 : Nat} (hE : xi_Eok E S vwCl tys) (hs : ∀ As m1 r m2, f As m1 = some (r, m2) → xi_Sound l E S D vwCl tys xNs xTs yX9_reached cX9_reached 4 (some .int) d2 As m1 r m2) (hd : d2 + 1 ≤ d) : ∀ As m1 r m2, xi_wV S 11 1 f As m1 = some (r, m2) → xi_Cal l E S D vwCl tys xNs RX9 xTs cc nL d (.invokevirtual 177) As m1 r m2 := fun As m1 r m2 h => by
  obtain ⟨b, t, rfl, hl, hb, h⟩ := xi_wV_some h
  exact xi_callV (T := TX9) (nf := 21) hE hb rfl (hs _ _ _ _ h) xw_good (xw_in 1043 (by decide +kernel) rfl) (xw_in 1040 (by decide +kernel) rfl) (xw_in 1042 (by decide +kernel) rfl) (xw_in 36 (by decide +kernel) rfl) (xw_in 60 (by decide +kernel) rfl) ⟨by decide +kernel, by decide +kernel, by rw [hl]; decide +kernel⟩ hd (by decide)
theorem xc_X9_180 {d2 : Nat} (hE : xi_Eok E S vwCl tys) (hs : ∀ As m1 r m2, f As m1 = some (r, m2) → xi_Sound l E S D vwCl tys xNs xTs yX9_ballsOf cX9_ballsOf 8 (some .int) d2 As m1 r m2) (hd : d2 + 1 ≤ d) : ∀ As m1 r m2, xi_wV S 11 3 f As m1 = some (r, m2) → xi_Cal l E S D vwCl tys xNs RX9 xTs cc nL d (.invokevirtual 180) As m1 r m2 := fun As m1 r m2 h => by
  obtain ⟨b, t, rfl, hl, hb, h⟩ := xi_wV_some h
  exact xi_callV (T := TX9) (nf := 21) hE hb rfl (hs _ _ _ _ h) xw_good (xw_in 1047 (by decide +kernel) rfl) (xw_in 1044 (by decide +kernel) rfl) (xw_in 1046 (by decide +kernel) rfl) (xw_in 37 (by decide +kernel) rfl) (xw_in 60 (by decide +kernel) rfl) ⟨by decide +kernel, by decide +kernel, by rw [hl]; decide +kernel⟩ hd (by decide)
theorem xc_X9_183 {d2 : Nat} (hE : xi_Eok E S vwCl tys) (hs : ∀ As m1 r m2, f As m1 = some (r, m2) → xi_Sound l E S D vwCl tys xNs xTs yX9_isAny cX9_isAny 1 (some .boolean) d2 As m1 r m2) (hd : d2 + 1 ≤ d) : ∀ As m1 r m2, xi_wV S 11 0 f As m1 = some (r, m2) → xi_Cal l E S D vwCl tys xNs RX9 xTs cc nL d (.invokevirtual 183) As m1 r m2 := fun As m1 r m2 h => by
  obtain ⟨b, t, rfl, hl, hb, h⟩ := xi_wV_some h
  exact xi_callV (T := TX9) (nf := 21) hE hb rfl (hs _ _ _ _ h) xw_good (xw_in 1055 (by decide +kernel) rfl) (xw_in 1052 (by decide +kernel) rfl) (xw_in 1054 (by decide +kernel) rfl) (xw_in 38 (by decide +kernel) rfl) (xw_in 60 (by decide +kernel) rfl) ⟨by decide +kernel, by decide +kernel, by rw [hl]; decide +kernel⟩ hd (by decide)
theorem xc_X9_187 {d2 : Nat} (hE : xi_Eok E S vwCl tys) (hs : ∀ As m1 r m2, f As m1 = some (r, m2) → xi_Sound l E S D vwCl tys xNs xTs yX9_notes cX9_notes 1 none d2 As m1 r m2) (hd : d2 + 1 ≤ d) : ∀ As m1 r m2, xi_wV S 11 0 f As m1 = some (r, m2) → xi_Cal l E S D vwCl tys xNs RX9 xTs cc nL d (.invokevirtual 187) As m1 r m2 := fun As m1 r m2 h => by
  obtain ⟨b, t, rfl, hl, hb, h⟩ := xi_wV_some h
  exact xi_callV (T := TX9) (nf := 21) hE hb rfl (hs _ _ _ _ h) xw_good (xw_in 1059 (by decide +kernel) rfl) (xw_in 1056 (by decide +kernel) rfl) (xw_in 1058 (by decide +kernel) rfl) (xw_in 39 (by decide +kernel) rfl) (xw_in 60 (by decide +kernel) rfl) ⟨by decide +kernel, by decide +kernel, by rw [hl]; decide +kernel⟩ hd (by decide)
theorem xc_X9_190 {d2 : Nat} (hs : ∀ As m1 r m2, f As m1 = some (r, m2) → xi_Sound l E S D vwCl tys xNs xTs yX9_plays cX9_plays 3 (some .int) d2 As m1 r m2) (hd : d2 + 1 ≤ d) : ∀ As m1 r m2, xi_wS 1 f As m1 = some (r, m2) → xi_Cal l E S D vwCl tys xNs RX9 xTs cc nL d (.invokestatic 190) As m1 r m2 := fun As m1 r m2 h => by
  obtain ⟨hl, h⟩ := xi_wS_some h
  exact xi_callS (hs _ _ _ _ h) xw_good (xw_in 1062 (by decide +kernel) rfl) (xw_in 1060 (by decide +kernel) rfl) (xw_in 1061 (by decide +kernel) rfl) (xw_in 60 (by decide +kernel) rfl) ⟨by decide +kernel, by decide +kernel, by rw [hl]; decide +kernel⟩ hd (by decide)
theorem xc_X9_193 {d2 : Nat} (hs : ∀ As m1 r m2, f As m1 = some (r, m2) → xi_Sound l E S D vwCl tys xNs xTs yX9_mayMove cX9_mayMove 4 (some .boolean) d2 As m1 r m2) (hd : d2 + 1 ≤ d) : ∀ As m1 r m2, xi_wS 3 f As m1 = some (r, m2) → xi_Cal l E S D vwCl tys xNs RX9 xTs cc nL d (.invokestatic 193) As m1 r m2 := fun As m1 r m2 h => by
  obtain ⟨hl, h⟩ := xi_wS_some h
  exact xi_callS (hs _ _ _ _ h) xw_good (xw_in 1072 (by decide +kernel) rfl) (xw_in 1070 (by decide +kernel) rfl) (xw_in 1071 (by decide +kernel) rfl) (xw_in 60 (by decide +kernel) rfl) ⟨by decide +kernel, by decide +kernel, by rw [hl]; decide +kernel⟩ hd (by decide)
theorem xc_X9_196 {d2 : Nat} (hs : ∀ As m1 r m2, f As m1 = some (r, m2) → xi_Sound l E S D vwCl tys xNs xTs yX9_seenBy cX9_seenBy 4 (some .int) d2 As m1 r m2) (hd : d2 + 1 ≤ d) : ∀ As m1 r m2, xi_wS 2 f As m1 = some (r, m2) → xi_Cal l E S D vwCl tys xNs RX9 xTs cc nL d (.invokestatic 196) As m1 r m2 := fun As m1 r m2 h => by
  obtain ⟨hl, h⟩ := xi_wS_some h
  exact xi_callS (hs _ _ _ _ h) xw_good (xw_in 1075 (by decide +kernel) rfl) (xw_in 1073 (by decide +kernel) rfl) (xw_in 1074 (by decide +kernel) rfl) (xw_in 60 (by decide +kernel) rfl) ⟨by decide +kernel, by decide +kernel, by rw [hl]; decide +kernel⟩ hd (by decide)
theorem xc_X9_199 {d2 : Nat} (hs : ∀ As m1 r m2, f As m1 = some (r, m2) → xi_Sound l E S D vwCl tys xNs xTs yX9_ahead cX9_ahead 3 (some .int) d2 As m1 r m2) (hd : d2 + 1 ≤ d) : ∀ As m1 r m2, xi_wS 1 f As m1 = some (r, m2) → xi_Cal l E S D vwCl tys xNs RX9 xTs cc nL d (.invokestatic 199) As m1 r m2 := fun As m1 r m2 h => by
  obtain ⟨hl, h⟩ := xi_wS_some h
  exact xi_callS (hs _ _ _ _ h) xw_good (xw_in 1114 (by decide +kernel) rfl) (xw_in 1112 (by decide +kernel) rfl) (xw_in 1113 (by decide +kernel) rfl) (xw_in 60 (by decide +kernel) rfl) ⟨by decide +kernel, by decide +kernel, by rw [hl]; decide +kernel⟩ hd (by decide)
theorem xc_X9_202 {d2 : Nat} (hs : ∀ As m1 r m2, f As m1 = some (r, m2) → xi_Sound l E S D vwCl tys xNs xTs yX9_stepOf cX9_stepOf 4 (some .int) d2 As m1 r m2) (hd : d2 + 1 ≤ d) : ∀ As m1 r m2, xi_wS 2 f As m1 = some (r, m2) → xi_Cal l E S D vwCl tys xNs RX9 xTs cc nL d (.invokestatic 202) As m1 r m2 := fun As m1 r m2 h => by
  obtain ⟨hl, h⟩ := xi_wS_some h
  exact xi_callS (hs _ _ _ _ h) xw_good (xw_in 1125 (by decide +kernel) rfl) (xw_in 1123 (by decide +kernel) rfl) (xw_in 1124 (by decide +kernel) rfl) (xw_in 60 (by decide +kernel) rfl) ⟨by decide +kernel, by decide +kernel, by rw [hl]; decide +kernel⟩ hd (by decide)
theorem xc_X9_205 {d2 : Nat} (hE : xi_Eok E S vwCl tys) (hs : ∀ As m1 r m2, f As m1 = some (r, m2) → xi_Sound l E S D vwCl tys xNs xTs yX9_moves cX9_moves 5 (some .int) d2 As m1 r m2) (hd : d2 + 1 ≤ d) : ∀ As m1 r m2, xi_wV S 11 1 f As m1 = some (r, m2) → xi_Cal l E S D vwCl tys xNs RX9 xTs cc nL d (.invokevirtual 205) As m1 r m2 := fun As m1 r m2 h => by
  obtain ⟨b, t, rfl, hl, hb, h⟩ := xi_wV_some h
  exact xi_callV (T := TX9) (nf := 21) hE hb rfl (hs _ _ _ _ h) xw_good (xw_in 1122 (by decide +kernel) rfl) (xw_in 1119 (by decide +kernel) rfl) (xw_in 1121 (by decide +kernel) rfl) (xw_in 40 (by decide +kernel) rfl) (xw_in 60 (by decide +kernel) rfl) ⟨by decide +kernel, by decide +kernel, by rw [hl]; decide +kernel⟩ hd (by decide)
theorem xc_X9_208 {d2 : Nat} (hE : xi_Eok E S vwCl tys) (hs : ∀ As m1 r m2, f As m1 = some (r, m2) → xi_Sound l E S D vwCl tys xNs xTs yX9_wrongIn cX9_wrongIn 5 (some .int) d2 As m1 r m2) (hd : d2 + 1 ≤ d) : ∀ As m1 r m2, xi_wV S 11 3 f As m1 = some (r, m2) → xi_Cal l E S D vwCl tys xNs RX9 xTs cc nL d (.invokevirtual 208) As m1 r m2 := fun As m1 r m2 h => by
  obtain ⟨b, t, rfl, hl, hb, h⟩ := xi_wV_some h
  exact xi_callV (T := TX9) (nf := 21) hE hb rfl (hs _ _ _ _ h) xw_good (xw_in 1133 (by decide +kernel) rfl) (xw_in 1130 (by decide +kernel) rfl) (xw_in 1132 (by decide +kernel) rfl) (xw_in 41 (by decide +kernel) rfl) (xw_in 60 (by decide +kernel) rfl) ⟨by decide +kernel, by decide +kernel, by rw [hl]; decide +kernel⟩ hd (by decide)
theorem xc_X9_211 {d2 : Nat} (hE : xi_Eok E S vwCl tys) (hs : ∀ As m1 r m2, f As m1 = some (r, m2) → xi_Sound l E S D vwCl tys xNs xTs yX9_areSo cX9_areSo 9 (some .boolean) d2 As m1 r m2) (hd : d2 + 1 ≤ d) : ∀ As m1 r m2, xi_wV S 11 4 f As m1 = some (r, m2) → xi_Cal l E S D vwCl tys xNs RX9 xTs cc nL d (.invokevirtual 211) As m1 r m2 := fun As m1 r m2 h => by
  obtain ⟨b, t, rfl, hl, hb, h⟩ := xi_wV_some h
  exact xi_callV (T := TX9) (nf := 21) hE hb rfl (hs _ _ _ _ h) xw_good (xw_in 1137 (by decide +kernel) rfl) (xw_in 1134 (by decide +kernel) rfl) (xw_in 1136 (by decide +kernel) rfl) (xw_in 42 (by decide +kernel) rfl) (xw_in 60 (by decide +kernel) rfl) ⟨by decide +kernel, by decide +kernel, by rw [hl]; decide +kernel⟩ hd (by decide)
theorem xc_X9_218 {d2 : Nat} (hE : xi_Eok E S vwCl tys) (hs : ∀ As m1 r m2, f As m1 = some (r, m2) → xi_Sound l E S D vwCl tys xNs xTs yX9_insBy cX9_insBy 6 (some .int) d2 As m1 r m2) (hd : d2 + 1 ≤ d) : ∀ As m1 r m2, xi_wV S 11 3 f As m1 = some (r, m2) → xi_Cal l E S D vwCl tys xNs RX9 xTs cc nL d (.invokevirtual 218) As m1 r m2 := fun As m1 r m2 h => by
  obtain ⟨b, t, rfl, hl, hb, h⟩ := xi_wV_some h
  exact xi_callV (T := TX9) (nf := 21) hE hb rfl (hs _ _ _ _ h) xw_good (xw_in 1146 (by decide +kernel) rfl) (xw_in 1143 (by decide +kernel) rfl) (xw_in 1145 (by decide +kernel) rfl) (xw_in 43 (by decide +kernel) rfl) (xw_in 60 (by decide +kernel) rfl) ⟨by decide +kernel, by decide +kernel, by rw [hl]; decide +kernel⟩ hd (by decide)
theorem xc_X9_221 {d2 : Nat} (hs : ∀ As m1 r m2, f As m1 = some (r, m2) → xi_Sound l E S D vwCl tys xNs xTs yX9_has cX9_has 2 (some .boolean) d2 As m1 r m2) (hd : d2 + 1 ≤ d) : ∀ As m1 r m2, xi_wS 2 f As m1 = some (r, m2) → xi_Cal l E S D vwCl tys xNs RX9 xTs cc nL d (.invokestatic 221) As m1 r m2 := fun As m1 r m2 h => by
  obtain ⟨hl, h⟩ := xi_wS_some h
  exact xi_callS (hs _ _ _ _ h) xw_good (xw_in 1157 (by decide +kernel) rfl) (xw_in 1155 (by decide +kernel) rfl) (xw_in 1156 (by decide +kernel) rfl) (xw_in 60 (by decide +kernel) rfl) ⟨by decide +kernel, by decide +kernel, by rw [hl]; decide +kernel⟩ hd (by decide)
theorem xc_X9_224 {d2 : Nat} (hE : xi_Eok E S vwCl tys) (hs : ∀ As m1 r m2, f As m1 = some (r, m2) → xi_Sound l E S D vwCl tys xNs xTs yX9_partOf cX9_partOf 7 (some .int) d2 As m1 r m2) (hd : d2 + 1 ≤ d) : ∀ As m1 r m2, xi_wV S 11 3 f As m1 = some (r, m2) → xi_Cal l E S D vwCl tys xNs RX9 xTs cc nL d (.invokevirtual 224) As m1 r m2 := fun As m1 r m2 h => by
  obtain ⟨b, t, rfl, hl, hb, h⟩ := xi_wV_some h
  exact xi_callV (T := TX9) (nf := 21) hE hb rfl (hs _ _ _ _ h) xw_good (xw_in 1154 (by decide +kernel) rfl) (xw_in 1151 (by decide +kernel) rfl) (xw_in 1153 (by decide +kernel) rfl) (xw_in 44 (by decide +kernel) rfl) (xw_in 60 (by decide +kernel) rfl) ⟨by decide +kernel, by decide +kernel, by rw [hl]; decide +kernel⟩ hd (by decide)
theorem xc_X9_227 {d2 : Nat} (hE : xi_Eok E S vwCl tys) (hs : ∀ As m1 r m2, f As m1 = some (r, m2) → xi_Sound l E S D vwCl tys xNs xTs yX9_landSo cX9_landSo 7 (some .boolean) d2 As m1 r m2) (hd : d2 + 1 ≤ d) : ∀ As m1 r m2, xi_wV S 11 4 f As m1 = some (r, m2) → xi_Cal l E S D vwCl tys xNs RX9 xTs cc nL d (.invokevirtual 227) As m1 r m2 := fun As m1 r m2 h => by
  obtain ⟨b, t, rfl, hl, hb, h⟩ := xi_wV_some h
  exact xi_callV (T := TX9) (nf := 21) hE hb rfl (hs _ _ _ _ h) xw_good (xw_in 1165 (by decide +kernel) rfl) (xw_in 1162 (by decide +kernel) rfl) (xw_in 1164 (by decide +kernel) rfl) (xw_in 45 (by decide +kernel) rfl) (xw_in 60 (by decide +kernel) rfl) ⟨by decide +kernel, by decide +kernel, by rw [hl]; decide +kernel⟩ hd (by decide)
theorem xc_X9_230 {d2 : Nat} (hE : xi_Eok E S vwCl tys) (hs : ∀ As m1 r m2, f As m1 = some (r, m2) → xi_Sound l E S D vwCl tys xNs xTs yX9_strengthOf cX9_strengthOf 4 (some .int) d2 As m1 r m2) (hd : d2 + 1 ≤ d) : ∀ As m1 r m2, xi_wV S 11 1 f As m1 = some (r, m2) → xi_Cal l E S D vwCl tys xNs RX9 xTs cc nL d (.invokevirtual 230) As m1 r m2 := fun As m1 r m2 h => by
  obtain ⟨b, t, rfl, hl, hb, h⟩ := xi_wV_some h
  exact xi_callV (T := TX9) (nf := 21) hE hb rfl (hs _ _ _ _ h) xw_good (xw_in 1177 (by decide +kernel) rfl) (xw_in 1174 (by decide +kernel) rfl) (xw_in 1176 (by decide +kernel) rfl) (xw_in 46 (by decide +kernel) rfl) (xw_in 60 (by decide +kernel) rfl) ⟨by decide +kernel, by decide +kernel, by rw [hl]; decide +kernel⟩ hd (by decide)
theorem xc_X9_233 {d2 : Nat} (hE : xi_Eok E S vwCl tys) (hs : ∀ As m1 r m2, f As m1 = some (r, m2) → xi_Sound l E S D vwCl tys xNs xTs yX9_comes cX9_comes 7 (some .int) d2 As m1 r m2) (hd : d2 + 1 ≤ d) : ∀ As m1 r m2, xi_wV S 11 2 f As m1 = some (r, m2) → xi_Cal l E S D vwCl tys xNs RX9 xTs cc nL d (.invokevirtual 233) As m1 r m2 := fun As m1 r m2 h => by
  obtain ⟨b, t, rfl, hl, hb, h⟩ := xi_wV_some h
  exact xi_callV (T := TX9) (nf := 21) hE hb rfl (hs _ _ _ _ h) xw_good (xw_in 1189 (by decide +kernel) rfl) (xw_in 1186 (by decide +kernel) rfl) (xw_in 1188 (by decide +kernel) rfl) (xw_in 47 (by decide +kernel) rfl) (xw_in 60 (by decide +kernel) rfl) ⟨by decide +kernel, by decide +kernel, by rw [hl]; decide +kernel⟩ hd (by decide)
theorem xc_X9_238 {d2 : Nat} (hE : xi_Eok E S vwCl tys) (hs : ∀ As m1 r m2, f As m1 = some (r, m2) → xi_Sound l E S D vwCl tys xNs xTs yX9_isInBy cX9_isInBy 4 (some .boolean) d2 As m1 r m2) (hd : d2 + 1 ≤ d) : ∀ As m1 r m2, xi_wV S 11 2 f As m1 = some (r, m2) → xi_Cal l E S D vwCl tys xNs RX9 xTs cc nL d (.invokevirtual 238) As m1 r m2 := fun As m1 r m2 h => by
  obtain ⟨b, t, rfl, hl, hb, h⟩ := xi_wV_some h
  exact xi_callV (T := TX9) (nf := 21) hE hb rfl (hs _ _ _ _ h) xw_good (xw_in 1198 (by decide +kernel) rfl) (xw_in 1195 (by decide +kernel) rfl) (xw_in 1197 (by decide +kernel) rfl) (xw_in 48 (by decide +kernel) rfl) (xw_in 60 (by decide +kernel) rfl) ⟨by decide +kernel, by decide +kernel, by rw [hl]; decide +kernel⟩ hd (by decide)
theorem xc_X9_241 {d2 : Nat} (hE : xi_Eok E S vwCl tys) (hs : ∀ As m1 r m2, f As m1 = some (r, m2) → xi_Sound l E S D vwCl tys xNs xTs yX9_told cX9_told 11 (some .int) d2 As m1 r m2) (hd : d2 + 1 ≤ d) : ∀ As m1 r m2, xi_wV S 11 2 f As m1 = some (r, m2) → xi_Cal l E S D vwCl tys xNs RX9 xTs cc nL d (.invokevirtual 241) As m1 r m2 := fun As m1 r m2 h => by
  obtain ⟨b, t, rfl, hl, hb, h⟩ := xi_wV_some h
  exact xi_callV (T := TX9) (nf := 21) hE hb rfl (hs _ _ _ _ h) xw_good (xw_in 1202 (by decide +kernel) rfl) (xw_in 1199 (by decide +kernel) rfl) (xw_in 1201 (by decide +kernel) rfl) (xw_in 49 (by decide +kernel) rfl) (xw_in 60 (by decide +kernel) rfl) ⟨by decide +kernel, by decide +kernel, by rw [hl]; decide +kernel⟩ hd (by decide)
theorem xc_X9_250 {d2 : Nat} (hE : xi_Eok E S vwCl tys) (hs : ∀ As m1 r m2, f As m1 = some (r, m2) → xi_Sound l E S D vwCl tys xNs xTs yX9_lot cX9_lot 6 none d2 As m1 r m2) (hd : d2 + 1 ≤ d) : ∀ As m1 r m2, xi_wV S 11 1 f As m1 = some (r, m2) → xi_Cal l E S D vwCl tys xNs RX9 xTs cc nL d (.invokevirtual 250) As m1 r m2 := fun As m1 r m2 h => by
  obtain ⟨b, t, rfl, hl, hb, h⟩ := xi_wV_some h
  exact xi_callV (T := TX9) (nf := 21) hE hb rfl (hs _ _ _ _ h) xw_good (xw_in 1217 (by decide +kernel) rfl) (xw_in 1214 (by decide +kernel) rfl) (xw_in 1216 (by decide +kernel) rfl) (xw_in 50 (by decide +kernel) rfl) (xw_in 60 (by decide +kernel) rfl) ⟨by decide +kernel, by decide +kernel, by rw [hl]; decide +kernel⟩ hd (by decide)
theorem xc_X9_262 {d2 : Nat} (hE : xi_Eok E S vwCl tys) (hs : ∀ As m1 r m2, f As m1 = some (r, m2) → xi_Sound l E S D vwCl tys xNs xTs yX9_kindsThere cX9_kindsThere 4 (some .int) d2 As m1 r m2) (hd : d2 + 1 ≤ d) : ∀ As m1 r m2, xi_wV S 11 1 f As m1 = some (r, m2) → xi_Cal l E S D vwCl tys xNs RX9 xTs cc nL d (.invokevirtual 262) As m1 r m2 := fun As m1 r m2 h => by
  obtain ⟨b, t, rfl, hl, hb, h⟩ := xi_wV_some h
  exact xi_callV (T := TX9) (nf := 21) hE hb rfl (hs _ _ _ _ h) xw_good (xw_in 1241 (by decide +kernel) rfl) (xw_in 1238 (by decide +kernel) rfl) (xw_in 1240 (by decide +kernel) rfl) (xw_in 51 (by decide +kernel) rfl) (xw_in 60 (by decide +kernel) rfl) ⟨by decide +kernel, by decide +kernel, by rw [hl]; decide +kernel⟩ hd (by decide)
theorem xc_X9_265 {d2 : Nat} (hs : ∀ As m1 r m2, f As m1 = some (r, m2) → xi_Sound l E S D vwCl tys xNs xTs yX9_there cX9_there 3 (some .int) d2 As m1 r m2) (hd : d2 + 1 ≤ d) : ∀ As m1 r m2, xi_wS 1 f As m1 = some (r, m2) → xi_Cal l E S D vwCl tys xNs RX9 xTs cc nL d (.invokestatic 265) As m1 r m2 := fun As m1 r m2 h => by
  obtain ⟨hl, h⟩ := xi_wS_some h
  exact xi_callS (hs _ _ _ _ h) xw_good (xw_in 1244 (by decide +kernel) rfl) (xw_in 1242 (by decide +kernel) rfl) (xw_in 1243 (by decide +kernel) rfl) (xw_in 60 (by decide +kernel) rfl) ⟨by decide +kernel, by decide +kernel, by rw [hl]; decide +kernel⟩ hd (by decide)
theorem xc_X9_272 {d2 : Nat} (hE : xi_Eok E S vwCl tys) (hs : ∀ As m1 r m2, f As m1 = some (r, m2) → xi_Sound l E S D vwCl tys xNs xTs yX9_count cX9_count 2 (some .int) d2 As m1 r m2) (hd : d2 + 1 ≤ d) : ∀ As m1 r m2, xi_wV S 11 1 f As m1 = some (r, m2) → xi_Cal l E S D vwCl tys xNs RX9 xTs cc nL d (.invokevirtual 272) As m1 r m2 := fun As m1 r m2 h => by
  obtain ⟨b, t, rfl, hl, hb, h⟩ := xi_wV_some h
  exact xi_callV (T := TX9) (nf := 21) hE hb rfl (hs _ _ _ _ h) xw_good (xw_in 1237 (by decide +kernel) rfl) (xw_in 1259 (by decide +kernel) rfl) (xw_in 1235 (by decide +kernel) rfl) (xw_in 1236 (by decide +kernel) rfl) (xw_in 60 (by decide +kernel) rfl) ⟨by decide +kernel, by decide +kernel, by rw [hl]; decide +kernel⟩ hd (by decide)
theorem xc_X9_275 {d2 : Nat} (hs : ∀ As m1 r m2, f As m1 = some (r, m2) → xi_Sound l E S D vwCl tys xNs xTs yX9_summed cX9_summed 9 (some .long) d2 As m1 r m2) (hd : d2 + 1 ≤ d) : ∀ As m1 r m2, xi_wS 4 f As m1 = some (r, m2) → xi_Cal l E S D vwCl tys xNs RX9 xTs cc nL d (.invokestatic 275) As m1 r m2 := fun As m1 r m2 h => by
  obtain ⟨hl, h⟩ := xi_wS_some h
  exact xi_callS (hs _ _ _ _ h) xw_good (xw_in 1262 (by decide +kernel) rfl) (xw_in 1260 (by decide +kernel) rfl) (xw_in 1261 (by decide +kernel) rfl) (xw_in 60 (by decide +kernel) rfl) ⟨by decide +kernel, by decide +kernel, by rw [hl]; decide +kernel⟩ hd (by decide)
end XCL
end
section
/-! Rules: an instruction at a time, from what a method's function says. -/
theorem xi_no {P : Prop} {res : xi_R} (h : (none : Option xi_R) = some res) : P := nomatch h
def xi_wI (m : xi_M) (a k : Nat) (v : Int32) : xi_M := (xi_up m.1 a k v, m.2)
def xi_wJ (m : xi_M) (a k : Nat) (v : Int64) : xi_M := (m.1, xi_upL m.2 a k v)
theorem xi_le_z : xi_le [] [] := ⟨rfl, fun _ _ h => h⟩
theorem xi_le_s {x : Option Value} {L1 L : xi_L} (h : xi_le L1 L) : xi_le (x :: L1) (x :: L) := ⟨congrArg Nat.succ h.1, fun i v hv => by
  cases i with
  | zero => exact hv
  | succ j => exact h.2 j v hv⟩
theorem xi_le_n {x : Option Value} {L1 L : xi_L} (h : xi_le L1 L) : xi_le (none :: L1) (x :: L) := ⟨congrArg Nat.succ h.1, fun i v hv => by
  cases i with
  | zero => cases hv
  | succ j => exact h.2 j v hv⟩
theorem xi_bI_some {q : Option xi_R} {k : Int32 → xi_M → Option xi_R} {res : xi_R} (h : xi_bI q k = some res) : ∃ v m, q = some (some (.int v), m) ∧ k v m = some res := by
  unfold xi_bI at h
  split at h
  · exact ⟨_, _, rfl, h⟩
  · cases h
theorem xi_bJ_some {q : Option xi_R} {k : Int64 → xi_M → Option xi_R} {res : xi_R} (h : xi_bJ q k = some res) : ∃ v m, q = some (some (.long v), m) ∧ k v m = some res := by
  unfold xi_bJ at h
  split at h
  · exact ⟨_, _, rfl, h⟩
  · cases h
theorem xi_bV_some {q : Option xi_R} {k : xi_M → Option xi_R} {res : xi_R} (h : xi_bV q k = some res) : ∃ m, q = some (none, m) ∧ k m = some res := by
  unfold xi_bV at h
  split at h
  · exact ⟨_, rfl, h⟩
  · cases h
/-- an instruction out of the bytes, if it is as long as such an instruction is -/
def xi_dc (cc : ByteArray) (pc : Nat) : Option (Instr × Nat) := match decode cc pc with
  | .ok q => bif Nat.beq q.2 (xi_len q.1 q.2) then some q else none
  | _ => none
theorem xi_dc_ok {cc : ByteArray} : ∀ pc i n, xi_dc cc pc = some (i, n) → decode cc pc = .ok (i, n) ∧ n = xi_len i n := by
  intro pc i n h
  unfold xi_dc at h
  split at h
  · rename_i q hq
    cases hb : Nat.beq q.2 (xi_len q.1 q.2) with
    | true =>
      rw [hb] at h
      cases h
      exact ⟨hq, Nat.eq_of_beq_eq_true hb⟩
    | false => rw [hb] at h; cases h
  · cases h
section XR
variable {S : xi_S} {P : xi_P} {res : xi_R} {pc q : Nat} {L : xi_L} {r : List Value} {m : xi_M}
theorem xr_of {t : xi_T} (h : ∀ K : xi_T → Option xi_R, (∀ t', xi_X S P t' res → K t' = some res) → xi_run S P K t = some res) : xi_X S P t res :=
  fun G hG hle => hG (xi_K S P res) t (h _ (fun _ ht => xi_K_of ht)) (fun _ ht => xi_K_to ht G hG hle)
theorem xr_go {st : List Value} {i : Instr} {n : Nat} (hp : P.1 pc = some (i, n)) (h : ∀ K : xi_T → Option xi_R, (∀ t', xi_X S P t' res → K t' = some res) → xi_op S P K pc L st m i = some res) : xi_X S P (pc, L, st, m) res :=
  xr_of fun K hK => by
    unfold xi_run
    dsimp only
    rw [hp]
    exact h K hK

theorem xr_iconst {v : Int} (hp : P.1 pc = some (.iconst v, 1))  (hq : pc + 1 = q) (k : xi_X S P (q, L, .int (Int32.ofInt v) :: r, m) res) : xi_X S P (pc, L, r, m) res := by
  subst hq
  exact xr_go hp (fun K hK => hK _ k)
theorem xr_bipush {v : Int} (hp : P.1 pc = some (.bipush v, 2))  (hq : pc + 2 = q) (k : xi_X S P (q, L, .int ((Int8.ofInt v).toInt32) :: r, m) res) : xi_X S P (pc, L, r, m) res := by
  subst hq
  exact xr_go hp (fun K hK => hK _ k)
theorem xr_sipush {v : Int} (hp : P.1 pc = some (.sipush v, 3))  (hq : pc + 3 = q) (k : xi_X S P (q, L, .int ((Int16.ofInt v).toInt32) :: r, m) res) : xi_X S P (pc, L, r, m) res := by
  subst hq
  exact xr_go hp (fun K hK => hK _ k)
theorem xr_lconst {v : Fin 2} (hp : P.1 pc = some (.lconst v, 1))  (hq : pc + 1 = q) (k : xi_X S P (q, L, .long (Int64.ofNat (v : Nat)) :: r, m) res) : xi_X S P (pc, L, r, m) res := by
  subst hq
  exact xr_go hp (fun K hK => hK _ k)
theorem xr_ldc {x : Nat} {v : Int32} (hp : P.1 pc = some (.ldc x, 2)) (hc : P.2.2.1 x = some v) (hq : pc + 2 = q) (k : xi_X S P (q, L, .int v :: r, m) res) : xi_X S P (pc, L, r, m) res := by
  subst hq
  exact xr_go hp (fun K hK => show (P.2.2.1 x).bind _ = _ by rw [hc]; exact hK _ k)
theorem xr_ldc_w {x : Nat} {v : Int32} (hp : P.1 pc = some (.ldc_w x, 3)) (hc : P.2.2.1 x = some v) (hq : pc + 3 = q) (k : xi_X S P (q, L, .int v :: r, m) res) : xi_X S P (pc, L, r, m) res := by
  subst hq
  exact xr_go hp (fun K hK => show (P.2.2.1 x).bind _ = _ by rw [hc]; exact hK _ k)
theorem xr_ldc2_w {x : Nat} {v : Int64} (hp : P.1 pc = some (.ldc2_w x, 3)) (hc : P.2.2.2.1 x = some v) (hq : pc + 3 = q) (k : xi_X S P (q, L, .long v :: r, m) res) : xi_X S P (pc, L, r, m) res := by
  subst hq
  exact xr_go hp (fun K hK => show (P.2.2.2.1 x).bind _ = _ by rw [hc]; exact hK _ k)
theorem xr_iload {i : Nat} {v : Int32} (hp : P.1 pc = some (.iload i, 2)) (hg : xi_get L i = some (.int v)) (hq : pc + 2 = q) (k : xi_X S P (q, L, .int v :: r, m) res) : xi_X S P (pc, L, r, m) res := by
  subst hq
  exact xr_go hp (fun K hK => show xi_lI (xi_get L i) _ = _ by rw [hg]; exact hK _ k)
theorem xr_iload_n {i : Fin 4} {v : Int32} (hp : P.1 pc = some (.iload_n i, 1)) (hg : xi_get L i = some (.int v)) (hq : pc + 1 = q) (k : xi_X S P (q, L, .int v :: r, m) res) : xi_X S P (pc, L, r, m) res := by
  subst hq
  exact xr_go hp (fun K hK => show xi_lI (xi_get L i) _ = _ by rw [hg]; exact hK _ k)
theorem xr_lload {i : Nat} {v : Int64} (hp : P.1 pc = some (.lload i, 2)) (hg : xi_get L i = some (.long v)) (hq : pc + 2 = q) (k : xi_X S P (q, L, .long v :: r, m) res) : xi_X S P (pc, L, r, m) res := by
  subst hq
  exact xr_go hp (fun K hK => show xi_lJ (xi_get L i) _ = _ by rw [hg]; exact hK _ k)
theorem xr_lload_n {i : Fin 4} {v : Int64} (hp : P.1 pc = some (.lload_n i, 1)) (hg : xi_get L i = some (.long v)) (hq : pc + 1 = q) (k : xi_X S P (q, L, .long v :: r, m) res) : xi_X S P (pc, L, r, m) res := by
  subst hq
  exact xr_go hp (fun K hK => show xi_lJ (xi_get L i) _ = _ by rw [hg]; exact hK _ k)
theorem xr_aload {i : Nat} {v : Nat} (hp : P.1 pc = some (.aload i, 2)) (hg : xi_get L i = some (.ref v)) (hq : pc + 2 = q) (k : xi_X S P (q, L, .ref v :: r, m) res) : xi_X S P (pc, L, r, m) res := by
  subst hq
  exact xr_go hp (fun K hK => show xi_lR (xi_get L i) _ = _ by rw [hg]; exact hK _ k)
theorem xr_aload_n {i : Fin 4} {v : Nat} (hp : P.1 pc = some (.aload_n i, 1)) (hg : xi_get L i = some (.ref v)) (hq : pc + 1 = q) (k : xi_X S P (q, L, .ref v :: r, m) res) : xi_X S P (pc, L, r, m) res := by
  subst hq
  exact xr_go hp (fun K hK => show xi_lR (xi_get L i) _ = _ by rw [hg]; exact hK _ k)
theorem xr_istore {i : Nat} {v : Int32} {L2 : xi_L} (hp : P.1 pc = some (.istore i, 2)) (hb : Nat.blt (i) L.length = true) (hL : xi_st1 L i (.int v) = L2) (hq : pc + 2 = q) (k : xi_X S P (q, L2, r, m) res) : xi_X S P (pc, L, .int v :: r, m) res := by
  subst hq
  exact xr_go hp (fun K hK => show (bif Nat.blt (i) L.length then K _ else none) = _ by rw [hb, hL]; exact hK _ k)
theorem xr_istore_n {i : Fin 4} {v : Int32} {L2 : xi_L} (hp : P.1 pc = some (.istore_n i, 1)) (hb : Nat.blt ((i : Nat)) L.length = true) (hL : xi_st1 L i (.int v) = L2) (hq : pc + 1 = q) (k : xi_X S P (q, L2, r, m) res) : xi_X S P (pc, L, .int v :: r, m) res := by
  subst hq
  exact xr_go hp (fun K hK => show (bif Nat.blt ((i : Nat)) L.length then K _ else none) = _ by rw [hb, hL]; exact hK _ k)
theorem xr_lstore {i : Nat} {v : Int64} {L2 : xi_L} (hp : P.1 pc = some (.lstore i, 2)) (hb : Nat.blt (i + 1) L.length = true) (hL : xi_st2 L i (.long v) = L2) (hq : pc + 2 = q) (k : xi_X S P (q, L2, r, m) res) : xi_X S P (pc, L, .long v :: r, m) res := by
  subst hq
  exact xr_go hp (fun K hK => show (bif Nat.blt (i + 1) L.length then K _ else none) = _ by rw [hb, hL]; exact hK _ k)
theorem xr_lstore_n {i : Fin 4} {v : Int64} {L2 : xi_L} (hp : P.1 pc = some (.lstore_n i, 1)) (hb : Nat.blt ((i : Nat) + 1) L.length = true) (hL : xi_st2 L i (.long v) = L2) (hq : pc + 1 = q) (k : xi_X S P (q, L2, r, m) res) : xi_X S P (pc, L, .long v :: r, m) res := by
  subst hq
  exact xr_go hp (fun K hK => show (bif Nat.blt ((i : Nat) + 1) L.length then K _ else none) = _ by rw [hb, hL]; exact hK _ k)
theorem xr_iinc {i : Nat} {w : Int} {v : Int32} {L2 : xi_L} (hp : P.1 pc = some (.iinc i w, 3)) (hg : xi_get L i = some (.int v)) (hb : Nat.blt i L.length = true) (hL : xi_st1 L i (.int (v + Int32.ofInt w)) = L2) (hq : pc + 3 = q) (k : xi_X S P (q, L2, r, m) res) : xi_X S P (pc, L, r, m) res := by
  subst hq
  exact xr_go hp (fun K hK => show xi_lI (xi_get L i) _ = _ by rw [hg]; show (bif Nat.blt i L.length then K _ else none) = _; rw [hb, hL]; exact hK _ k)
theorem xr_iadd {x y : Int32} (hp : P.1 pc = some (.iadd, 1))  (hq : pc + 1 = q) (k : xi_X S P (q, L, .int (x + y) :: r, m) res) : xi_X S P (pc, L, .int y :: .int x :: r, m) res := by
  subst hq
  exact xr_go hp (fun K hK => hK _ k)
theorem xr_isub {x y : Int32} (hp : P.1 pc = some (.isub, 1))  (hq : pc + 1 = q) (k : xi_X S P (q, L, .int (x - y) :: r, m) res) : xi_X S P (pc, L, .int y :: .int x :: r, m) res := by
  subst hq
  exact xr_go hp (fun K hK => hK _ k)
theorem xr_imul {x y : Int32} (hp : P.1 pc = some (.imul, 1))  (hq : pc + 1 = q) (k : xi_X S P (q, L, .int (x * y) :: r, m) res) : xi_X S P (pc, L, .int y :: .int x :: r, m) res := by
  subst hq
  exact xr_go hp (fun K hK => hK _ k)
theorem xr_iand {x y : Int32} (hp : P.1 pc = some (.iand, 1))  (hq : pc + 1 = q) (k : xi_X S P (q, L, .int (x &&& y) :: r, m) res) : xi_X S P (pc, L, .int y :: .int x :: r, m) res := by
  subst hq
  exact xr_go hp (fun K hK => hK _ k)
theorem xr_ior {x y : Int32} (hp : P.1 pc = some (.ior, 1))  (hq : pc + 1 = q) (k : xi_X S P (q, L, .int (x ||| y) :: r, m) res) : xi_X S P (pc, L, .int y :: .int x :: r, m) res := by
  subst hq
  exact xr_go hp (fun K hK => hK _ k)
theorem xr_ixor {x y : Int32} (hp : P.1 pc = some (.ixor, 1))  (hq : pc + 1 = q) (k : xi_X S P (q, L, .int (x ^^^ y) :: r, m) res) : xi_X S P (pc, L, .int y :: .int x :: r, m) res := by
  subst hq
  exact xr_go hp (fun K hK => hK _ k)
theorem xr_ishl {x y : Int32} (hp : P.1 pc = some (.ishl, 1))  (hq : pc + 1 = q) (k : xi_X S P (q, L, .int (x <<< (y &&& 31)) :: r, m) res) : xi_X S P (pc, L, .int y :: .int x :: r, m) res := by
  subst hq
  exact xr_go hp (fun K hK => hK _ k)
theorem xr_ishr {x y : Int32} (hp : P.1 pc = some (.ishr, 1))  (hq : pc + 1 = q) (k : xi_X S P (q, L, .int (x >>> (y &&& 31)) :: r, m) res) : xi_X S P (pc, L, .int y :: .int x :: r, m) res := by
  subst hq
  exact xr_go hp (fun K hK => hK _ k)
theorem xr_iushr {x y : Int32} (hp : P.1 pc = some (.iushr, 1))  (hq : pc + 1 = q) (k : xi_X S P (q, L, .int ((x.toUInt32 >>> (y.toUInt32 &&& Int32.toUInt32 31)).toInt32) :: r, m) res) : xi_X S P (pc, L, .int y :: .int x :: r, m) res := by
  subst hq
  exact xr_go hp (fun K hK => hK _ k)
theorem xr_ladd {x y : Int64} (hp : P.1 pc = some (.ladd, 1))  (hq : pc + 1 = q) (k : xi_X S P (q, L, .long (x + y) :: r, m) res) : xi_X S P (pc, L, .long y :: .long x :: r, m) res := by
  subst hq
  exact xr_go hp (fun K hK => hK _ k)
theorem xr_lsub {x y : Int64} (hp : P.1 pc = some (.lsub, 1))  (hq : pc + 1 = q) (k : xi_X S P (q, L, .long (x - y) :: r, m) res) : xi_X S P (pc, L, .long y :: .long x :: r, m) res := by
  subst hq
  exact xr_go hp (fun K hK => hK _ k)
theorem xr_lmul {x y : Int64} (hp : P.1 pc = some (.lmul, 1))  (hq : pc + 1 = q) (k : xi_X S P (q, L, .long (x * y) :: r, m) res) : xi_X S P (pc, L, .long y :: .long x :: r, m) res := by
  subst hq
  exact xr_go hp (fun K hK => hK _ k)
theorem xr_idiv {x y : Int32} (hp : P.1 pc = some (.idiv, 1)) (h0 : ¬ y = 0) (hq : pc + 1 = q) (k : xi_X S P (q, L, .int (x / y) :: r, m) res) : xi_X S P (pc, L, .int y :: .int x :: r, m) res := by
  subst hq
  exact xr_go hp (fun K hK => show (if y = 0 then none else K _) = _ by rw [if_neg h0]; exact hK _ k)
theorem xr_irem {x y : Int32} (hp : P.1 pc = some (.irem, 1)) (h0 : ¬ y = 0) (hq : pc + 1 = q) (k : xi_X S P (q, L, .int (x - x / y * y) :: r, m) res) : xi_X S P (pc, L, .int y :: .int x :: r, m) res := by
  subst hq
  exact xr_go hp (fun K hK => show (if y = 0 then none else K _) = _ by rw [if_neg h0]; exact hK _ k)
theorem xr_ldiv {x y : Int64} (hp : P.1 pc = some (.ldiv, 1)) (h0 : ¬ y = 0) (hq : pc + 1 = q) (k : xi_X S P (q, L, .long (x / y) :: r, m) res) : xi_X S P (pc, L, .long y :: .long x :: r, m) res := by
  subst hq
  exact xr_go hp (fun K hK => show (if y = 0 then none else K _) = _ by rw [if_neg h0]; exact hK _ k)
theorem xr_lrem {x y : Int64} (hp : P.1 pc = some (.lrem, 1)) (h0 : ¬ y = 0) (hq : pc + 1 = q) (k : xi_X S P (q, L, .long (x - x / y * y) :: r, m) res) : xi_X S P (pc, L, .long y :: .long x :: r, m) res := by
  subst hq
  exact xr_go hp (fun K hK => show (if y = 0 then none else K _) = _ by rw [if_neg h0]; exact hK _ k)
theorem xr_lcmp {x y : Int64} (hp : P.1 pc = some (.lcmp, 1))  (hq : pc + 1 = q) (k : xi_X S P (q, L, .int (lg_cmp x y) :: r, m) res) : xi_X S P (pc, L, .long y :: .long x :: r, m) res := by
  subst hq
  exact xr_go hp (fun K hK => hK _ k)
theorem xr_ineg {x : Int32} (hp : P.1 pc = some (.ineg, 1))  (hq : pc + 1 = q) (k : xi_X S P (q, L, .int (-x) :: r, m) res) : xi_X S P (pc, L, .int x :: r, m) res := by
  subst hq
  exact xr_go hp (fun K hK => hK _ k)
theorem xr_i2l {x : Int32} (hp : P.1 pc = some (.i2l, 1))  (hq : pc + 1 = q) (k : xi_X S P (q, L, .long x.toInt64 :: r, m) res) : xi_X S P (pc, L, .int x :: r, m) res := by
  subst hq
  exact xr_go hp (fun K hK => hK _ k)
theorem xr_l2i {x : Int64} (hp : P.1 pc = some (.l2i, 1))  (hq : pc + 1 = q) (k : xi_X S P (q, L, .int x.toInt32 :: r, m) res) : xi_X S P (pc, L, .long x :: r, m) res := by
  subst hq
  exact xr_go hp (fun K hK => hK _ k)
theorem xr_i2b {x : Int32} (hp : P.1 pc = some (.i2b, 1))  (hq : pc + 1 = q) (k : xi_X S P (q, L, .int x.toInt8.toInt32 :: r, m) res) : xi_X S P (pc, L, .int x :: r, m) res := by
  subst hq
  exact xr_go hp (fun K hK => hK _ k)
theorem xr_dup_r {x : Nat} (hp : P.1 pc = some (.dup, 1))  (hq : pc + 1 = q) (k : xi_X S P (q, L, .ref x :: .ref x :: r, m) res) : xi_X S P (pc, L, .ref x :: r, m) res := by
  subst hq
  exact xr_go hp (fun K hK => hK _ k)
theorem xr_dup_i {x : Int32} (hp : P.1 pc = some (.dup, 1))  (hq : pc + 1 = q) (k : xi_X S P (q, L, .int x :: .int x :: r, m) res) : xi_X S P (pc, L, .int x :: r, m) res := by
  subst hq
  exact xr_go hp (fun K hK => hK _ k)
theorem xr_dup2 {x : Int32} {y : Nat} (hp : P.1 pc = some (.dup2, 1))  (hq : pc + 1 = q) (k : xi_X S P (q, L, .int x :: .ref y :: .int x :: .ref y :: r, m) res) : xi_X S P (pc, L, .int x :: .ref y :: r, m) res := by
  subst hq
  exact xr_go hp (fun K hK => hK _ k)
theorem xr_pop {x : Int32} (hp : P.1 pc = some (.pop, 1))  (hq : pc + 1 = q) (k : xi_X S P (q, L, r, m) res) : xi_X S P (pc, L, .int x :: r, m) res := by
  subst hq
  exact xr_go hp (fun K hK => hK _ k)
theorem xi_to_eq {o : Int} {f : Nat → Option xi_R} (h : (pc : Int) + o = (q : Int)) : xi_to pc o f = f q := by
  unfold xi_to
  rw [h]
theorem xr_goto {st : List Value} {o : Int} (hp : P.1 pc = some (.goto o, 3)) (hq : (pc : Int) + o = (q : Int)) (k : xi_X S P (q, L, st, m) res) : xi_X S P (pc, L, st, m) res :=
  xr_go hp (fun K hK => show xi_to pc o _ = _ by rw [xi_to_eq hq]; exact hK _ k)
theorem xr_ifCond_eq_p {x : Int32} {o : Int} {q2 : Nat} (hp : P.1 pc = some (.ifCond .eq o, 3)) (hc : x = 0) (hq : (pc : Int) + o = (q : Int)) (hq2 : pc + 3 = q2) (k : xi_X S P (q, L, r, m) res) : xi_X S P (pc, L, .int x :: r, m) res := by
  subst hq2
  exact xr_go hp (fun K hK => show xi_to pc o _ = _ by rw [xi_to_eq hq, if_pos hc]; exact hK _ k)
theorem xr_ifCond_eq_n {x : Int32} {o : Int} {q2 : Nat} (hp : P.1 pc = some (.ifCond .eq o, 3)) (hc : ¬ x = 0) (hq : (pc : Int) + o = (q : Int)) (hq2 : pc + 3 = q2) (k : xi_X S P (q2, L, r, m) res) : xi_X S P (pc, L, .int x :: r, m) res := by
  subst hq2
  exact xr_go hp (fun K hK => show xi_to pc o _ = _ by rw [xi_to_eq hq, if_neg hc]; exact hK _ k)
theorem xr_ifCond_ne_p {x : Int32} {o : Int} {q2 : Nat} (hp : P.1 pc = some (.ifCond .ne o, 3)) (hc : x = 0) (hq : (pc : Int) + o = (q : Int)) (hq2 : pc + 3 = q2) (k : xi_X S P (q2, L, r, m) res) : xi_X S P (pc, L, .int x :: r, m) res := by
  subst hq2
  exact xr_go hp (fun K hK => show xi_to pc o _ = _ by rw [xi_to_eq hq, if_pos hc]; exact hK _ k)
theorem xr_ifCond_ne_n {x : Int32} {o : Int} {q2 : Nat} (hp : P.1 pc = some (.ifCond .ne o, 3)) (hc : ¬ x = 0) (hq : (pc : Int) + o = (q : Int)) (hq2 : pc + 3 = q2) (k : xi_X S P (q, L, r, m) res) : xi_X S P (pc, L, .int x :: r, m) res := by
  subst hq2
  exact xr_go hp (fun K hK => show xi_to pc o _ = _ by rw [xi_to_eq hq, if_neg hc]; exact hK _ k)
theorem xr_ifCond_lt_p {x : Int32} {o : Int} {q2 : Nat} (hp : P.1 pc = some (.ifCond .lt o, 3)) (hc : x < 0) (hq : (pc : Int) + o = (q : Int)) (hq2 : pc + 3 = q2) (k : xi_X S P (q, L, r, m) res) : xi_X S P (pc, L, .int x :: r, m) res := by
  subst hq2
  exact xr_go hp (fun K hK => show xi_to pc o _ = _ by rw [xi_to_eq hq, if_pos hc]; exact hK _ k)
theorem xr_ifCond_lt_n {x : Int32} {o : Int} {q2 : Nat} (hp : P.1 pc = some (.ifCond .lt o, 3)) (hc : ¬ x < 0) (hq : (pc : Int) + o = (q : Int)) (hq2 : pc + 3 = q2) (k : xi_X S P (q2, L, r, m) res) : xi_X S P (pc, L, .int x :: r, m) res := by
  subst hq2
  exact xr_go hp (fun K hK => show xi_to pc o _ = _ by rw [xi_to_eq hq, if_neg hc]; exact hK _ k)
theorem xr_ifCond_ge_p {x : Int32} {o : Int} {q2 : Nat} (hp : P.1 pc = some (.ifCond .ge o, 3)) (hc : 0 ≤ x) (hq : (pc : Int) + o = (q : Int)) (hq2 : pc + 3 = q2) (k : xi_X S P (q, L, r, m) res) : xi_X S P (pc, L, .int x :: r, m) res := by
  subst hq2
  exact xr_go hp (fun K hK => show xi_to pc o _ = _ by rw [xi_to_eq hq, if_pos hc]; exact hK _ k)
theorem xr_ifCond_ge_n {x : Int32} {o : Int} {q2 : Nat} (hp : P.1 pc = some (.ifCond .ge o, 3)) (hc : ¬ 0 ≤ x) (hq : (pc : Int) + o = (q : Int)) (hq2 : pc + 3 = q2) (k : xi_X S P (q2, L, r, m) res) : xi_X S P (pc, L, .int x :: r, m) res := by
  subst hq2
  exact xr_go hp (fun K hK => show xi_to pc o _ = _ by rw [xi_to_eq hq, if_neg hc]; exact hK _ k)
theorem xr_ifCond_gt_p {x : Int32} {o : Int} {q2 : Nat} (hp : P.1 pc = some (.ifCond .gt o, 3)) (hc : 0 < x) (hq : (pc : Int) + o = (q : Int)) (hq2 : pc + 3 = q2) (k : xi_X S P (q, L, r, m) res) : xi_X S P (pc, L, .int x :: r, m) res := by
  subst hq2
  exact xr_go hp (fun K hK => show xi_to pc o _ = _ by rw [xi_to_eq hq, if_pos hc]; exact hK _ k)
theorem xr_ifCond_gt_n {x : Int32} {o : Int} {q2 : Nat} (hp : P.1 pc = some (.ifCond .gt o, 3)) (hc : ¬ 0 < x) (hq : (pc : Int) + o = (q : Int)) (hq2 : pc + 3 = q2) (k : xi_X S P (q2, L, r, m) res) : xi_X S P (pc, L, .int x :: r, m) res := by
  subst hq2
  exact xr_go hp (fun K hK => show xi_to pc o _ = _ by rw [xi_to_eq hq, if_neg hc]; exact hK _ k)
theorem xr_ifCond_le_p {x : Int32} {o : Int} {q2 : Nat} (hp : P.1 pc = some (.ifCond .le o, 3)) (hc : x ≤ 0) (hq : (pc : Int) + o = (q : Int)) (hq2 : pc + 3 = q2) (k : xi_X S P (q, L, r, m) res) : xi_X S P (pc, L, .int x :: r, m) res := by
  subst hq2
  exact xr_go hp (fun K hK => show xi_to pc o _ = _ by rw [xi_to_eq hq, if_pos hc]; exact hK _ k)
theorem xr_ifCond_le_n {x : Int32} {o : Int} {q2 : Nat} (hp : P.1 pc = some (.ifCond .le o, 3)) (hc : ¬ x ≤ 0) (hq : (pc : Int) + o = (q : Int)) (hq2 : pc + 3 = q2) (k : xi_X S P (q2, L, r, m) res) : xi_X S P (pc, L, .int x :: r, m) res := by
  subst hq2
  exact xr_go hp (fun K hK => show xi_to pc o _ = _ by rw [xi_to_eq hq, if_neg hc]; exact hK _ k)
theorem xr_if_icmp_eq_p {x y : Int32} {o : Int} {q2 : Nat} (hp : P.1 pc = some (.if_icmp .eq o, 3)) (hc : x = y) (hq : (pc : Int) + o = (q : Int)) (hq2 : pc + 3 = q2) (k : xi_X S P (q, L, r, m) res) : xi_X S P (pc, L, .int y :: .int x :: r, m) res := by
  subst hq2
  exact xr_go hp (fun K hK => show xi_to pc o _ = _ by rw [xi_to_eq hq, if_pos hc]; exact hK _ k)
theorem xr_if_icmp_eq_n {x y : Int32} {o : Int} {q2 : Nat} (hp : P.1 pc = some (.if_icmp .eq o, 3)) (hc : ¬ x = y) (hq : (pc : Int) + o = (q : Int)) (hq2 : pc + 3 = q2) (k : xi_X S P (q2, L, r, m) res) : xi_X S P (pc, L, .int y :: .int x :: r, m) res := by
  subst hq2
  exact xr_go hp (fun K hK => show xi_to pc o _ = _ by rw [xi_to_eq hq, if_neg hc]; exact hK _ k)
theorem xr_if_icmp_ne_p {x y : Int32} {o : Int} {q2 : Nat} (hp : P.1 pc = some (.if_icmp .ne o, 3)) (hc : x = y) (hq : (pc : Int) + o = (q : Int)) (hq2 : pc + 3 = q2) (k : xi_X S P (q2, L, r, m) res) : xi_X S P (pc, L, .int y :: .int x :: r, m) res := by
  subst hq2
  exact xr_go hp (fun K hK => show xi_to pc o _ = _ by rw [xi_to_eq hq, if_pos hc]; exact hK _ k)
theorem xr_if_icmp_ne_n {x y : Int32} {o : Int} {q2 : Nat} (hp : P.1 pc = some (.if_icmp .ne o, 3)) (hc : ¬ x = y) (hq : (pc : Int) + o = (q : Int)) (hq2 : pc + 3 = q2) (k : xi_X S P (q, L, r, m) res) : xi_X S P (pc, L, .int y :: .int x :: r, m) res := by
  subst hq2
  exact xr_go hp (fun K hK => show xi_to pc o _ = _ by rw [xi_to_eq hq, if_neg hc]; exact hK _ k)
theorem xr_if_icmp_lt_p {x y : Int32} {o : Int} {q2 : Nat} (hp : P.1 pc = some (.if_icmp .lt o, 3)) (hc : x < y) (hq : (pc : Int) + o = (q : Int)) (hq2 : pc + 3 = q2) (k : xi_X S P (q, L, r, m) res) : xi_X S P (pc, L, .int y :: .int x :: r, m) res := by
  subst hq2
  exact xr_go hp (fun K hK => show xi_to pc o _ = _ by rw [xi_to_eq hq, if_pos hc]; exact hK _ k)
theorem xr_if_icmp_lt_n {x y : Int32} {o : Int} {q2 : Nat} (hp : P.1 pc = some (.if_icmp .lt o, 3)) (hc : ¬ x < y) (hq : (pc : Int) + o = (q : Int)) (hq2 : pc + 3 = q2) (k : xi_X S P (q2, L, r, m) res) : xi_X S P (pc, L, .int y :: .int x :: r, m) res := by
  subst hq2
  exact xr_go hp (fun K hK => show xi_to pc o _ = _ by rw [xi_to_eq hq, if_neg hc]; exact hK _ k)
theorem xr_if_icmp_ge_p {x y : Int32} {o : Int} {q2 : Nat} (hp : P.1 pc = some (.if_icmp .ge o, 3)) (hc : y ≤ x) (hq : (pc : Int) + o = (q : Int)) (hq2 : pc + 3 = q2) (k : xi_X S P (q, L, r, m) res) : xi_X S P (pc, L, .int y :: .int x :: r, m) res := by
  subst hq2
  exact xr_go hp (fun K hK => show xi_to pc o _ = _ by rw [xi_to_eq hq, if_pos hc]; exact hK _ k)
theorem xr_if_icmp_ge_n {x y : Int32} {o : Int} {q2 : Nat} (hp : P.1 pc = some (.if_icmp .ge o, 3)) (hc : ¬ y ≤ x) (hq : (pc : Int) + o = (q : Int)) (hq2 : pc + 3 = q2) (k : xi_X S P (q2, L, r, m) res) : xi_X S P (pc, L, .int y :: .int x :: r, m) res := by
  subst hq2
  exact xr_go hp (fun K hK => show xi_to pc o _ = _ by rw [xi_to_eq hq, if_neg hc]; exact hK _ k)
theorem xr_if_icmp_gt_p {x y : Int32} {o : Int} {q2 : Nat} (hp : P.1 pc = some (.if_icmp .gt o, 3)) (hc : y < x) (hq : (pc : Int) + o = (q : Int)) (hq2 : pc + 3 = q2) (k : xi_X S P (q, L, r, m) res) : xi_X S P (pc, L, .int y :: .int x :: r, m) res := by
  subst hq2
  exact xr_go hp (fun K hK => show xi_to pc o _ = _ by rw [xi_to_eq hq, if_pos hc]; exact hK _ k)
theorem xr_if_icmp_gt_n {x y : Int32} {o : Int} {q2 : Nat} (hp : P.1 pc = some (.if_icmp .gt o, 3)) (hc : ¬ y < x) (hq : (pc : Int) + o = (q : Int)) (hq2 : pc + 3 = q2) (k : xi_X S P (q2, L, r, m) res) : xi_X S P (pc, L, .int y :: .int x :: r, m) res := by
  subst hq2
  exact xr_go hp (fun K hK => show xi_to pc o _ = _ by rw [xi_to_eq hq, if_neg hc]; exact hK _ k)
theorem xr_if_icmp_le_p {x y : Int32} {o : Int} {q2 : Nat} (hp : P.1 pc = some (.if_icmp .le o, 3)) (hc : x ≤ y) (hq : (pc : Int) + o = (q : Int)) (hq2 : pc + 3 = q2) (k : xi_X S P (q, L, r, m) res) : xi_X S P (pc, L, .int y :: .int x :: r, m) res := by
  subst hq2
  exact xr_go hp (fun K hK => show xi_to pc o _ = _ by rw [xi_to_eq hq, if_pos hc]; exact hK _ k)
theorem xr_if_icmp_le_n {x y : Int32} {o : Int} {q2 : Nat} (hp : P.1 pc = some (.if_icmp .le o, 3)) (hc : ¬ x ≤ y) (hq : (pc : Int) + o = (q : Int)) (hq2 : pc + 3 = q2) (k : xi_X S P (q2, L, r, m) res) : xi_X S P (pc, L, .int y :: .int x :: r, m) res := by
  subst hq2
  exact xr_go hp (fun K hK => show xi_to pc o _ = _ by rw [xi_to_eq hq, if_neg hc]; exact hK _ k)
theorem xi_sw_hit {kk : Int → Option xi_R} {x : Int32} {d lo o : Int} {os : List Int} (h : x.toInt = lo) : xi_sw kk x d lo (o :: os) = kk o := by
  unfold xi_sw
  rw [if_pos h]
theorem xi_sw_miss {kk : Int → Option xi_R} {x : Int32} {d lo o : Int} {os : List Int} (h : ¬ x.toInt = lo) : xi_sw kk x d lo (o :: os) = xi_sw kk x d (lo + 1) os := by
  rw [xi_sw, if_neg h]
theorem xi_lk_hit {kk : Int → Option xi_R} {x : Int32} {d a o : Int} {os : List (Int × Int)} (h : a = x.toInt) : xi_lk kk x d ((a, o) :: os) = kk o := by
  unfold xi_lk
  rw [if_pos h]
theorem xi_lk_miss {kk : Int → Option xi_R} {x : Int32} {d a o : Int} {os : List (Int × Int)} (h : ¬ a = x.toInt) : xi_lk kk x d ((a, o) :: os) = xi_lk kk x d os := by
  rw [xi_lk, if_neg h]
theorem xr_table {x : Int32} {d lo hi off : Int} {os : Array Int} {n : Nat} (hp : P.1 pc = some (.tableswitch d lo hi os, n)) (hb : decide (hi - lo + 1 = (os.toList.length : Int)) = true) (hs : ∀ kk : Int → Option xi_R, xi_sw kk x d lo os.toList = kk off) (hq : (pc : Int) + off = (q : Int)) (k : xi_X S P (q, L, r, m) res) : xi_X S P (pc, L, .int x :: r, m) res :=
  xr_go hp (fun K hK => show (bif decide (hi - lo + 1 = (os.toList.length : Int)) then xi_sw _ x d lo os.toList else none) = _ by rw [hb]; show xi_sw _ x d lo os.toList = _; rw [hs, xi_to_eq hq]; exact hK _ k)
theorem xr_lookup {x : Int32} {d off : Int} {ps : Array (Int × Int)} {n : Nat} (hp : P.1 pc = some (.lookupswitch d ps, n)) (hb : (ps.toList.zip (ps.toList.drop 1)).all (fun (a, next) => a.1 < next.1) = true) (hs : ∀ kk : Int → Option xi_R, xi_lk kk x d ps.toList = kk off) (hq : (pc : Int) + off = (q : Int)) (k : xi_X S P (q, L, r, m) res) : xi_X S P (pc, L, .int x :: r, m) res :=
  xr_go hp (fun K hK => show (bif (ps.toList.zip (ps.toList.drop 1)).all (fun (a, next) => a.1 < next.1) then xi_lk _ x d ps.toList else none) = _ by rw [hb]; show xi_lk _ x d ps.toList = _; rw [hs, xi_to_eq hq]; exact hK _ k)
theorem xr_getI {x a ci j : Nat} (hp : P.1 pc = some (.getfield x, 3)) (hf : P.2.1 x = some (ci, j, 0)) (hk : S.1 a = ci + 3) (hq : pc + 3 = q) (k : xi_X S P (q, L, .int (m.1 a j) :: r, m) res) : xi_X S P (pc, L, .ref a :: r, m) res := by
  subst hq
  exact xr_go hp (fun K hK => show (P.2.1 x).bind _ = _ by rw [hf]; show (if S.1 a = ci + 3 then K _ else none) = _; rw [if_pos hk]; exact hK _ k)
theorem xr_getZ {x a ci j : Nat} (hp : P.1 pc = some (.getfield x, 3)) (hf : P.2.1 x = some (ci, j, 1)) (hk : S.1 a = ci + 3) (hq : pc + 3 = q) (k : xi_X S P (q, L, .int (m.1 a j) :: r, m) res) : xi_X S P (pc, L, .ref a :: r, m) res := by
  subst hq
  exact xr_go hp (fun K hK => show (P.2.1 x).bind _ = _ by rw [hf]; show (if S.1 a = ci + 3 then K _ else none) = _; rw [if_pos hk]; exact hK _ k)
theorem xr_getJ {x a ci j : Nat} (hp : P.1 pc = some (.getfield x, 3)) (hf : P.2.1 x = some (ci, j, 2)) (hk : S.1 a = ci + 3) (hq : pc + 3 = q) (k : xi_X S P (q, L, .long (m.2 a j) :: r, m) res) : xi_X S P (pc, L, .ref a :: r, m) res := by
  subst hq
  exact xr_go hp (fun K hK => show (P.2.1 x).bind _ = _ by rw [hf]; show (if S.1 a = ci + 3 then K _ else none) = _; rw [if_pos hk]; exact hK _ k)
theorem xr_getR {x a b ci j : Nat} (hp : P.1 pc = some (.getfield x, 3)) (hf : P.2.1 x = some (ci, j, 3)) (hk : S.1 a = ci + 3) (hb : S.2.2 a j = some b) (hq : pc + 3 = q) (k : xi_X S P (q, L, .ref b :: r, m) res) : xi_X S P (pc, L, .ref a :: r, m) res := by
  subst hq
  exact xr_go hp (fun K hK => show (P.2.1 x).bind _ = _ by rw [hf]; show (if S.1 a = ci + 3 then (S.2.2 a j).bind _ else none) = _; rw [if_pos hk, hb]; exact hK _ k)
theorem xr_putI {x a ci j : Nat} {v : Int32} (hp : P.1 pc = some (.putfield x, 3)) (hf : P.2.1 x = some (ci, j, 0)) (hk : S.1 a = ci + 3) (hq : pc + 3 = q) (k : xi_X S P (q, L, r, xi_wI m a j v) res) : xi_X S P (pc, L, .int v :: .ref a :: r, m) res := by
  subst hq
  exact xr_go hp (fun K hK => show (P.2.1 x).bind _ = _ by rw [hf]; show (if S.1 a = ci + 3 then K _ else none) = _; rw [if_pos hk]; exact hK _ k)
theorem xr_putZ {x a ci j : Nat} {v : Int32} (hp : P.1 pc = some (.putfield x, 3)) (hf : P.2.1 x = some (ci, j, 1)) (hk : S.1 a = ci + 3 ∧ (v = 0 ∨ v = 1)) (hq : pc + 3 = q) (k : xi_X S P (q, L, r, xi_wI m a j v) res) : xi_X S P (pc, L, .int v :: .ref a :: r, m) res := by
  subst hq
  exact xr_go hp (fun K hK => show (P.2.1 x).bind _ = _ by rw [hf]; show (if S.1 a = ci + 3 ∧ (v = 0 ∨ v = 1) then K _ else none) = _; rw [if_pos hk]; exact hK _ k)
theorem xr_putJ {x a ci j : Nat} {v : Int64} (hp : P.1 pc = some (.putfield x, 3)) (hf : P.2.1 x = some (ci, j, 2)) (hk : S.1 a = ci + 3) (hq : pc + 3 = q) (k : xi_X S P (q, L, r, xi_wJ m a j v) res) : xi_X S P (pc, L, .long v :: .ref a :: r, m) res := by
  subst hq
  exact xr_go hp (fun K hK => show (P.2.1 x).bind _ = _ by rw [hf]; show (if S.1 a = ci + 3 then K _ else none) = _; rw [if_pos hk]; exact hK _ k)
theorem xr_iaload {a : Nat} {i : Int32} (hp : P.1 pc = some (.iaload, 1)) (hk : S.1 a = 0 ∧ ¬ (i < 0 ∨ S.2.1 a ≤ i.toNatClampNeg)) (hq : pc + 1 = q) (k : xi_X S P (q, L, .int (m.1 a i.toNatClampNeg) :: r, m) res) : xi_X S P (pc, L, .int i :: .ref a :: r, m) res := by
  subst hq
  exact xr_go hp (fun K hK => show (if S.1 a = 0 ∧ ¬ (i < 0 ∨ S.2.1 a ≤ i.toNatClampNeg) then K _ else none) = _ by rw [if_pos hk]; exact hK _ k)
theorem xr_iastore {a : Nat} {i v : Int32} (hp : P.1 pc = some (.iastore, 1)) (hk : S.1 a = 0 ∧ ¬ (i < 0 ∨ S.2.1 a ≤ i.toNatClampNeg)) (hq : pc + 1 = q) (k : xi_X S P (q, L, r, xi_wI m a i.toNatClampNeg v) res) : xi_X S P (pc, L, .int v :: .int i :: .ref a :: r, m) res := by
  subst hq
  exact xr_go hp (fun K hK => show (if S.1 a = 0 ∧ ¬ (i < 0 ∨ S.2.1 a ≤ i.toNatClampNeg) then K _ else none) = _ by rw [if_pos hk]; exact hK _ k)
theorem xr_aaload {a b : Nat} {i : Int32} (hp : P.1 pc = some (.aaload, 1)) (hk : (S.1 a = 1 ∨ S.1 a = 2) ∧ ¬ (i < 0 ∨ S.2.1 a ≤ i.toNatClampNeg)) (hb : S.2.2 a i.toNatClampNeg = some b) (hq : pc + 1 = q) (k : xi_X S P (q, L, .ref b :: r, m) res) : xi_X S P (pc, L, .int i :: .ref a :: r, m) res := by
  subst hq
  exact xr_go hp (fun K hK => show (if (S.1 a = 1 ∨ S.1 a = 2) ∧ ¬ (i < 0 ∨ S.2.1 a ≤ i.toNatClampNeg) then (S.2.2 a i.toNatClampNeg).bind _ else none) = _ by rw [if_pos hk, hb]; exact hK _ k)
theorem xr_alen {a : Nat} (hp : P.1 pc = some (.arraylength, 1)) (hk : S.1 a = 0 ∨ S.1 a = 1 ∨ S.1 a = 2) (hq : pc + 1 = q) (k : xi_X S P (q, L, .int (Int32.ofNat (S.2.1 a)) :: r, m) res) : xi_X S P (pc, L, .ref a :: r, m) res := by
  subst hq
  exact xr_go hp (fun K hK => show (if S.1 a = 0 ∨ S.1 a = 1 ∨ S.1 a = 2 then K _ else none) = _ by rw [if_pos hk]; exact hK _ k)
theorem xr_SV {st As rest : List Value} {x n : Nat} {m2 : xi_M}  (hp : P.1 pc = some (.invokestatic x, 3)) (hn : P.2.2.2.2.1 x = some (n, 0)) (hb : (Nat.ble n st.length && Nat.ble (xi_cs (st.drop n)) 8) = true) (hA : (st.take n).reverse = As) (hR : st.drop n = rest) (hc : P.2.2.2.2.2.2.1 x As m = some (none, m2)) (hq : pc + 3 = q) (k : xi_X S P (q, L, rest, m2) res) : xi_X S P (pc, L, st, m) res := by
  subst hq hA hR
  exact xr_go hp (fun K hK => show (P.2.2.2.2.1 x).bind _ = _ by rw [hn]; show (bif Nat.ble n st.length && Nat.ble (xi_cs (st.drop n)) 8 then xi_an 0 (P.2.2.2.2.2.2.1 x (st.take n).reverse m) (st.drop n) _ else none) = _; rw [hb, hc]; exact hK _ k)
theorem xr_SI {st As rest : List Value} {x n : Nat} {m2 : xi_M} {v : Int32} (hp : P.1 pc = some (.invokestatic x, 3)) (hn : P.2.2.2.2.1 x = some (n, 1)) (hb : (Nat.ble n st.length && Nat.ble (xi_cs (st.drop n)) 8) = true) (hA : (st.take n).reverse = As) (hR : st.drop n = rest) (hc : P.2.2.2.2.2.2.1 x As m = some (some (.int v), m2)) (hq : pc + 3 = q) (k : xi_X S P (q, L, .int v :: rest, m2) res) : xi_X S P (pc, L, st, m) res := by
  subst hq hA hR
  exact xr_go hp (fun K hK => show (P.2.2.2.2.1 x).bind _ = _ by rw [hn]; show (bif Nat.ble n st.length && Nat.ble (xi_cs (st.drop n)) 8 then xi_an 1 (P.2.2.2.2.2.2.1 x (st.take n).reverse m) (st.drop n) _ else none) = _; rw [hb, hc]; exact hK _ k)
theorem xr_SJ {st As rest : List Value} {x n : Nat} {m2 : xi_M} {v : Int64} (hp : P.1 pc = some (.invokestatic x, 3)) (hn : P.2.2.2.2.1 x = some (n, 2)) (hb : (Nat.ble n st.length && Nat.ble (xi_cs (st.drop n)) 8) = true) (hA : (st.take n).reverse = As) (hR : st.drop n = rest) (hc : P.2.2.2.2.2.2.1 x As m = some (some (.long v), m2)) (hq : pc + 3 = q) (k : xi_X S P (q, L, .long v :: rest, m2) res) : xi_X S P (pc, L, st, m) res := by
  subst hq hA hR
  exact xr_go hp (fun K hK => show (P.2.2.2.2.1 x).bind _ = _ by rw [hn]; show (bif Nat.ble n st.length && Nat.ble (xi_cs (st.drop n)) 8 then xi_an 2 (P.2.2.2.2.2.2.1 x (st.take n).reverse m) (st.drop n) _ else none) = _; rw [hb, hc]; exact hK _ k)
theorem xr_VV {st As rest : List Value} {x n : Nat} {m2 : xi_M}  (hp : P.1 pc = some (.invokevirtual x, 3)) (hn : P.2.2.2.2.2.1 x = some (n, 0)) (hb : (Nat.ble n st.length && Nat.ble (xi_cs (st.drop n)) 8) = true) (hA : (st.take n).reverse = As) (hR : st.drop n = rest) (hc : P.2.2.2.2.2.2.2.1 x As m = some (none, m2)) (hq : pc + 3 = q) (k : xi_X S P (q, L, rest, m2) res) : xi_X S P (pc, L, st, m) res := by
  subst hq hA hR
  exact xr_go hp (fun K hK => show (P.2.2.2.2.2.1 x).bind _ = _ by rw [hn]; show (bif Nat.ble n st.length && Nat.ble (xi_cs (st.drop n)) 8 then xi_an 0 (P.2.2.2.2.2.2.2.1 x (st.take n).reverse m) (st.drop n) _ else none) = _; rw [hb, hc]; exact hK _ k)
theorem xr_VI {st As rest : List Value} {x n : Nat} {m2 : xi_M} {v : Int32} (hp : P.1 pc = some (.invokevirtual x, 3)) (hn : P.2.2.2.2.2.1 x = some (n, 1)) (hb : (Nat.ble n st.length && Nat.ble (xi_cs (st.drop n)) 8) = true) (hA : (st.take n).reverse = As) (hR : st.drop n = rest) (hc : P.2.2.2.2.2.2.2.1 x As m = some (some (.int v), m2)) (hq : pc + 3 = q) (k : xi_X S P (q, L, .int v :: rest, m2) res) : xi_X S P (pc, L, st, m) res := by
  subst hq hA hR
  exact xr_go hp (fun K hK => show (P.2.2.2.2.2.1 x).bind _ = _ by rw [hn]; show (bif Nat.ble n st.length && Nat.ble (xi_cs (st.drop n)) 8 then xi_an 1 (P.2.2.2.2.2.2.2.1 x (st.take n).reverse m) (st.drop n) _ else none) = _; rw [hb, hc]; exact hK _ k)
theorem xr_VJ {st As rest : List Value} {x n : Nat} {m2 : xi_M} {v : Int64} (hp : P.1 pc = some (.invokevirtual x, 3)) (hn : P.2.2.2.2.2.1 x = some (n, 2)) (hb : (Nat.ble n st.length && Nat.ble (xi_cs (st.drop n)) 8) = true) (hA : (st.take n).reverse = As) (hR : st.drop n = rest) (hc : P.2.2.2.2.2.2.2.1 x As m = some (some (.long v), m2)) (hq : pc + 3 = q) (k : xi_X S P (q, L, .long v :: rest, m2) res) : xi_X S P (pc, L, st, m) res := by
  subst hq hA hR
  exact xr_go hp (fun K hK => show (P.2.2.2.2.2.1 x).bind _ = _ by rw [hn]; show (bif Nat.ble n st.length && Nat.ble (xi_cs (st.drop n)) 8 then xi_an 2 (P.2.2.2.2.2.2.2.1 x (st.take n).reverse m) (st.drop n) _ else none) = _; rw [hb, hc]; exact hK _ k)
theorem xr_ireturn {v : Int32} (hp : P.1 pc = some (.ireturn, 1)) (hr : P.2.2.2.2.2.2.2.2 = 1) (h : some (some (.int v), m) = some res) : xi_X S P (pc, L, [.int v], m) res :=
  xr_go hp (fun K hK => by unfold xi_op; dsimp only; rw [hr]; exact h)
theorem xr_zreturn {v : Int32} (hp : P.1 pc = some (.ireturn, 1)) (hr : P.2.2.2.2.2.2.2.2 = 2) (h : (if v = 0 ∨ v = 1 then some (some (.int v), m) else none) = some res) : xi_X S P (pc, L, [.int v], m) res :=
  xr_go hp (fun K hK => by unfold xi_op; dsimp only; rw [hr]; exact h)
theorem xr_lreturn {v : Int64} (hp : P.1 pc = some (.lreturn, 1)) (hr : P.2.2.2.2.2.2.2.2 = 3) (h : some (some (.long v), m) = some res) : xi_X S P (pc, L, [.long v], m) res :=
  xr_go hp (fun K hK => by unfold xi_op; dsimp only; rw [hr]; exact h)
theorem xr_return (hp : P.1 pc = some (.return_, 1)) (hr : P.2.2.2.2.2.2.2.2 = 0) (h : some (none, m) = some res) : xi_X S P (pc, L, [], m) res :=
  xr_go hp (fun K hK => by unfold xi_op; dsimp only; rw [hr]; exact h)
end XR
theorem xi_calls_ok {l : Launch} {E : xi_E} {S : xi_S} {D : va_G} {tys : List (ClassId × FieldType)} {own : String} {cc : ByteArray} {nL d : Nat} {l0 : List (Nat × xi_F)} {ins : Nat → Instr} (h : ∀ q ∈ l0, ∀ As m1 r m2, q.2 As m1 = some (r, m2) → xi_Cal l E S D vwCl tys xNs own xTs cc nL d (ins q.1) As m1 r m2) : ∀ x As m1 r m2, xi_calls l0 x As m1 = some (r, m2) → xi_Cal l E S D vwCl tys xNs own xTs cc nL d (ins x) As m1 r m2 := fun x As m1 r m2 hc => by
  obtain ⟨f, h1, h2⟩ := xi_calls_mem hc
  exact h (x, f) h1 As m1 r m2 h2
theorem xi_calls_hit {q : Nat × xi_F} {t : List (Nat × xi_F)} {x : Nat} {As : List Value} {m : xi_M} (h : Nat.beq q.1 x = true) : xi_calls (q :: t) x As m = q.2 As m := by
  rw [xi_calls, h]
  rfl
theorem xi_calls_miss {q : Nat × xi_F} {t : List (Nat × xi_F)} {x : Nat} {As : List Value} {m : xi_M} (h : Nat.beq q.1 x = false) : xi_calls (q :: t) x As m = xi_calls t x As m := by
  rw [xi_calls, h]
  rfl
theorem xi_wS_eq {n : Nat} {f : xi_F} {As : List Value} {m : xi_M} (h : Nat.beq As.length n = true) : xi_wS n f As m = f As m := by
  rw [xi_wS, h]
  rfl
theorem xi_wV_eq {S : xi_S} {k n b : Nat} {f : xi_F} {t : List Value} {m : xi_M} (h : Nat.beq t.length n = true) : xi_wV S k n f (.ref b :: t) m = if S.1 b = k then f (.ref b :: t) m else none := by
  show (bif Nat.beq t.length n then (if S.1 b = k then f (.ref b :: t) m else none) else none) = _
  rw [h]
  rfl
def xCx (E : xi_E) (S : xi_S) (tys : List (ClassId × FieldType)) : Prop := xi_Eok E S vwCl tys ∧ E.2.2.1 = xft
def F_arraycopy (S : xi_S) : xi_F := fun As m => match As with
  | [.ref a, .int sp, .ref b, .int dp, .int n] => if S.1 a = 0 ∧ S.1 b = 0 ∧ ¬ sp < 0 ∧ ¬ dp < 0 ∧ ¬ n < 0 ∧ sp.toNatClampNeg + n.toNatClampNeg ≤ S.2.1 a ∧ dp.toNatClampNeg + n.toNatClampNeg ≤ S.2.1 b then some (none, (fun c => if c = b then va_cpy (m.1 a) (m.1 b) sp.toNatClampNeg dp.toNatClampNeg n.toNatClampNeg else m.1 c, m.2)) else none
  | _ => none
theorem xc_X8_99 {l : Launch} {E : xi_E} {S : xi_S} {D : va_G} {tys : List (ClassId × FieldType)} {cc : ByteArray} {nL d : Nat} (hE : xi_Eok E S vwCl tys) (hd : 1 ≤ d) : ∀ As m1 r m2, xi_wS 5 (F_arraycopy S) As m1 = some (r, m2) → xi_Cal l E S D vwCl tys xNs RX8 xTs cc nL d (.invokestatic 99) As m1 r m2 := fun As m1 r m2 h => by
  obtain ⟨hl, h⟩ := xi_wS_some h
  unfold F_arraycopy at h
  split at h
  · obtain ⟨⟨h1, h2, h3, h4, h5, h6, h7⟩, h⟩ := xi_if_some h
    cases h
    exact xi_callA hE h1 h2 h3 h4 h5 h6 h7 (xw_in 331 (by decide +kernel) rfl) (xw_in 333 (by decide +kernel) rfl) (xw_in 332 (by decide +kernel) rfl) (xw_in 62 (by decide +kernel) rfl) hd
  · cases h
theorem xc_X6_61 {l : Launch} {E : xi_E} {S : xi_S} {D : va_G} {tys : List (ClassId × FieldType)} {cc : ByteArray} {nL d : Nat} (hE : xi_Eok E S vwCl tys) (hd : 1 ≤ d) : ∀ As m1 r m2, xi_wS 5 (F_arraycopy S) As m1 = some (r, m2) → xi_Cal l E S D vwCl tys xNs RX6 xTs cc nL d (.invokestatic 61) As m1 r m2 := fun As m1 r m2 h => by
  obtain ⟨hl, h⟩ := xi_wS_some h
  unfold F_arraycopy at h
  split at h
  · obtain ⟨⟨h1, h2, h3, h4, h5, h6, h7⟩, h⟩ := xi_if_some h
    cases h
    exact xi_callA hE h1 h2 h3 h4 h5 h6 h7 (xw_in 418 (by decide +kernel) rfl) (xw_in 333 (by decide +kernel) rfl) (xw_in 332 (by decide +kernel) rfl) (xw_in 62 (by decide +kernel) rfl) hd
  · cases h
theorem xc_X2_18 {l : Launch} {E : xi_E} {S : xi_S} {D : va_G} {tys : List (ClassId × FieldType)} {cc : ByteArray} {nL d : Nat} (hE : xi_Eok E S vwCl tys) (hd : 1 ≤ d) : ∀ As m1 r m2, xi_wS 5 (F_arraycopy S) As m1 = some (r, m2) → xi_Cal l E S D vwCl tys xNs RX2 xTs cc nL d (.invokestatic 18) As m1 r m2 := fun As m1 r m2 h => by
  obtain ⟨hl, h⟩ := xi_wS_some h
  unfold F_arraycopy at h
  split at h
  · obtain ⟨⟨h1, h2, h3, h4, h5, h6, h7⟩, h⟩ := xi_if_some h
    cases h
    exact xi_callA hE h1 h2 h3 h4 h5 h6 h7 (xw_in 739 (by decide +kernel) rfl) (xw_in 333 (by decide +kernel) rfl) (xw_in 332 (by decide +kernel) rfl) (xw_in 62 (by decide +kernel) rfl) hd
  · cases h
def E_J9_abs_0f7a4 (_ : xi_S) (v0 : Int32) (m : xi_M) : Option xi_R := some (some (.int (if 0 ≤ v0 then v0 else 0 - v0)), m)
def F_J9_abs_0f7a4 (S : xi_S) : xi_F := fun As m => match As with
  | [.int v0] => E_J9_abs_0f7a4 S v0 m
  | _ => none
theorem xm_X8_154 {l : Launch} {E : xi_E} {S : xi_S} {D : va_G} {tys : List (ClassId × FieldType)} {cc : ByteArray} {nL d : Nat} (hd : 1 ≤ d) : ∀ As m1 r m2, xi_wS 1 (F_J9_abs_0f7a4 S) As m1 = some (r, m2) → xi_Cal l E S D vwCl tys xNs RX8 xTs cc nL d (.invokestatic 154) As m1 r m2 := fun As m1 r m2 h => by
  obtain ⟨hl, h⟩ := xi_wS_some h
  unfold F_J9_abs_0f7a4 at h
  split at h
  · unfold E_J9_abs_0f7a4 at h
    cases h
    intro p e R s m args below meth c H locs Q pc ls rest hF hK hd1 hd2 hls hcs hdg hP hS kk
    obtain ⟨hx, hb, hml, hown, ht⟩ := hF
    unfold xi_cs at hcs
    exact va_mabs (rest := rest) hx hb (hml.trans hls.symm) hown (ht _ (xw_in 483 (by decide +kernel) rfl)) (ht _ (xw_in 484 (by decide +kernel) rfl)) (ht _ (xw_in 65 (by decide +kernel) rfl)) (ht _ (xw_in 485 (by decide +kernel) rfl)) (by omega) (by omega) (Nat.zero_le _) (Nat.zero_le _) hdg (kk H locs hP hS)
  · cases h
theorem xm_X6_119 {l : Launch} {E : xi_E} {S : xi_S} {D : va_G} {tys : List (ClassId × FieldType)} {cc : ByteArray} {nL d : Nat} (hd : 1 ≤ d) : ∀ As m1 r m2, xi_wS 1 (F_J9_abs_0f7a4 S) As m1 = some (r, m2) → xi_Cal l E S D vwCl tys xNs RX6 xTs cc nL d (.invokestatic 119) As m1 r m2 := fun As m1 r m2 h => by
  obtain ⟨hl, h⟩ := xi_wS_some h
  unfold F_J9_abs_0f7a4 at h
  split at h
  · unfold E_J9_abs_0f7a4 at h
    cases h
    intro p e R s m args below meth c H locs Q pc ls rest hF hK hd1 hd2 hls hcs hdg hP hS kk
    obtain ⟨hx, hb, hml, hown, ht⟩ := hF
    unfold xi_cs at hcs
    exact va_mabs (rest := rest) hx hb (hml.trans hls.symm) hown (ht _ (xw_in 538 (by decide +kernel) rfl)) (ht _ (xw_in 484 (by decide +kernel) rfl)) (ht _ (xw_in 65 (by decide +kernel) rfl)) (ht _ (xw_in 485 (by decide +kernel) rfl)) (by omega) (by omega) (Nat.zero_le _) (Nat.zero_le _) hdg (kk H locs hP hS)
  · cases h
theorem xm_X0_40 {l : Launch} {E : xi_E} {S : xi_S} {D : va_G} {tys : List (ClassId × FieldType)} {cc : ByteArray} {nL d : Nat} (hd : 1 ≤ d) : ∀ As m1 r m2, xi_wS 1 (F_J9_abs_0f7a4 S) As m1 = some (r, m2) → xi_Cal l E S D vwCl tys xNs RX0 xTs cc nL d (.invokestatic 40) As m1 r m2 := fun As m1 r m2 h => by
  obtain ⟨hl, h⟩ := xi_wS_some h
  unfold F_J9_abs_0f7a4 at h
  split at h
  · unfold E_J9_abs_0f7a4 at h
    cases h
    intro p e R s m args below meth c H locs Q pc ls rest hF hK hd1 hd2 hls hcs hdg hP hS kk
    obtain ⟨hx, hb, hml, hown, ht⟩ := hF
    unfold xi_cs at hcs
    exact va_mabs (rest := rest) hx hb (hml.trans hls.symm) hown (ht _ (xw_in 641 (by decide +kernel) rfl)) (ht _ (xw_in 484 (by decide +kernel) rfl)) (ht _ (xw_in 65 (by decide +kernel) rfl)) (ht _ (xw_in 485 (by decide +kernel) rfl)) (by omega) (by omega) (Nat.zero_le _) (Nat.zero_le _) hdg (kk H locs hP hS)
  · cases h
def E_J9_max_7cf53 (_ : xi_S) (v0 v1 : Int32) (m : xi_M) : Option xi_R := some (some (.int (if v0 < v1 then v1 else v0)), m)
def F_J9_max_7cf53 (S : xi_S) : xi_F := fun As m => match As with
  | [.int v0, .int v1] => E_J9_max_7cf53 S v0 v1 m
  | _ => none
theorem xm_X4_21 {l : Launch} {E : xi_E} {S : xi_S} {D : va_G} {tys : List (ClassId × FieldType)} {cc : ByteArray} {nL d : Nat} (hd : 1 ≤ d) : ∀ As m1 r m2, xi_wS 2 (F_J9_max_7cf53 S) As m1 = some (r, m2) → xi_Cal l E S D vwCl tys xNs RX4 xTs cc nL d (.invokestatic 21) As m1 r m2 := fun As m1 r m2 h => by
  obtain ⟨hl, h⟩ := xi_wS_some h
  unfold F_J9_max_7cf53 at h
  split at h
  · unfold E_J9_max_7cf53 at h
    cases h
    intro p e R s m args below meth c H locs Q pc ls rest hF hK hd1 hd2 hls hcs hdg hP hS kk
    obtain ⟨hx, hb, hml, hown, ht⟩ := hF
    unfold xi_cs at hcs
    exact va_mmax (rest := rest) hx hb (hml.trans hls.symm) hown (ht _ (xw_in 445 (by decide +kernel) rfl)) (ht _ (xw_in 446 (by decide +kernel) rfl)) (ht _ (xw_in 65 (by decide +kernel) rfl)) (ht _ (xw_in 447 (by decide +kernel) rfl)) (by omega) (by omega) (Nat.zero_le _) (Nat.zero_le _) hdg (kk H locs hP hS)
  · cases h
theorem xm_X6_85 {l : Launch} {E : xi_E} {S : xi_S} {D : va_G} {tys : List (ClassId × FieldType)} {cc : ByteArray} {nL d : Nat} (hd : 1 ≤ d) : ∀ As m1 r m2, xi_wS 2 (F_J9_max_7cf53 S) As m1 = some (r, m2) → xi_Cal l E S D vwCl tys xNs RX6 xTs cc nL d (.invokestatic 85) As m1 r m2 := fun As m1 r m2 h => by
  obtain ⟨hl, h⟩ := xi_wS_some h
  unfold F_J9_max_7cf53 at h
  split at h
  · unfold E_J9_max_7cf53 at h
    cases h
    intro p e R s m args below meth c H locs Q pc ls rest hF hK hd1 hd2 hls hcs hdg hP hS kk
    obtain ⟨hx, hb, hml, hown, ht⟩ := hF
    unfold xi_cs at hcs
    exact va_mmax (rest := rest) hx hb (hml.trans hls.symm) hown (ht _ (xw_in 475 (by decide +kernel) rfl)) (ht _ (xw_in 446 (by decide +kernel) rfl)) (ht _ (xw_in 65 (by decide +kernel) rfl)) (ht _ (xw_in 447 (by decide +kernel) rfl)) (by omega) (by omega) (Nat.zero_le _) (Nat.zero_le _) hdg (kk H locs hP hS)
  · cases h
theorem xm_X3_57 {l : Launch} {E : xi_E} {S : xi_S} {D : va_G} {tys : List (ClassId × FieldType)} {cc : ByteArray} {nL d : Nat} (hd : 1 ≤ d) : ∀ As m1 r m2, xi_wS 2 (F_J9_max_7cf53 S) As m1 = some (r, m2) → xi_Cal l E S D vwCl tys xNs RX3 xTs cc nL d (.invokestatic 57) As m1 r m2 := fun As m1 r m2 h => by
  obtain ⟨hl, h⟩ := xi_wS_some h
  unfold F_J9_max_7cf53 at h
  split at h
  · unfold E_J9_max_7cf53 at h
    cases h
    intro p e R s m args below meth c H locs Q pc ls rest hF hK hd1 hd2 hls hcs hdg hP hS kk
    obtain ⟨hx, hb, hml, hown, ht⟩ := hF
    unfold xi_cs at hcs
    exact va_mmax (rest := rest) hx hb (hml.trans hls.symm) hown (ht _ (xw_in 701 (by decide +kernel) rfl)) (ht _ (xw_in 446 (by decide +kernel) rfl)) (ht _ (xw_in 65 (by decide +kernel) rfl)) (ht _ (xw_in 447 (by decide +kernel) rfl)) (by omega) (by omega) (Nat.zero_le _) (Nat.zero_le _) hdg (kk H locs hP hS)
  · cases h
theorem xm_X2_44 {l : Launch} {E : xi_E} {S : xi_S} {D : va_G} {tys : List (ClassId × FieldType)} {cc : ByteArray} {nL d : Nat} (hd : 1 ≤ d) : ∀ As m1 r m2, xi_wS 2 (F_J9_max_7cf53 S) As m1 = some (r, m2) → xi_Cal l E S D vwCl tys xNs RX2 xTs cc nL d (.invokestatic 44) As m1 r m2 := fun As m1 r m2 h => by
  obtain ⟨hl, h⟩ := xi_wS_some h
  unfold F_J9_max_7cf53 at h
  split at h
  · unfold E_J9_max_7cf53 at h
    cases h
    intro p e R s m args below meth c H locs Q pc ls rest hF hK hd1 hd2 hls hcs hdg hP hS kk
    obtain ⟨hx, hb, hml, hown, ht⟩ := hF
    unfold xi_cs at hcs
    exact va_mmax (rest := rest) hx hb (hml.trans hls.symm) hown (ht _ (xw_in 746 (by decide +kernel) rfl)) (ht _ (xw_in 446 (by decide +kernel) rfl)) (ht _ (xw_in 65 (by decide +kernel) rfl)) (ht _ (xw_in 447 (by decide +kernel) rfl)) (by omega) (by omega) (Nat.zero_le _) (Nat.zero_le _) hdg (kk H locs hP hS)
  · cases h
def E_J9_min_7cf53 (_ : xi_S) (v0 v1 : Int32) (m : xi_M) : Option xi_R := some (some (.int (if v1 < v0 then v1 else v0)), m)
def F_J9_min_7cf53 (S : xi_S) : xi_F := fun As m => match As with
  | [.int v0, .int v1] => E_J9_min_7cf53 S v0 v1 m
  | _ => none
theorem xm_X4_15 {l : Launch} {E : xi_E} {S : xi_S} {D : va_G} {tys : List (ClassId × FieldType)} {cc : ByteArray} {nL d : Nat} (hd : 1 ≤ d) : ∀ As m1 r m2, xi_wS 2 (F_J9_min_7cf53 S) As m1 = some (r, m2) → xi_Cal l E S D vwCl tys xNs RX4 xTs cc nL d (.invokestatic 15) As m1 r m2 := fun As m1 r m2 h => by
  obtain ⟨hl, h⟩ := xi_wS_some h
  unfold F_J9_min_7cf53 at h
  split at h
  · unfold E_J9_min_7cf53 at h
    cases h
    intro p e R s m args below meth c H locs Q pc ls rest hF hK hd1 hd2 hls hcs hdg hP hS kk
    obtain ⟨hx, hb, hml, hown, ht⟩ := hF
    unfold xi_cs at hcs
    exact va_mmin (rest := rest) hx hb (hml.trans hls.symm) hown (ht _ (xw_in 442 (by decide +kernel) rfl)) (ht _ (xw_in 443 (by decide +kernel) rfl)) (ht _ (xw_in 65 (by decide +kernel) rfl)) (ht _ (xw_in 444 (by decide +kernel) rfl)) (by omega) (by omega) (Nat.zero_le _) (Nat.zero_le _) hdg (kk H locs hP hS)
  · cases h
theorem xm_X6_76 {l : Launch} {E : xi_E} {S : xi_S} {D : va_G} {tys : List (ClassId × FieldType)} {cc : ByteArray} {nL d : Nat} (hd : 1 ≤ d) : ∀ As m1 r m2, xi_wS 2 (F_J9_min_7cf53 S) As m1 = some (r, m2) → xi_Cal l E S D vwCl tys xNs RX6 xTs cc nL d (.invokestatic 76) As m1 r m2 := fun As m1 r m2 h => by
  obtain ⟨hl, h⟩ := xi_wS_some h
  unfold F_J9_min_7cf53 at h
  split at h
  · unfold E_J9_min_7cf53 at h
    cases h
    intro p e R s m args below meth c H locs Q pc ls rest hF hK hd1 hd2 hls hcs hdg hP hS kk
    obtain ⟨hx, hb, hml, hown, ht⟩ := hF
    unfold xi_cs at hcs
    exact va_mmin (rest := rest) hx hb (hml.trans hls.symm) hown (ht _ (xw_in 452 (by decide +kernel) rfl)) (ht _ (xw_in 443 (by decide +kernel) rfl)) (ht _ (xw_in 65 (by decide +kernel) rfl)) (ht _ (xw_in 444 (by decide +kernel) rfl)) (by omega) (by omega) (Nat.zero_le _) (Nat.zero_le _) hdg (kk H locs hP hS)
  · cases h
theorem xm_X2_24 {l : Launch} {E : xi_E} {S : xi_S} {D : va_G} {tys : List (ClassId × FieldType)} {cc : ByteArray} {nL d : Nat} (hd : 1 ≤ d) : ∀ As m1 r m2, xi_wS 2 (F_J9_min_7cf53 S) As m1 = some (r, m2) → xi_Cal l E S D vwCl tys xNs RX2 xTs cc nL d (.invokestatic 24) As m1 r m2 := fun As m1 r m2 h => by
  obtain ⟨hl, h⟩ := xi_wS_some h
  unfold F_J9_min_7cf53 at h
  split at h
  · unfold E_J9_min_7cf53 at h
    cases h
    intro p e R s m args below meth c H locs Q pc ls rest hF hK hd1 hd2 hls hcs hdg hP hS kk
    obtain ⟨hx, hb, hml, hown, ht⟩ := hF
    unfold xi_cs at hcs
    exact va_mmin (rest := rest) hx hb (hml.trans hls.symm) hown (ht _ (xw_in 740 (by decide +kernel) rfl)) (ht _ (xw_in 443 (by decide +kernel) rfl)) (ht _ (xw_in 65 (by decide +kernel) rfl)) (ht _ (xw_in 444 (by decide +kernel) rfl)) (by omega) (by omega) (Nat.zero_le _) (Nat.zero_le _) hdg (kk H locs hP hS)
  · cases h
end
section
theorem xfe_X0_11 : xi_tab xfl_X0 11 = some (0, 0, 3) := by decide +kernel
theorem xfe_X0_19 : xi_tab xfl_X0 19 = some (5, 5, 3) := by decide +kernel
theorem xfe_X0_52 : xi_tab xfl_X0 52 = some (0, 1, 0) := by decide +kernel
theorem xfe_X0_56 : xi_tab xfl_X0 56 = some (0, 2, 0) := by decide +kernel
theorem xcse_X0_15 : xi_tab xcs_X0 15 = some (4, 1) := by decide +kernel
theorem xcse_X0_24 : xi_tab xcs_X0 24 = some (1, 1) := by decide +kernel
theorem xcse_X0_28 : xi_tab xcs_X0 28 = some (1, 1) := by decide +kernel
theorem xcve_X0_31 : xi_tab xcv_X0 31 = some (2, 1) := by decide +kernel
theorem xcve_X0_34 : xi_tab xcv_X0 34 = some (4, 1) := by decide +kernel
theorem xcse_X0_40 : xi_tab xcs_X0 40 = some (1, 1) := by decide +kernel
theorem xcse_X0_45 : xi_tab xcs_X0 45 = some (1, 1) := by decide +kernel
theorem xcve_X0_48 : xi_tab xcv_X0 48 = some (5, 1) := by decide +kernel
theorem xfe_X1_9 : xi_tab xfl_X1 9 = some (1, 2, 3) := by decide +kernel
theorem xfe_X1_15 : xi_tab xfl_X1 15 = some (1, 3, 3) := by decide +kernel
theorem xfe_X1_18 : xi_tab xfl_X1 18 = some (1, 4, 3) := by decide +kernel
theorem xfe_X1_21 : xi_tab xfl_X1 21 = some (5, 0, 0) := by decide +kernel
theorem xfe_X1_27 : xi_tab xfl_X1 27 = some (1, 0, 0) := by decide +kernel
theorem xfe_X1_28 : xi_tab xfl_X1 28 = some (5, 1, 0) := by decide +kernel
theorem xfe_X1_31 : xi_tab xfl_X1 31 = some (1, 1, 0) := by decide +kernel
theorem xfe_X1_38 : xi_tab xfl_X1 38 = some (5, 8, 3) := by decide +kernel
theorem xcve_X1_34 : xi_tab xcv_X1 34 = some (2, 1) := by decide +kernel
theorem xcve_X1_41 : xi_tab xcv_X1 41 = some (3, 1) := by decide +kernel
theorem xcse_X1_45 : xi_tab xcs_X1 45 = some (3, 1) := by decide +kernel
theorem xfe_X2_9 : xi_tab xfl_X2 9 = some (2, 0, 3) := by decide +kernel
theorem xfe_X2_15 : xi_tab xfl_X2 15 = some (5, 5, 3) := by decide +kernel
theorem xcse_X2_18 : xi_tab xcs_X2 18 = some (5, 0) := by decide +kernel
theorem xcse_X2_24 : xi_tab xcs_X2 24 = some (2, 1) := by decide +kernel
theorem xcse_X2_30 : xi_tab xcs_X2 30 = some (6, 1) := by decide +kernel
theorem xcve_X2_34 : xi_tab xcv_X2 34 = some (4, 1) := by decide +kernel
theorem xcse_X2_44 : xi_tab xcs_X2 44 = some (2, 1) := by decide +kernel
theorem xcse_X2_40 : xi_tab xcs_X2 40 = some (3, 1) := by decide +kernel
theorem xfe_X3_9 : xi_tab xfl_X3 9 = some (3, 2, 3) := by decide +kernel
theorem xfe_X3_15 : xi_tab xfl_X3 15 = some (3, 0, 0) := by decide +kernel
theorem xfe_X3_19 : xi_tab xfl_X3 19 = some (3, 1, 0) := by decide +kernel
theorem xfe_X3_34 : xi_tab xfl_X3 34 = some (5, 0, 0) := by decide +kernel
theorem xfe_X3_49 : xi_tab xfl_X3 49 = some (6, 1, 0) := by decide +kernel
theorem xfe_X3_54 : xi_tab xfl_X3 54 = some (6, 2, 3) := by decide +kernel
theorem xcse_X3_22 : xi_tab xcs_X3 22 = some (2, 0) := by decide +kernel
theorem xcve_X3_28 : xi_tab xcv_X3 28 = some (2, 1) := by decide +kernel
theorem xcse_X3_41 : xi_tab xcs_X3 41 = some (2, 1) := by decide +kernel
theorem xcve_X3_45 : xi_tab xcv_X3 45 = some (4, 0) := by decide +kernel
theorem xcse_X3_57 : xi_tab xcs_X3 57 = some (2, 1) := by decide +kernel
theorem xcve_X3_63 : xi_tab xcv_X3 63 = some (2, 1) := by decide +kernel
theorem xcse_X3_37 : xi_tab xcs_X3 37 = some (3, 1) := by decide +kernel
theorem xcse_X4_11 : xi_tab xcs_X4 11 = some (2, 1) := by decide +kernel
theorem xcse_X4_15 : xi_tab xcs_X4 15 = some (2, 1) := by decide +kernel
theorem xcse_X4_21 : xi_tab xcs_X4 21 = some (2, 1) := by decide +kernel
theorem xfe_X5_9 : xi_tab xfl_X5 9 = some (4, 2, 0) := by decide +kernel
theorem xfe_X5_15 : xi_tab xfl_X5 15 = some (4, 0, 3) := by decide +kernel
theorem xfe_X5_46 : xi_tab xfl_X5 46 = some (5, 0, 0) := by decide +kernel
theorem xfe_X5_49 : xi_tab xfl_X5 49 = some (5, 5, 3) := by decide +kernel
theorem xfe_X5_57 : xi_tab xfl_X5 57 = some (4, 1, 0) := by decide +kernel
theorem xfe_X5_60 : xi_tab xfl_X5 60 = some (6, 1, 0) := by decide +kernel
theorem xfe_X5_65 : xi_tab xfl_X5 65 = some (6, 2, 3) := by decide +kernel
theorem xfe_X5_73 : xi_tab xfl_X5 73 = some (5, 7, 3) := by decide +kernel
theorem xfe_X5_76 : xi_tab xfl_X5 76 = some (5, 8, 3) := by decide +kernel
theorem xfe_X5_79 : xi_tab xfl_X5 79 = some (5, 9, 3) := by decide +kernel
theorem xfe_X5_82 : xi_tab xfl_X5 82 = some (5, 10, 3) := by decide +kernel
theorem xfe_X5_85 : xi_tab xfl_X5 85 = some (5, 1, 0) := by decide +kernel
theorem xcve_X5_19 : xi_tab xcv_X5 19 = some (1, 0) := by decide +kernel
theorem xcve_X5_24 : xi_tab xcv_X5 24 = some (2, 0) := by decide +kernel
theorem xcve_X5_28 : xi_tab xcv_X5 28 = some (3, 0) := by decide +kernel
theorem xcve_X5_32 : xi_tab xcv_X5 32 = some (3, 0) := by decide +kernel
theorem xcve_X5_35 : xi_tab xcv_X5 35 = some (1, 0) := by decide +kernel
theorem xcve_X5_38 : xi_tab xcv_X5 38 = some (2, 0) := by decide +kernel
theorem xcve_X5_42 : xi_tab xcv_X5 42 = some (3, 1) := by decide +kernel
theorem xcve_X5_53 : xi_tab xcv_X5 53 = some (2, 1) := by decide +kernel
theorem xcse_X5_68 : xi_tab xcs_X5 68 = some (1, 1) := by decide +kernel
theorem xfe_X6_9 : xi_tab xfl_X6 9 = some (5, 5, 3) := by decide +kernel
theorem xfe_X6_15 : xi_tab xfl_X6 15 = some (5, 6, 3) := by decide +kernel
theorem xfe_X6_18 : xi_tab xfl_X6 18 = some (5, 7, 3) := by decide +kernel
theorem xfe_X6_21 : xi_tab xfl_X6 21 = some (5, 8, 3) := by decide +kernel
theorem xfe_X6_24 : xi_tab xfl_X6 24 = some (5, 9, 3) := by decide +kernel
theorem xfe_X6_27 : xi_tab xfl_X6 27 = some (5, 10, 3) := by decide +kernel
theorem xfe_X6_30 : xi_tab xfl_X6 30 = some (5, 11, 3) := by decide +kernel
theorem xfe_X6_33 : xi_tab xfl_X6 33 = some (5, 12, 3) := by decide +kernel
theorem xfe_X6_36 : xi_tab xfl_X6 36 = some (5, 13, 3) := by decide +kernel
theorem xfe_X6_39 : xi_tab xfl_X6 39 = some (5, 0, 0) := by decide +kernel
theorem xfe_X6_43 : xi_tab xfl_X6 43 = some (5, 1, 0) := by decide +kernel
theorem xfe_X6_46 : xi_tab xfl_X6 46 = some (5, 2, 0) := by decide +kernel
theorem xfe_X6_49 : xi_tab xfl_X6 49 = some (5, 3, 0) := by decide +kernel
theorem xfe_X6_52 : xi_tab xfl_X6 52 = some (5, 4, 0) := by decide +kernel
theorem xkie_X6_91 : xi_tab xki_X6 91 = some 2097151 := by decide +kernel
theorem xcse_X6_55 : xi_tab xcs_X6 55 = some (2, 0) := by decide +kernel
theorem xcse_X6_61 : xi_tab xcs_X6 61 = some (5, 0) := by decide +kernel
theorem xcse_X6_67 : xi_tab xcs_X6 67 = some (4, 1) := by decide +kernel
theorem xcve_X6_73 : xi_tab xcv_X6 73 = some (2, 1) := by decide +kernel
theorem xcse_X6_76 : xi_tab xcs_X6 76 = some (2, 1) := by decide +kernel
theorem xcse_X6_82 : xi_tab xcs_X6 82 = some (2, 1) := by decide +kernel
theorem xcse_X6_85 : xi_tab xcs_X6 85 = some (2, 1) := by decide +kernel
theorem xcve_X6_92 : xi_tab xcv_X6 92 = some (2, 1) := by decide +kernel
theorem xcve_X6_99 : xi_tab xcv_X6 99 = some (2, 1) := by decide +kernel
theorem xcve_X6_102 : xi_tab xcv_X6 102 = some (3, 1) := by decide +kernel
theorem xcve_X6_105 : xi_tab xcv_X6 105 = some (2, 1) := by decide +kernel
theorem xcve_X6_108 : xi_tab xcv_X6 108 = some (2, 1) := by decide +kernel
theorem xcve_X6_111 : xi_tab xcv_X6 111 = some (2, 1) := by decide +kernel
theorem xcse_X6_114 : xi_tab xcs_X6 114 = some (1, 1) := by decide +kernel
theorem xcse_X6_119 : xi_tab xcs_X6 119 = some (1, 1) := by decide +kernel
theorem xcve_X6_122 : xi_tab xcv_X6 122 = some (2, 1) := by decide +kernel
theorem xcse_X6_125 : xi_tab xcs_X6 125 = some (2, 1) := by decide +kernel
theorem xcve_X6_129 : xi_tab xcv_X6 129 = some (4, 0) := by decide +kernel
theorem xcve_X6_133 : xi_tab xcv_X6 133 = some (3, 0) := by decide +kernel
theorem xcve_X6_137 : xi_tab xcv_X6 137 = some (4, 0) := by decide +kernel
theorem xcse_X6_88 : xi_tab xcs_X6 88 = some (2, 1) := by decide +kernel
theorem xcse_X6_95 : xi_tab xcs_X6 95 = some (3, 1) := by decide +kernel
theorem xfe_X7_9 : xi_tab xfl_X7 9 = some (6, 2, 3) := by decide +kernel
theorem xfe_X7_15 : xi_tab xfl_X7 15 = some (6, 0, 1) := by decide +kernel
theorem xfe_X7_19 : xi_tab xfl_X7 19 = some (6, 1, 0) := by decide +kernel
theorem xkle_X7_33 : xi_tab xkl_X7 33 = some 31 := by decide +kernel
theorem xcse_X7_23 : xi_tab xcs_X7 23 = some (2, 0) := by decide +kernel
theorem xcse_X7_29 : xi_tab xcs_X7 29 = some (2, 1) := by decide +kernel
theorem xfe_X8_11 : xi_tab xfl_X8 11 = some (7, 0, 3) := by decide +kernel
theorem xfe_X8_15 : xi_tab xfl_X8 15 = some (7, 1, 3) := by decide +kernel
theorem xfe_X8_21 : xi_tab xfl_X8 21 = some (7, 2, 3) := by decide +kernel
theorem xfe_X8_25 : xi_tab xfl_X8 25 = some (7, 3, 3) := by decide +kernel
theorem xfe_X8_28 : xi_tab xfl_X8 28 = some (7, 4, 3) := by decide +kernel
theorem xfe_X8_35 : xi_tab xfl_X8 35 = some (7, 5, 3) := by decide +kernel
theorem xfe_X8_42 : xi_tab xfl_X8 42 = some (7, 6, 3) := by decide +kernel
theorem xfe_X8_49 : xi_tab xfl_X8 49 = some (7, 7, 3) := by decide +kernel
theorem xfe_X8_56 : xi_tab xfl_X8 56 = some (7, 8, 3) := by decide +kernel
theorem xfe_X8_60 : xi_tab xfl_X8 60 = some (7, 9, 3) := by decide +kernel
theorem xfe_X8_64 : xi_tab xfl_X8 64 = some (7, 13, 2) := by decide +kernel
theorem xfe_X8_86 : xi_tab xfl_X8 86 = some (6, 2, 3) := by decide +kernel
theorem xfe_X8_92 : xi_tab xfl_X8 92 = some (6, 0, 1) := by decide +kernel
theorem xfe_X8_105 : xi_tab xfl_X8 105 = some (6, 1, 0) := by decide +kernel
theorem xfe_X8_129 : xi_tab xfl_X8 129 = some (5, 1, 0) := by decide +kernel
theorem xfe_X8_142 : xi_tab xfl_X8 142 = some (5, 7, 3) := by decide +kernel
theorem xfe_X8_151 : xi_tab xfl_X8 151 = some (5, 9, 3) := by decide +kernel
theorem xfe_X8_167 : xi_tab xfl_X8 167 = some (5, 8, 3) := by decide +kernel
theorem xfe_X8_176 : xi_tab xfl_X8 176 = some (5, 3, 0) := by decide +kernel
theorem xfe_X8_183 : xi_tab xfl_X8 183 = some (5, 4, 0) := by decide +kernel
theorem xfe_X8_192 : xi_tab xfl_X8 192 = some (5, 5, 3) := by decide +kernel
theorem xfe_X8_221 : xi_tab xfl_X8 221 = some (5, 6, 3) := by decide +kernel
theorem xfe_X8_248 : xi_tab xfl_X8 248 = some (3, 0, 0) := by decide +kernel
theorem xfe_X8_255 : xi_tab xfl_X8 255 = some (3, 1, 0) := by decide +kernel
theorem xfe_X8_271 : xi_tab xfl_X8 271 = some (5, 10, 3) := by decide +kernel
theorem xfe_X8_298 : xi_tab xfl_X8 298 = some (7, 11, 0) := by decide +kernel
theorem xfe_X8_301 : xi_tab xfl_X8 301 = some (7, 12, 2) := by decide +kernel
theorem xfe_X8_314 : xi_tab xfl_X8 314 = some (7, 10, 0) := by decide +kernel
theorem xkle_X8_289 : xi_tab xkl_X8 289 = some 12 := by decide +kernel
theorem xkle_X8_291 : xi_tab xkl_X8 291 = some 2147483647 := by decide +kernel
theorem xkle_X8_293 : xi_tab xkl_X8 293 = some 48271 := by decide +kernel
theorem xkle_X8_317 : xi_tab xkl_X8 317 = some 17 := by decide +kernel
theorem xkle_X8_319 : xi_tab xkl_X8 319 = some 31 := by decide +kernel
theorem xcse_X8_71 : xi_tab xcs_X8 71 = some (2, 1) := by decide +kernel
theorem xcve_X8_75 : xi_tab xcv_X8 75 = some (4, 1) := by decide +kernel
theorem xcve_X8_79 : xi_tab xcv_X8 79 = some (2, 1) := by decide +kernel
theorem xcve_X8_83 : xi_tab xcv_X8 83 = some (2, 1) := by decide +kernel
theorem xcve_X8_89 : xi_tab xcv_X8 89 = some (2, 1) := by decide +kernel
theorem xcve_X8_96 : xi_tab xcv_X8 96 = some (3, 1) := by decide +kernel
theorem xcse_X8_99 : xi_tab xcs_X8 99 = some (5, 0) := by decide +kernel
theorem xcve_X8_109 : xi_tab xcv_X8 109 = some (1, 2) := by decide +kernel
theorem xcve_X8_118 : xi_tab xcv_X8 118 = some (2, 1) := by decide +kernel
theorem xcve_X8_122 : xi_tab xcv_X8 122 = some (2, 0) := by decide +kernel
theorem xcve_X8_126 : xi_tab xcv_X8 126 = some (1, 0) := by decide +kernel
theorem xcve_X8_132 : xi_tab xcv_X8 132 = some (2, 1) := by decide +kernel
theorem xcve_X8_136 : xi_tab xcv_X8 136 = some (3, 1) := by decide +kernel
theorem xcse_X8_145 : xi_tab xcs_X8 145 = some (2, 1) := by decide +kernel
theorem xcve_X8_148 : xi_tab xcv_X8 148 = some (2, 1) := by decide +kernel
theorem xcse_X8_154 : xi_tab xcs_X8 154 = some (1, 1) := by decide +kernel
theorem xcve_X8_159 : xi_tab xcv_X8 159 = some (2, 1) := by decide +kernel
theorem xcse_X8_162 : xi_tab xcs_X8 162 = some (1, 1) := by decide +kernel
theorem xcve_X8_170 : xi_tab xcv_X8 170 = some (3, 1) := by decide +kernel
theorem xcve_X8_173 : xi_tab xcv_X8 173 = some (3, 1) := by decide +kernel
theorem xcve_X8_179 : xi_tab xcv_X8 179 = some (4, 1) := by decide +kernel
theorem xcve_X8_186 : xi_tab xcv_X8 186 = some (2, 1) := by decide +kernel
theorem xcve_X8_189 : xi_tab xcv_X8 189 = some (2, 0) := by decide +kernel
theorem xcse_X8_195 : xi_tab xcs_X8 195 = some (3, 1) := by decide +kernel
theorem xcve_X8_199 : xi_tab xcv_X8 199 = some (2, 1) := by decide +kernel
theorem xcve_X8_202 : xi_tab xcv_X8 202 = some (3, 0) := by decide +kernel
theorem xcve_X8_206 : xi_tab xcv_X8 206 = some (2, 0) := by decide +kernel
theorem xcve_X8_209 : xi_tab xcv_X8 209 = some (3, 0) := by decide +kernel
theorem xcve_X8_212 : xi_tab xcv_X8 212 = some (2, 1) := by decide +kernel
theorem xcve_X8_215 : xi_tab xcv_X8 215 = some (2, 1) := by decide +kernel
theorem xcve_X8_218 : xi_tab xcv_X8 218 = some (2, 1) := by decide +kernel
theorem xcve_X8_224 : xi_tab xcv_X8 224 = some (3, 1) := by decide +kernel
theorem xcve_X8_227 : xi_tab xcv_X8 227 = some (2, 0) := by decide +kernel
theorem xcve_X8_228 : xi_tab xcv_X8 228 = some (3, 0) := by decide +kernel
theorem xcve_X8_232 : xi_tab xcv_X8 232 = some (3, 1) := by decide +kernel
theorem xcve_X8_235 : xi_tab xcv_X8 235 = some (3, 0) := by decide +kernel
theorem xcve_X8_238 : xi_tab xcv_X8 238 = some (2, 0) := by decide +kernel
theorem xcve_X8_242 : xi_tab xcv_X8 242 = some (3, 1) := by decide +kernel
theorem xcve_X8_245 : xi_tab xcv_X8 245 = some (4, 0) := by decide +kernel
theorem xcve_X8_251 : xi_tab xcv_X8 251 = some (3, 0) := by decide +kernel
theorem xcve_X8_258 : xi_tab xcv_X8 258 = some (2, 1) := by decide +kernel
theorem xcve_X8_261 : xi_tab xcv_X8 261 = some (1, 1) := by decide +kernel
theorem xcve_X8_265 : xi_tab xcv_X8 265 = some (2, 1) := by decide +kernel
theorem xcve_X8_268 : xi_tab xcv_X8 268 = some (3, 1) := by decide +kernel
theorem xcse_X8_274 : xi_tab xcs_X8 274 = some (4, 1) := by decide +kernel
theorem xcve_X8_278 : xi_tab xcv_X8 278 = some (2, 1) := by decide +kernel
theorem xcve_X8_281 : xi_tab xcv_X8 281 = some (4, 1) := by decide +kernel
theorem xcve_X8_285 : xi_tab xcv_X8 285 = some (3, 2) := by decide +kernel
theorem xcve_X8_295 : xi_tab xcv_X8 295 = some (2, 0) := by decide +kernel
theorem xcse_X8_304 : xi_tab xcs_X8 304 = some (1, 1) := by decide +kernel
theorem xcve_X8_308 : xi_tab xcv_X8 308 = some (1, 1) := by decide +kernel
theorem xcve_X8_311 : xi_tab xcv_X8 311 = some (2, 1) := by decide +kernel
theorem xcve_X8_321 : xi_tab xcv_X8 321 = some (2, 1) := by decide +kernel
theorem xcve_X8_324 : xi_tab xcv_X8 324 = some (2, 2) := by decide +kernel
theorem xcse_X8_328 : xi_tab xcs_X8 328 = some (2, 1) := by decide +kernel
theorem xcve_X8_331 : xi_tab xcv_X8 331 = some (3, 1) := by decide +kernel
theorem xcse_X8_334 : xi_tab xcs_X8 334 = some (4, 1) := by decide +kernel
theorem xfe_X9_7 : xi_tab xfl_X9 7 = some (8, 0, 3) := by decide +kernel
theorem xfe_X9_13 : xi_tab xfl_X9 13 = some (8, 1, 3) := by decide +kernel
theorem xfe_X9_16 : xi_tab xfl_X9 16 = some (8, 2, 3) := by decide +kernel
theorem xfe_X9_19 : xi_tab xfl_X9 19 = some (8, 3, 3) := by decide +kernel
theorem xfe_X9_22 : xi_tab xfl_X9 22 = some (8, 4, 3) := by decide +kernel
theorem xfe_X9_25 : xi_tab xfl_X9 25 = some (8, 5, 3) := by decide +kernel
theorem xfe_X9_28 : xi_tab xfl_X9 28 = some (8, 6, 3) := by decide +kernel
theorem xfe_X9_31 : xi_tab xfl_X9 31 = some (8, 7, 3) := by decide +kernel
theorem xfe_X9_34 : xi_tab xfl_X9 34 = some (8, 8, 3) := by decide +kernel
theorem xfe_X9_37 : xi_tab xfl_X9 37 = some (8, 10, 3) := by decide +kernel
theorem xfe_X9_40 : xi_tab xfl_X9 40 = some (8, 11, 3) := by decide +kernel
theorem xfe_X9_43 : xi_tab xfl_X9 43 = some (8, 12, 3) := by decide +kernel
theorem xfe_X9_46 : xi_tab xfl_X9 46 = some (8, 14, 3) := by decide +kernel
theorem xfe_X9_49 : xi_tab xfl_X9 49 = some (8, 17, 2) := by decide +kernel
theorem xfe_X9_53 : xi_tab xfl_X9 53 = some (8, 20, 3) := by decide +kernel
theorem xfe_X9_56 : xi_tab xfl_X9 56 = some (8, 13, 0) := by decide +kernel
theorem xfe_X9_60 : xi_tab xfl_X9 60 = some (8, 15, 0) := by decide +kernel
theorem xfe_X9_84 : xi_tab xfl_X9 84 = some (8, 18, 0) := by decide +kernel
theorem xfe_X9_87 : xi_tab xfl_X9 87 = some (8, 19, 0) := by decide +kernel
theorem xfe_X9_125 : xi_tab xfl_X9 125 = some (8, 9, 0) := by decide +kernel
theorem xfe_X9_214 : xi_tab xfl_X9 214 = some (8, 16, 2) := by decide +kernel
theorem xkie_X9_217 : xi_tab xki_X9 217 = some 2097151 := by decide +kernel
theorem xkie_X9_245 : xi_tab xki_X9 245 = some 2147483646 := by decide +kernel
theorem xkle_X9_236 : xi_tab xkl_X9 236 = some 12 := by decide +kernel
theorem xkle_X9_246 : xi_tab xkl_X9 246 = some 48271 := by decide +kernel
theorem xkle_X9_248 : xi_tab xkl_X9 248 = some 2147483647 := by decide +kernel
theorem xkle_X9_254 : xi_tab xkl_X9 254 = some 8 := by decide +kernel
theorem xkle_X9_256 : xi_tab xkl_X9 256 = some 64 := by decide +kernel
theorem xkle_X9_258 : xi_tab xkl_X9 258 = some 4 := by decide +kernel
theorem xkle_X9_260 : xi_tab xkl_X9 260 = some 21 := by decide +kernel
theorem xkle_X9_268 : xi_tab xkl_X9 268 = some 31 := by decide +kernel
theorem xkle_X9_270 : xi_tab xkl_X9 270 = some 17 := by decide +kernel
theorem xcse_X9_63 : xi_tab xcs_X9 63 = some (3, 1) := by decide +kernel
theorem xcse_X9_67 : xi_tab xcs_X9 67 = some (1, 1) := by decide +kernel
theorem xcve_X9_71 : xi_tab xcv_X9 71 = some (2, 1) := by decide +kernel
theorem xcve_X9_75 : xi_tab xcv_X9 75 = some (2, 1) := by decide +kernel
theorem xcve_X9_78 : xi_tab xcv_X9 78 = some (4, 1) := by decide +kernel
theorem xcse_X9_81 : xi_tab xcs_X9 81 = some (1, 1) := by decide +kernel
theorem xcve_X9_90 : xi_tab xcv_X9 90 = some (2, 1) := by decide +kernel
theorem xcve_X9_93 : xi_tab xcv_X9 93 = some (2, 0) := by decide +kernel
theorem xcve_X9_97 : xi_tab xcv_X9 97 = some (4, 1) := by decide +kernel
theorem xcse_X9_101 : xi_tab xcs_X9 101 = some (1, 1) := by decide +kernel
theorem xcve_X9_104 : xi_tab xcv_X9 104 = some (3, 1) := by decide +kernel
theorem xcve_X9_108 : xi_tab xcv_X9 108 = some (2, 0) := by decide +kernel
theorem xcve_X9_111 : xi_tab xcv_X9 111 = some (3, 0) := by decide +kernel
theorem xcve_X9_115 : xi_tab xcv_X9 115 = some (2, 0) := by decide +kernel
theorem xcve_X9_118 : xi_tab xcv_X9 118 = some (2, 1) := by decide +kernel
theorem xcse_X9_121 : xi_tab xcs_X9 121 = some (5, 0) := by decide +kernel
theorem xcse_X9_128 : xi_tab xcs_X9 128 = some (4, 1) := by decide +kernel
theorem xcse_X9_132 : xi_tab xcs_X9 132 = some (2, 1) := by decide +kernel
theorem xcse_X9_136 : xi_tab xcs_X9 136 = some (2, 1) := by decide +kernel
theorem xcse_X9_139 : xi_tab xcs_X9 139 = some (2, 1) := by decide +kernel
theorem xcse_X9_143 : xi_tab xcs_X9 143 = some (3, 1) := by decide +kernel
theorem xcse_X9_147 : xi_tab xcs_X9 147 = some (4, 1) := by decide +kernel
theorem xcse_X9_151 : xi_tab xcs_X9 151 = some (3, 1) := by decide +kernel
theorem xcse_X9_154 : xi_tab xcs_X9 154 = some (2, 1) := by decide +kernel
theorem xcse_X9_157 : xi_tab xcs_X9 157 = some (3, 1) := by decide +kernel
theorem xcse_X9_160 : xi_tab xcs_X9 160 = some (2, 1) := by decide +kernel
theorem xcse_X9_163 : xi_tab xcs_X9 163 = some (1, 1) := by decide +kernel
theorem xcve_X9_167 : xi_tab xcv_X9 167 = some (2, 1) := by decide +kernel
theorem xcve_X9_170 : xi_tab xcv_X9 170 = some (3, 1) := by decide +kernel
theorem xcse_X9_173 : xi_tab xcs_X9 173 = some (2, 1) := by decide +kernel
theorem xcve_X9_177 : xi_tab xcv_X9 177 = some (2, 1) := by decide +kernel
theorem xcve_X9_180 : xi_tab xcv_X9 180 = some (4, 1) := by decide +kernel
theorem xcve_X9_183 : xi_tab xcv_X9 183 = some (1, 1) := by decide +kernel
theorem xcve_X9_187 : xi_tab xcv_X9 187 = some (1, 0) := by decide +kernel
theorem xcse_X9_190 : xi_tab xcs_X9 190 = some (1, 1) := by decide +kernel
theorem xcse_X9_193 : xi_tab xcs_X9 193 = some (3, 1) := by decide +kernel
theorem xcse_X9_196 : xi_tab xcs_X9 196 = some (2, 1) := by decide +kernel
theorem xcse_X9_199 : xi_tab xcs_X9 199 = some (1, 1) := by decide +kernel
theorem xcse_X9_202 : xi_tab xcs_X9 202 = some (2, 1) := by decide +kernel
theorem xcve_X9_205 : xi_tab xcv_X9 205 = some (2, 1) := by decide +kernel
theorem xcve_X9_208 : xi_tab xcv_X9 208 = some (4, 1) := by decide +kernel
theorem xcve_X9_211 : xi_tab xcv_X9 211 = some (5, 1) := by decide +kernel
theorem xcve_X9_218 : xi_tab xcv_X9 218 = some (4, 1) := by decide +kernel
theorem xcse_X9_221 : xi_tab xcs_X9 221 = some (2, 1) := by decide +kernel
theorem xcve_X9_224 : xi_tab xcv_X9 224 = some (4, 1) := by decide +kernel
theorem xcve_X9_227 : xi_tab xcv_X9 227 = some (5, 1) := by decide +kernel
theorem xcve_X9_230 : xi_tab xcv_X9 230 = some (2, 1) := by decide +kernel
theorem xcve_X9_233 : xi_tab xcv_X9 233 = some (3, 1) := by decide +kernel
theorem xcve_X9_238 : xi_tab xcv_X9 238 = some (3, 1) := by decide +kernel
theorem xcve_X9_241 : xi_tab xcv_X9 241 = some (3, 1) := by decide +kernel
theorem xcve_X9_250 : xi_tab xcv_X9 250 = some (2, 0) := by decide +kernel
theorem xcve_X9_262 : xi_tab xcv_X9 262 = some (2, 1) := by decide +kernel
theorem xcse_X9_265 : xi_tab xcs_X9 265 = some (1, 1) := by decide +kernel
theorem xcve_X9_272 : xi_tab xcv_X9 272 = some (2, 1) := by decide +kernel
theorem xcse_X9_275 : xi_tab xcs_X9 275 = some (4, 2) := by decide +kernel
theorem xkie_J6_265 : xi_tab xki_J6 265 = some 1431655765 := by decide +kernel
theorem xkie_J6_266 : xi_tab xki_J6 266 = some 858993459 := by decide +kernel
theorem xkie_J6_267 : xi_tab xki_J6 267 = some 252645135 := by decide +kernel
end
section
theorem i_X0_first_0 : xi_dc cX0_first 0 = some (.iload_n 0, 1) := by decide +kernel
theorem i_X0_first_1 : xi_dc cX0_first 1 = some (.bipush 7, 2) := by decide +kernel
theorem i_X0_first_3 : xi_dc cX0_first 3 = some (.idiv, 1) := by decide +kernel
theorem i_X0_first_4 : xi_dc cX0_first 4 = some (.iconst 3, 1) := by decide +kernel
theorem i_X0_first_5 : xi_dc cX0_first 5 = some (.isub, 1) := by decide +kernel
theorem i_X0_first_6 : xi_dc cX0_first 6 = some (.ireturn, 1) := by decide +kernel
def P_X0_first (S : xi_S) : xi_P := (xi_dc cX0_first, xi_tab xfl_X0, xi_tab xki_X0, xi_tab xkl_X0, xi_tab xcs_X0, xi_tab xcv_X0, xi_calls [], xi_calls [], 1)
def E_X0_first (S : xi_S) (v0 : Int32) (m : xi_M) : Option xi_R :=
  if ((Int8.ofInt 7).toInt32) = 0 then none else
  some (some (.int ((v0 / ((Int8.ofInt 7).toInt32)) - (Int32.ofInt 3))), m)
def F_X0_first (S : xi_S) : xi_F := fun As m => match As with
  | [.int v0] => E_X0_first S v0 m
  | _ => none
set_option maxRecDepth 100000 in
set_option maxHeartbeats 4000000 in
theorem xe_X0_first {S : xi_S} {res : xi_R} (v0 : Int32) (m : xi_M) (h : E_X0_first S v0 m = some res) : xi_X S (P_X0_first S) (0, [some (.int v0)], [], m) res := by
  unfold E_X0_first at h
  refine xr_iload_n i_X0_first_0 rfl (q := 1) rfl ?_
  refine xr_bipush i_X0_first_1 (q := 3) rfl ?_
  obtain ⟨c1, h⟩ := xi_ifn_some h
  refine xr_idiv i_X0_first_3 c1 (q := 4) rfl ?_
  refine xr_iconst i_X0_first_4 (q := 5) rfl ?_
  refine xr_isub i_X0_first_5 (q := 6) rfl ?_
  exact xr_ireturn i_X0_first_6 rfl h
theorem po_X0_first {l : Launch} {E : xi_E} {S : xi_S} {D : va_G} {tys : List (ClassId × FieldType)} (hC : xCx E S tys) : xi_Pok l E S D vwCl tys xNs RX0 xTs cX0_first 1 0 (P_X0_first S) := ⟨xi_dc_ok, by rw [hC.2]; exact xfo_X0, xkio_X0, xklo_X0, xi_calls_ok (ins := .invokestatic) (fun _ h => absurd h List.not_mem_nil), xi_calls_ok (ins := .invokevirtual) (fun _ h => absurd h List.not_mem_nil)⟩
theorem sn_X0_first {l : Launch} {E : xi_E} {S : xi_S} {D : va_G} {tys : List (ClassId × FieldType)} (hC : xCx E S tys) : ∀ As m1 r m2, F_X0_first S As m1 = some (r, m2) → xi_Sound l E S D vwCl tys xNs xTs yX0_first cX0_first 1 (some .int) 0 As m1 r m2 := by
  intro As m1 r m2 h
  unfold F_X0_first at h
  split at h
  · exact xi_meth (P := P_X0_first S) (by decide) hC.1 (po_X0_first hC) (Nat.le_of_ble_eq_true rfl) rfl (xe_X0_first _ _ h)
  · exact xi_no h
theorem i_X0_second_0 : xi_dc cX0_second 0 = some (.iload_n 0, 1) := by decide +kernel
theorem i_X0_second_1 : xi_dc cX0_second 1 = some (.bipush 7, 2) := by decide +kernel
theorem i_X0_second_3 : xi_dc cX0_second 3 = some (.irem, 1) := by decide +kernel
theorem i_X0_second_4 : xi_dc cX0_second 4 = some (.iconst 3, 1) := by decide +kernel
theorem i_X0_second_5 : xi_dc cX0_second 5 = some (.isub, 1) := by decide +kernel
theorem i_X0_second_6 : xi_dc cX0_second 6 = some (.ireturn, 1) := by decide +kernel
def P_X0_second (S : xi_S) : xi_P := (xi_dc cX0_second, xi_tab xfl_X0, xi_tab xki_X0, xi_tab xkl_X0, xi_tab xcs_X0, xi_tab xcv_X0, xi_calls [], xi_calls [], 1)
def E_X0_second (S : xi_S) (v0 : Int32) (m : xi_M) : Option xi_R :=
  if ((Int8.ofInt 7).toInt32) = 0 then none else
  some (some (.int ((v0 - v0 / ((Int8.ofInt 7).toInt32) * ((Int8.ofInt 7).toInt32)) - (Int32.ofInt 3))), m)
def F_X0_second (S : xi_S) : xi_F := fun As m => match As with
  | [.int v0] => E_X0_second S v0 m
  | _ => none
set_option maxRecDepth 100000 in
set_option maxHeartbeats 4000000 in
theorem xe_X0_second {S : xi_S} {res : xi_R} (v0 : Int32) (m : xi_M) (h : E_X0_second S v0 m = some res) : xi_X S (P_X0_second S) (0, [some (.int v0)], [], m) res := by
  unfold E_X0_second at h
  refine xr_iload_n i_X0_second_0 rfl (q := 1) rfl ?_
  refine xr_bipush i_X0_second_1 (q := 3) rfl ?_
  obtain ⟨c1, h⟩ := xi_ifn_some h
  refine xr_irem i_X0_second_3 c1 (q := 4) rfl ?_
  refine xr_iconst i_X0_second_4 (q := 5) rfl ?_
  refine xr_isub i_X0_second_5 (q := 6) rfl ?_
  exact xr_ireturn i_X0_second_6 rfl h
theorem po_X0_second {l : Launch} {E : xi_E} {S : xi_S} {D : va_G} {tys : List (ClassId × FieldType)} (hC : xCx E S tys) : xi_Pok l E S D vwCl tys xNs RX0 xTs cX0_second 1 0 (P_X0_second S) := ⟨xi_dc_ok, by rw [hC.2]; exact xfo_X0, xkio_X0, xklo_X0, xi_calls_ok (ins := .invokestatic) (fun _ h => absurd h List.not_mem_nil), xi_calls_ok (ins := .invokevirtual) (fun _ h => absurd h List.not_mem_nil)⟩
theorem sn_X0_second {l : Launch} {E : xi_E} {S : xi_S} {D : va_G} {tys : List (ClassId × FieldType)} (hC : xCx E S tys) : ∀ As m1 r m2, F_X0_second S As m1 = some (r, m2) → xi_Sound l E S D vwCl tys xNs xTs yX0_second cX0_second 1 (some .int) 0 As m1 r m2 := by
  intro As m1 r m2 h
  unfold F_X0_second at h
  split at h
  · exact xi_meth (P := P_X0_second S) (by decide) hC.1 (po_X0_second hC) (Nat.le_of_ble_eq_true rfl) rfl (xe_X0_second _ _ h)
  · exact xi_no h
theorem i_X0_stepsOf_0 : xi_dc cX0_stepsOf 0 = some (.iload_n 0, 1) := by decide +kernel
theorem i_X0_stepsOf_1 : xi_dc cX0_stepsOf 1 = some (.invokestatic 24, 3) := by decide +kernel
theorem i_X0_stepsOf_4 : xi_dc cX0_stepsOf 4 = some (.invokestatic 40, 3) := by decide +kernel
theorem i_X0_stepsOf_7 : xi_dc cX0_stepsOf 7 = some (.iload_n 0, 1) := by decide +kernel
theorem i_X0_stepsOf_8 : xi_dc cX0_stepsOf 8 = some (.invokestatic 28, 3) := by decide +kernel
theorem i_X0_stepsOf_11 : xi_dc cX0_stepsOf 11 = some (.invokestatic 40, 3) := by decide +kernel
theorem i_X0_stepsOf_14 : xi_dc cX0_stepsOf 14 = some (.iadd, 1) := by decide +kernel
theorem i_X0_stepsOf_15 : xi_dc cX0_stepsOf 15 = some (.ireturn, 1) := by decide +kernel
def P_X0_stepsOf (S : xi_S) : xi_P := (xi_dc cX0_stepsOf, xi_tab xfl_X0, xi_tab xki_X0, xi_tab xkl_X0, xi_tab xcs_X0, xi_tab xcv_X0, xi_calls [(24, xi_wS 1 (F_X0_first S)), (28, xi_wS 1 (F_X0_second S)), (40, xi_wS 1 (F_J9_abs_0f7a4 S))], xi_calls [], 1)
theorem cc_X0_stepsOf_24 (S : xi_S) (a0 : Int32) (m : xi_M) : (P_X0_stepsOf S).2.2.2.2.2.2.1 24 [.int a0] m = (E_X0_first S a0 m) := by
  show xi_calls [(24, xi_wS 1 (F_X0_first S)), (28, xi_wS 1 (F_X0_second S)), (40, xi_wS 1 (F_J9_abs_0f7a4 S))] 24 [.int a0] m = _
  refine Eq.trans (b := xi_wS 1 (F_X0_first S) [.int a0] m) (xi_calls_hit rfl) ?_
  exact xi_wS_eq rfl
theorem cc_X0_stepsOf_28 (S : xi_S) (a0 : Int32) (m : xi_M) : (P_X0_stepsOf S).2.2.2.2.2.2.1 28 [.int a0] m = (E_X0_second S a0 m) := by
  show xi_calls [(24, xi_wS 1 (F_X0_first S)), (28, xi_wS 1 (F_X0_second S)), (40, xi_wS 1 (F_J9_abs_0f7a4 S))] 28 [.int a0] m = _
  refine Eq.trans (b := xi_calls [(28, xi_wS 1 (F_X0_second S)), (40, xi_wS 1 (F_J9_abs_0f7a4 S))] 28 [.int a0] m) (xi_calls_miss rfl) ?_
  refine Eq.trans (b := xi_wS 1 (F_X0_second S) [.int a0] m) (xi_calls_hit rfl) ?_
  exact xi_wS_eq rfl
theorem cc_X0_stepsOf_40 (S : xi_S) (a0 : Int32) (m : xi_M) : (P_X0_stepsOf S).2.2.2.2.2.2.1 40 [.int a0] m = (E_J9_abs_0f7a4 S a0 m) := by
  show xi_calls [(24, xi_wS 1 (F_X0_first S)), (28, xi_wS 1 (F_X0_second S)), (40, xi_wS 1 (F_J9_abs_0f7a4 S))] 40 [.int a0] m = _
  refine Eq.trans (b := xi_calls [(28, xi_wS 1 (F_X0_second S)), (40, xi_wS 1 (F_J9_abs_0f7a4 S))] 40 [.int a0] m) (xi_calls_miss rfl) ?_
  refine Eq.trans (b := xi_calls [(40, xi_wS 1 (F_J9_abs_0f7a4 S))] 40 [.int a0] m) (xi_calls_miss rfl) ?_
  refine Eq.trans (b := xi_wS 1 (F_J9_abs_0f7a4 S) [.int a0] m) (xi_calls_hit rfl) ?_
  exact xi_wS_eq rfl
def E_X0_stepsOf (S : xi_S) (v0 : Int32) (m : xi_M) : Option xi_R :=
  xi_bI (E_X0_first S v0 m) fun x2 m1 =>
  xi_bI (E_J9_abs_0f7a4 S x2 m1) fun x4 m3 =>
  xi_bI (E_X0_second S v0 m3) fun x6 m5 =>
  xi_bI (E_J9_abs_0f7a4 S x6 m5) fun x8 m7 =>
  some (some (.int (x4 + x8)), m7)
def F_X0_stepsOf (S : xi_S) : xi_F := fun As m => match As with
  | [.int v0] => E_X0_stepsOf S v0 m
  | _ => none
set_option maxRecDepth 100000 in
set_option maxHeartbeats 4000000 in
theorem xe_X0_stepsOf {S : xi_S} {res : xi_R} (v0 : Int32) (m : xi_M) (h : E_X0_stepsOf S v0 m = some res) : xi_X S (P_X0_stepsOf S) (0, [some (.int v0)], [], m) res := by
  unfold E_X0_stepsOf at h
  refine xr_iload_n i_X0_stepsOf_0 rfl (q := 1) rfl ?_
  obtain ⟨x2, m1, em1, h⟩ := xi_bI_some h
  refine xr_SI i_X0_stepsOf_1 xcse_X0_24 rfl (As := [.int v0]) rfl (rest := []) rfl ((cc_X0_stepsOf_24 S _ _).trans em1) (q := 4) rfl ?_
  obtain ⟨x4, m3, em3, h⟩ := xi_bI_some h
  refine xr_SI i_X0_stepsOf_4 xcse_X0_40 rfl (As := [.int x2]) rfl (rest := []) rfl ((cc_X0_stepsOf_40 S _ _).trans em3) (q := 7) rfl ?_
  refine xr_iload_n i_X0_stepsOf_7 rfl (q := 8) rfl ?_
  obtain ⟨x6, m5, em5, h⟩ := xi_bI_some h
  refine xr_SI i_X0_stepsOf_8 xcse_X0_28 rfl (As := [.int v0]) rfl (rest := [.int x4]) rfl ((cc_X0_stepsOf_28 S _ _).trans em5) (q := 11) rfl ?_
  obtain ⟨x8, m7, em7, h⟩ := xi_bI_some h
  refine xr_SI i_X0_stepsOf_11 xcse_X0_40 rfl (As := [.int x6]) rfl (rest := [.int x4]) rfl ((cc_X0_stepsOf_40 S _ _).trans em7) (q := 14) rfl ?_
  refine xr_iadd i_X0_stepsOf_14 (q := 15) rfl ?_
  exact xr_ireturn i_X0_stepsOf_15 rfl h
theorem po_X0_stepsOf {l : Launch} {E : xi_E} {S : xi_S} {D : va_G} {tys : List (ClassId × FieldType)} (hC : xCx E S tys) : xi_Pok l E S D vwCl tys xNs RX0 xTs cX0_stepsOf 1 1 (P_X0_stepsOf S) := ⟨xi_dc_ok, by rw [hC.2]; exact xfo_X0, xkio_X0, xklo_X0, xi_calls_ok (ins := .invokestatic) (List.forall_mem_cons.mpr ⟨(xc_X0_24 (sn_X0_first hC) (by decide)), List.forall_mem_cons.mpr ⟨(xc_X0_28 (sn_X0_second hC) (by decide)), List.forall_mem_cons.mpr ⟨(xm_X0_40 (by decide)), fun _ h => absurd h List.not_mem_nil⟩⟩⟩), xi_calls_ok (ins := .invokevirtual) (fun _ h => absurd h List.not_mem_nil)⟩
theorem sn_X0_stepsOf {l : Launch} {E : xi_E} {S : xi_S} {D : va_G} {tys : List (ClassId × FieldType)} (hC : xCx E S tys) : ∀ As m1 r m2, F_X0_stepsOf S As m1 = some (r, m2) → xi_Sound l E S D vwCl tys xNs xTs yX0_stepsOf cX0_stepsOf 1 (some .int) 1 As m1 r m2 := by
  intro As m1 r m2 h
  unfold F_X0_stepsOf at h
  split at h
  · exact xi_meth (P := P_X0_stepsOf S) (by decide) hC.1 (po_X0_stepsOf hC) (Nat.le_of_ble_eq_true rfl) rfl (xe_X0_stepsOf _ _ h)
  · exact xi_no h
theorem i_X0_leads_0 : xi_dc cX0_leads 0 = some (.aload_n 0, 1) := by decide +kernel
theorem i_X0_leads_1 : xi_dc cX0_leads 1 = some (.getfield 11, 3) := by decide +kernel
theorem i_X0_leads_4 : xi_dc cX0_leads 4 = some (.iload_n 3, 1) := by decide +kernel
theorem i_X0_leads_5 : xi_dc cX0_leads 5 = some (.iaload, 1) := by decide +kernel
theorem i_X0_leads_6 : xi_dc cX0_leads 6 = some (.istore 5, 2) := by decide +kernel
theorem i_X0_leads_8 : xi_dc cX0_leads 8 = some (.aload_n 0, 1) := by decide +kernel
theorem i_X0_leads_9 : xi_dc cX0_leads 9 = some (.getfield 11, 3) := by decide +kernel
theorem i_X0_leads_12 : xi_dc cX0_leads 12 = some (.bipush 49, 2) := by decide +kernel
theorem i_X0_leads_14 : xi_dc cX0_leads 14 = some (.iload 4, 2) := by decide +kernel
theorem i_X0_leads_16 : xi_dc cX0_leads 16 = some (.iadd, 1) := by decide +kernel
theorem i_X0_leads_17 : xi_dc cX0_leads 17 = some (.iaload, 1) := by decide +kernel
theorem i_X0_leads_18 : xi_dc cX0_leads 18 = some (.istore 6, 2) := by decide +kernel
theorem i_X0_leads_20 : xi_dc cX0_leads 20 = some (.iload 5, 2) := by decide +kernel
theorem i_X0_leads_22 : xi_dc cX0_leads 22 = some (.ifCond .lt 8, 3) := by decide +kernel
theorem t_X0_leads_22 : ((22 : Nat) : Int) + 8 = ((30 : Nat) : Int) := by decide +kernel
theorem i_X0_leads_25 : xi_dc cX0_leads 25 = some (.iload 6, 2) := by decide +kernel
theorem i_X0_leads_27 : xi_dc cX0_leads 27 = some (.ifCond .ge 5, 3) := by decide +kernel
theorem t_X0_leads_27 : ((27 : Nat) : Int) + 5 = ((32 : Nat) : Int) := by decide +kernel
theorem i_X0_leads_30 : xi_dc cX0_leads 30 = some (.iconst 0, 1) := by decide +kernel
theorem i_X0_leads_31 : xi_dc cX0_leads 31 = some (.ireturn, 1) := by decide +kernel
theorem i_X0_leads_32 : xi_dc cX0_leads 32 = some (.iload_n 1, 1) := by decide +kernel
theorem i_X0_leads_33 : xi_dc cX0_leads 33 = some (.ifCond .ne 11, 3) := by decide +kernel
theorem t_X0_leads_33 : ((33 : Nat) : Int) + 11 = ((44 : Nat) : Int) := by decide +kernel
theorem i_X0_leads_36 : xi_dc cX0_leads 36 = some (.iload 6, 2) := by decide +kernel
theorem i_X0_leads_38 : xi_dc cX0_leads 38 = some (.iload 5, 2) := by decide +kernel
theorem i_X0_leads_40 : xi_dc cX0_leads 40 = some (.isub, 1) := by decide +kernel
theorem i_X0_leads_41 : xi_dc cX0_leads 41 = some (.goto 8, 3) := by decide +kernel
theorem t_X0_leads_41 : ((41 : Nat) : Int) + 8 = ((49 : Nat) : Int) := by decide +kernel
theorem i_X0_leads_44 : xi_dc cX0_leads 44 = some (.iload 5, 2) := by decide +kernel
theorem i_X0_leads_46 : xi_dc cX0_leads 46 = some (.iload 6, 2) := by decide +kernel
theorem i_X0_leads_48 : xi_dc cX0_leads 48 = some (.isub, 1) := by decide +kernel
theorem i_X0_leads_49 : xi_dc cX0_leads 49 = some (.iload_n 2, 1) := by decide +kernel
theorem i_X0_leads_50 : xi_dc cX0_leads 50 = some (.if_icmp .lt 7, 3) := by decide +kernel
theorem t_X0_leads_50 : ((50 : Nat) : Int) + 7 = ((57 : Nat) : Int) := by decide +kernel
theorem i_X0_leads_53 : xi_dc cX0_leads 53 = some (.iconst 1, 1) := by decide +kernel
theorem i_X0_leads_54 : xi_dc cX0_leads 54 = some (.goto 4, 3) := by decide +kernel
theorem t_X0_leads_54 : ((54 : Nat) : Int) + 4 = ((58 : Nat) : Int) := by decide +kernel
theorem i_X0_leads_57 : xi_dc cX0_leads 57 = some (.iconst 0, 1) := by decide +kernel
theorem i_X0_leads_58 : xi_dc cX0_leads 58 = some (.ireturn, 1) := by decide +kernel
def P_X0_leads (S : xi_S) : xi_P := (xi_dc cX0_leads, xi_tab xfl_X0, xi_tab xki_X0, xi_tab xkl_X0, xi_tab xcs_X0, xi_tab xcv_X0, xi_calls [], xi_calls [], 2)
def E_X0_leads (S : xi_S) (v0 : Nat) (v1 : Int32) (v2 : Int32) (v3 : Int32) (v4 : Int32) (m : xi_M) : Option xi_R :=
  if S.1 v0 = 3 then (S.2.2 v0 0).bind fun b2 =>
    if S.1 b2 = 0 ∧ ¬ (v3 < 0 ∨ S.2.1 b2 ≤ Int32.toNatClampNeg v3) then
      if S.1 v0 = 3 then (S.2.2 v0 0).bind fun b5 =>
        if S.1 b5 = 0 ∧ ¬ ((((Int8.ofInt 49).toInt32) + v4) < 0 ∨ S.2.1 b5 ≤ Int32.toNatClampNeg (((Int8.ofInt 49).toInt32) + v4)) then
          if (m.1 b2 (Int32.toNatClampNeg v3)) < 0 then
            if (Int32.ofInt 0) = 0 ∨ (Int32.ofInt 0) = 1 then some (some (.int (Int32.ofInt 0)), m) else none
          else
            if 0 ≤ (m.1 b5 (Int32.toNatClampNeg (((Int8.ofInt 49).toInt32) + v4))) then
              if v1 = 0 then
                if ((m.1 b5 (Int32.toNatClampNeg (((Int8.ofInt 49).toInt32) + v4))) - (m.1 b2 (Int32.toNatClampNeg v3))) < v2 then
                  if (Int32.ofInt 0) = 0 ∨ (Int32.ofInt 0) = 1 then some (some (.int (Int32.ofInt 0)), m) else none
                else
                  if (Int32.ofInt 1) = 0 ∨ (Int32.ofInt 1) = 1 then some (some (.int (Int32.ofInt 1)), m) else none
              else
                if ((m.1 b2 (Int32.toNatClampNeg v3)) - (m.1 b5 (Int32.toNatClampNeg (((Int8.ofInt 49).toInt32) + v4)))) < v2 then
                  if (Int32.ofInt 0) = 0 ∨ (Int32.ofInt 0) = 1 then some (some (.int (Int32.ofInt 0)), m) else none
                else
                  if (Int32.ofInt 1) = 0 ∨ (Int32.ofInt 1) = 1 then some (some (.int (Int32.ofInt 1)), m) else none
            else
              if (Int32.ofInt 0) = 0 ∨ (Int32.ofInt 0) = 1 then some (some (.int (Int32.ofInt 0)), m) else none
        else none
      else none
    else none
  else none
def F_X0_leads (S : xi_S) : xi_F := fun As m => match As with
  | [.ref v0, .int v1, .int v2, .int v3, .int v4] => E_X0_leads S v0 v1 v2 v3 v4 m
  | _ => none
set_option maxRecDepth 100000 in
set_option maxHeartbeats 4000000 in
theorem xe_X0_leads {S : xi_S} {res : xi_R} (v0 : Nat) (v1 : Int32) (v2 : Int32) (v3 : Int32) (v4 : Int32) (m : xi_M) (h : E_X0_leads S v0 v1 v2 v3 v4 m = some res) : xi_X S (P_X0_leads S) (0, [some (.ref v0), some (.int v1), some (.int v2), some (.int v3), some (.int v4), none, none], [], m) res := by
  unfold E_X0_leads at h
  refine xr_aload_n i_X0_leads_0 rfl (q := 1) rfl ?_
  obtain ⟨c1, h⟩ := xi_if_some h
  obtain ⟨b2, eb2, h⟩ := xi_bind_some h
  refine xr_getR i_X0_leads_1 xfe_X0_11 c1 eb2 (q := 4) rfl ?_
  refine xr_iload_n i_X0_leads_4 rfl (q := 5) rfl ?_
  obtain ⟨c3, h⟩ := xi_if_some h
  refine xr_iaload i_X0_leads_5 c3 (q := 6) rfl ?_
  refine xr_istore i_X0_leads_6 rfl (L2 := [some (.ref v0), some (.int v1), some (.int v2), some (.int v3), some (.int v4), some (.int (m.1 b2 (Int32.toNatClampNeg v3))), none]) rfl (q := 8) rfl ?_
  refine xr_aload_n i_X0_leads_8 rfl (q := 9) rfl ?_
  obtain ⟨c4, h⟩ := xi_if_some h
  obtain ⟨b5, eb5, h⟩ := xi_bind_some h
  refine xr_getR i_X0_leads_9 xfe_X0_11 c4 eb5 (q := 12) rfl ?_
  refine xr_bipush i_X0_leads_12 (q := 14) rfl ?_
  refine xr_iload i_X0_leads_14 rfl (q := 16) rfl ?_
  refine xr_iadd i_X0_leads_16 (q := 17) rfl ?_
  obtain ⟨c6, h⟩ := xi_if_some h
  refine xr_iaload i_X0_leads_17 c6 (q := 18) rfl ?_
  refine xr_istore i_X0_leads_18 rfl (L2 := [some (.ref v0), some (.int v1), some (.int v2), some (.int v3), some (.int v4), some (.int (m.1 b2 (Int32.toNatClampNeg v3))), some (.int (m.1 b5 (Int32.toNatClampNeg (((Int8.ofInt 49).toInt32) + v4))))]) rfl (q := 20) rfl ?_
  refine xr_iload i_X0_leads_20 rfl (q := 22) rfl ?_
  by_cases c11 : (m.1 b2 (Int32.toNatClampNeg v3)) < 0
  · replace h := (if_pos c11).symm.trans h
    refine xr_ifCond_lt_p i_X0_leads_22 c11 (q := 30) t_X0_leads_22 (q2 := 25) rfl ?_
    refine xr_iconst i_X0_leads_30 (q := 31) rfl ?_
    exact xr_zreturn i_X0_leads_31 rfl h
  · replace h := (if_neg c11).symm.trans h
    refine xr_ifCond_lt_n i_X0_leads_22 c11 (q := 30) t_X0_leads_22 (q2 := 25) rfl ?_
    refine xr_iload i_X0_leads_25 rfl (q := 27) rfl ?_
    by_cases c10 : 0 ≤ (m.1 b5 (Int32.toNatClampNeg (((Int8.ofInt 49).toInt32) + v4)))
    · replace h := (if_pos c10).symm.trans h
      refine xr_ifCond_ge_p i_X0_leads_27 c10 (q := 32) t_X0_leads_27 (q2 := 30) rfl ?_
      refine xr_iload_n i_X0_leads_32 rfl (q := 33) rfl ?_
      by_cases c9 : v1 = 0
      · replace h := (if_pos c9).symm.trans h
        refine xr_ifCond_ne_p i_X0_leads_33 c9 (q := 44) t_X0_leads_33 (q2 := 36) rfl ?_
        refine xr_iload i_X0_leads_36 rfl (q := 38) rfl ?_
        refine xr_iload i_X0_leads_38 rfl (q := 40) rfl ?_
        refine xr_isub i_X0_leads_40 (q := 41) rfl ?_
        refine xr_goto i_X0_leads_41 (q := 49) t_X0_leads_41 ?_
        refine xr_iload_n i_X0_leads_49 rfl (q := 50) rfl ?_
        by_cases c8 : ((m.1 b5 (Int32.toNatClampNeg (((Int8.ofInt 49).toInt32) + v4))) - (m.1 b2 (Int32.toNatClampNeg v3))) < v2
        · replace h := (if_pos c8).symm.trans h
          refine xr_if_icmp_lt_p i_X0_leads_50 c8 (q := 57) t_X0_leads_50 (q2 := 53) rfl ?_
          refine xr_iconst i_X0_leads_57 (q := 58) rfl ?_
          exact xr_zreturn i_X0_leads_58 rfl h
        · replace h := (if_neg c8).symm.trans h
          refine xr_if_icmp_lt_n i_X0_leads_50 c8 (q := 57) t_X0_leads_50 (q2 := 53) rfl ?_
          refine xr_iconst i_X0_leads_53 (q := 54) rfl ?_
          refine xr_goto i_X0_leads_54 (q := 58) t_X0_leads_54 ?_
          exact xr_zreturn i_X0_leads_58 rfl h
      · replace h := (if_neg c9).symm.trans h
        refine xr_ifCond_ne_n i_X0_leads_33 c9 (q := 44) t_X0_leads_33 (q2 := 36) rfl ?_
        refine xr_iload i_X0_leads_44 rfl (q := 46) rfl ?_
        refine xr_iload i_X0_leads_46 rfl (q := 48) rfl ?_
        refine xr_isub i_X0_leads_48 (q := 49) rfl ?_
        refine xr_iload_n i_X0_leads_49 rfl (q := 50) rfl ?_
        by_cases c7 : ((m.1 b2 (Int32.toNatClampNeg v3)) - (m.1 b5 (Int32.toNatClampNeg (((Int8.ofInt 49).toInt32) + v4)))) < v2
        · replace h := (if_pos c7).symm.trans h
          refine xr_if_icmp_lt_p i_X0_leads_50 c7 (q := 57) t_X0_leads_50 (q2 := 53) rfl ?_
          refine xr_iconst i_X0_leads_57 (q := 58) rfl ?_
          exact xr_zreturn i_X0_leads_58 rfl h
        · replace h := (if_neg c7).symm.trans h
          refine xr_if_icmp_lt_n i_X0_leads_50 c7 (q := 57) t_X0_leads_50 (q2 := 53) rfl ?_
          refine xr_iconst i_X0_leads_53 (q := 54) rfl ?_
          refine xr_goto i_X0_leads_54 (q := 58) t_X0_leads_54 ?_
          exact xr_zreturn i_X0_leads_58 rfl h
    · replace h := (if_neg c10).symm.trans h
      refine xr_ifCond_ge_n i_X0_leads_27 c10 (q := 32) t_X0_leads_27 (q2 := 30) rfl ?_
      refine xr_iconst i_X0_leads_30 (q := 31) rfl ?_
      exact xr_zreturn i_X0_leads_31 rfl h
theorem po_X0_leads {l : Launch} {E : xi_E} {S : xi_S} {D : va_G} {tys : List (ClassId × FieldType)} (hC : xCx E S tys) : xi_Pok l E S D vwCl tys xNs RX0 xTs cX0_leads 7 0 (P_X0_leads S) := ⟨xi_dc_ok, by rw [hC.2]; exact xfo_X0, xkio_X0, xklo_X0, xi_calls_ok (ins := .invokestatic) (fun _ h => absurd h List.not_mem_nil), xi_calls_ok (ins := .invokevirtual) (fun _ h => absurd h List.not_mem_nil)⟩
theorem sn_X0_leads {l : Launch} {E : xi_E} {S : xi_S} {D : va_G} {tys : List (ClassId × FieldType)} (hC : xCx E S tys) : ∀ As m1 r m2, F_X0_leads S As m1 = some (r, m2) → xi_Sound l E S D vwCl tys xNs xTs yX0_leads cX0_leads 7 (some .boolean) 0 As m1 r m2 := by
  intro As m1 r m2 h
  unfold F_X0_leads at h
  split at h
  · exact xi_meth (P := P_X0_leads S) (by decide) hC.1 (po_X0_leads hC) (Nat.le_of_ble_eq_true rfl) rfl (xe_X0_leads _ _ _ _ _ _ h)
  · exact xi_no h
theorem i_X0_fewest_0 : xi_dc cX0_fewest 0 = some (.bipush (-9), 2) := by decide +kernel
theorem i_X0_fewest_2 : xi_dc cX0_fewest 2 = some (.istore_n 3, 1) := by decide +kernel
theorem i_X0_fewest_3 : xi_dc cX0_fewest 3 = some (.iconst 0, 1) := by decide +kernel
theorem i_X0_fewest_4 : xi_dc cX0_fewest 4 = some (.istore 4, 2) := by decide +kernel
theorem i_X0_fewest_6 : xi_dc cX0_fewest 6 = some (.iload 4, 2) := by decide +kernel
theorem i_X0_fewest_8 : xi_dc cX0_fewest 8 = some (.bipush 49, 2) := by decide +kernel
theorem i_X0_fewest_10 : xi_dc cX0_fewest 10 = some (.if_icmp .ge 78, 3) := by decide +kernel
theorem t_X0_fewest_10 : ((10 : Nat) : Int) + 78 = ((88 : Nat) : Int) := by decide +kernel
theorem i_X0_fewest_13 : xi_dc cX0_fewest 13 = some (.iconst 0, 1) := by decide +kernel
theorem i_X0_fewest_14 : xi_dc cX0_fewest 14 = some (.istore 5, 2) := by decide +kernel
theorem i_X0_fewest_16 : xi_dc cX0_fewest 16 = some (.iload 5, 2) := by decide +kernel
theorem i_X0_fewest_18 : xi_dc cX0_fewest 18 = some (.bipush 49, 2) := by decide +kernel
theorem i_X0_fewest_20 : xi_dc cX0_fewest 20 = some (.if_icmp .ge 62, 3) := by decide +kernel
theorem t_X0_fewest_20 : ((20 : Nat) : Int) + 62 = ((82 : Nat) : Int) := by decide +kernel
theorem i_X0_fewest_23 : xi_dc cX0_fewest 23 = some (.iload 4, 2) := by decide +kernel
theorem i_X0_fewest_25 : xi_dc cX0_fewest 25 = some (.invokestatic 45, 3) := by decide +kernel
theorem i_X0_fewest_28 : xi_dc cX0_fewest 28 = some (.iload 5, 2) := by decide +kernel
theorem i_X0_fewest_30 : xi_dc cX0_fewest 30 = some (.invokestatic 45, 3) := by decide +kernel
theorem i_X0_fewest_33 : xi_dc cX0_fewest 33 = some (.iadd, 1) := by decide +kernel
theorem i_X0_fewest_34 : xi_dc cX0_fewest 34 = some (.istore 6, 2) := by decide +kernel
theorem i_X0_fewest_36 : xi_dc cX0_fewest 36 = some (.iload_n 3, 1) := by decide +kernel
theorem i_X0_fewest_37 : xi_dc cX0_fewest 37 = some (.bipush (-9), 2) := by decide +kernel
theorem i_X0_fewest_39 : xi_dc cX0_fewest 39 = some (.if_icmp .eq 9, 3) := by decide +kernel
theorem t_X0_fewest_39 : ((39 : Nat) : Int) + 9 = ((48 : Nat) : Int) := by decide +kernel
theorem i_X0_fewest_42 : xi_dc cX0_fewest 42 = some (.iload 6, 2) := by decide +kernel
theorem i_X0_fewest_44 : xi_dc cX0_fewest 44 = some (.iload_n 3, 1) := by decide +kernel
theorem i_X0_fewest_45 : xi_dc cX0_fewest 45 = some (.if_icmp .ge 31, 3) := by decide +kernel
theorem t_X0_fewest_45 : ((45 : Nat) : Int) + 31 = ((76 : Nat) : Int) := by decide +kernel
theorem i_X0_fewest_48 : xi_dc cX0_fewest 48 = some (.aload_n 0, 1) := by decide +kernel
theorem i_X0_fewest_49 : xi_dc cX0_fewest 49 = some (.iload_n 1, 1) := by decide +kernel
theorem i_X0_fewest_50 : xi_dc cX0_fewest 50 = some (.iload_n 2, 1) := by decide +kernel
theorem i_X0_fewest_51 : xi_dc cX0_fewest 51 = some (.iload 4, 2) := by decide +kernel
theorem i_X0_fewest_53 : xi_dc cX0_fewest 53 = some (.iload 5, 2) := by decide +kernel
theorem i_X0_fewest_55 : xi_dc cX0_fewest 55 = some (.invokevirtual 48, 3) := by decide +kernel
theorem i_X0_fewest_58 : xi_dc cX0_fewest 58 = some (.ifCond .eq 18, 3) := by decide +kernel
theorem t_X0_fewest_58 : ((58 : Nat) : Int) + 18 = ((76 : Nat) : Int) := by decide +kernel
theorem i_X0_fewest_61 : xi_dc cX0_fewest 61 = some (.iload 6, 2) := by decide +kernel
theorem i_X0_fewest_63 : xi_dc cX0_fewest 63 = some (.istore_n 3, 1) := by decide +kernel
theorem i_X0_fewest_64 : xi_dc cX0_fewest 64 = some (.aload_n 0, 1) := by decide +kernel
theorem i_X0_fewest_65 : xi_dc cX0_fewest 65 = some (.iload 4, 2) := by decide +kernel
theorem i_X0_fewest_67 : xi_dc cX0_fewest 67 = some (.putfield 52, 3) := by decide +kernel
theorem i_X0_fewest_70 : xi_dc cX0_fewest 70 = some (.aload_n 0, 1) := by decide +kernel
theorem i_X0_fewest_71 : xi_dc cX0_fewest 71 = some (.iload 5, 2) := by decide +kernel
theorem i_X0_fewest_73 : xi_dc cX0_fewest 73 = some (.putfield 56, 3) := by decide +kernel
theorem i_X0_fewest_76 : xi_dc cX0_fewest 76 = some (.iinc 5 1, 3) := by decide +kernel
theorem i_X0_fewest_79 : xi_dc cX0_fewest 79 = some (.goto (-63), 3) := by decide +kernel
theorem t_X0_fewest_79 : ((79 : Nat) : Int) + (-63) = ((16 : Nat) : Int) := by decide +kernel
theorem i_X0_fewest_82 : xi_dc cX0_fewest 82 = some (.iinc 4 1, 3) := by decide +kernel
theorem i_X0_fewest_85 : xi_dc cX0_fewest 85 = some (.goto (-79), 3) := by decide +kernel
theorem t_X0_fewest_85 : ((85 : Nat) : Int) + (-79) = ((6 : Nat) : Int) := by decide +kernel
theorem i_X0_fewest_88 : xi_dc cX0_fewest 88 = some (.iload_n 3, 1) := by decide +kernel
theorem i_X0_fewest_89 : xi_dc cX0_fewest 89 = some (.ireturn, 1) := by decide +kernel
def P_X0_fewest (S : xi_S) : xi_P := (xi_dc cX0_fewest, xi_tab xfl_X0, xi_tab xki_X0, xi_tab xkl_X0, xi_tab xcs_X0, xi_tab xcv_X0, xi_calls [(45, xi_wS 1 (F_X0_stepsOf S))], xi_calls [(48, xi_wV S 3 4 (F_X0_leads S))], 1)
theorem cc_X0_fewest_45 (S : xi_S) (a0 : Int32) (m : xi_M) : (P_X0_fewest S).2.2.2.2.2.2.1 45 [.int a0] m = (E_X0_stepsOf S a0 m) := by
  show xi_calls [(45, xi_wS 1 (F_X0_stepsOf S))] 45 [.int a0] m = _
  refine Eq.trans (b := xi_wS 1 (F_X0_stepsOf S) [.int a0] m) (xi_calls_hit rfl) ?_
  exact xi_wS_eq rfl
theorem cc_X0_fewest_48 (S : xi_S) (a0 : Nat) (a1 : Int32) (a2 : Int32) (a3 : Int32) (a4 : Int32) (m : xi_M) : (P_X0_fewest S).2.2.2.2.2.2.2.1 48 [.ref a0, .int a1, .int a2, .int a3, .int a4] m = (if S.1 a0 = 3 then E_X0_leads S a0 a1 a2 a3 a4 m else none) := by
  show xi_calls [(48, xi_wV S 3 4 (F_X0_leads S))] 48 [.ref a0, .int a1, .int a2, .int a3, .int a4] m = _
  refine Eq.trans (b := xi_wV S 3 4 (F_X0_leads S) [.ref a0, .int a1, .int a2, .int a3, .int a4] m) (xi_calls_hit rfl) ?_
  exact xi_wV_eq rfl
def G_X0_fewest_16 (S : xi_S) (k6 : Nat → Int32 → Int32 → Int32 → Int32 → xi_M → Option xi_R) : Nat → Nat → Int32 → Int32 → Int32 → Int32 → Int32 → xi_M → Option xi_R
  | 0, _, _, _, _, _, _, _ => none
  | n + 1, v0, v1, v2, v3, v4, v5, m =>
    if ((Int8.ofInt 49).toInt32) ≤ v5 then
      k6 v0 v1 v2 v3 (v4 + Int32.ofInt 1) m
    else
      xi_bI (E_X0_stepsOf S v4 m) fun x2 m1 =>
      xi_bI (E_X0_stepsOf S v5 m1) fun x4 m3 =>
      if v3 = ((Int8.ofInt (-9)).toInt32) then
        xi_bI (if S.1 v0 = 3 then E_X0_leads S v0 v1 v2 v4 v5 m3 else none) fun x6 m5 =>
        if x6 = 0 then
          G_X0_fewest_16 S k6 n v0 v1 v2 v3 v4 (v5 + Int32.ofInt 1) m5
        else
          if S.1 v0 = 3 then
            if S.1 v0 = 3 then
              G_X0_fewest_16 S k6 n v0 v1 v2 (x2 + x4) v4 (v5 + Int32.ofInt 1) (xi_wI (xi_wI m5 v0 1 v4) v0 2 v5)
            else none
          else none
      else
        if v3 ≤ (x2 + x4) then
          G_X0_fewest_16 S k6 n v0 v1 v2 v3 v4 (v5 + Int32.ofInt 1) m3
        else
          xi_bI (if S.1 v0 = 3 then E_X0_leads S v0 v1 v2 v4 v5 m3 else none) fun x11 m10 =>
          if x11 = 0 then
            G_X0_fewest_16 S k6 n v0 v1 v2 v3 v4 (v5 + Int32.ofInt 1) m10
          else
            if S.1 v0 = 3 then
              if S.1 v0 = 3 then
                G_X0_fewest_16 S k6 n v0 v1 v2 (x2 + x4) v4 (v5 + Int32.ofInt 1) (xi_wI (xi_wI m10 v0 1 v4) v0 2 v5)
              else none
            else none
set_option maxRecDepth 100000 in
set_option maxHeartbeats 4000000 in
theorem xs_X0_fewest_16 {S : xi_S} {res : xi_R} {k6 : Nat → Int32 → Int32 → Int32 → Int32 → xi_M → Option xi_R} (hk6 : ∀ (v0 : Nat) (v1 : Int32) (v2 : Int32) (v3 : Int32) (v4 : Int32) (m : xi_M), k6 v0 v1 v2 v3 v4 m = some res → xi_X S (P_X0_fewest S) (6, [some (.ref v0), some (.int v1), some (.int v2), some (.int v3), some (.int v4), none, none], [], m) res) : ∀ (n : Nat) (v0 : Nat) (v1 : Int32) (v2 : Int32) (v3 : Int32) (v4 : Int32) (v5 : Int32) (m : xi_M), G_X0_fewest_16 S k6 n v0 v1 v2 v3 v4 v5 m = some res → xi_X S (P_X0_fewest S) (16, [some (.ref v0), some (.int v1), some (.int v2), some (.int v3), some (.int v4), some (.int v5), none], [], m) res := by
  intro n
  induction n with
  | zero => intro v0 v1 v2 v3 v4 v5 m h; exact xi_no h
  | succ n ih =>
    intro v0 v1 v2 v3 v4 v5 m h
    unfold G_X0_fewest_16 at h
    refine xr_iload i_X0_fewest_16 rfl (q := 18) rfl ?_
    refine xr_bipush i_X0_fewest_18 (q := 20) rfl ?_
    by_cases c17 : ((Int8.ofInt 49).toInt32) ≤ v5
    · replace h := (if_pos c17).symm.trans h
      refine xr_if_icmp_ge_p i_X0_fewest_20 c17 (q := 82) t_X0_fewest_20 (q2 := 23) rfl ?_
      refine xr_iinc i_X0_fewest_82 rfl rfl (L2 := [some (.ref v0), some (.int v1), some (.int v2), some (.int v3), some (.int (v4 + Int32.ofInt 1)), some (.int v5), none]) rfl (q := 85) rfl ?_
      refine xr_goto i_X0_fewest_85 (q := 6) t_X0_fewest_85 ?_
      exact xi_X_le (xi_le_s (xi_le_s (xi_le_s (xi_le_s (xi_le_s (xi_le_n (xi_le_n xi_le_z))))))) (hk6 _ _ _ _ _ _ h)
    · replace h := (if_neg c17).symm.trans h
      refine xr_if_icmp_ge_n i_X0_fewest_20 c17 (q := 82) t_X0_fewest_20 (q2 := 23) rfl ?_
      refine xr_iload i_X0_fewest_23 rfl (q := 25) rfl ?_
      obtain ⟨x2, m1, em1, h⟩ := xi_bI_some h
      refine xr_SI i_X0_fewest_25 xcse_X0_45 rfl (As := [.int v4]) rfl (rest := []) rfl ((cc_X0_fewest_45 S _ _).trans em1) (q := 28) rfl ?_
      refine xr_iload i_X0_fewest_28 rfl (q := 30) rfl ?_
      obtain ⟨x4, m3, em3, h⟩ := xi_bI_some h
      refine xr_SI i_X0_fewest_30 xcse_X0_45 rfl (As := [.int v5]) rfl (rest := [.int x2]) rfl ((cc_X0_fewest_45 S _ _).trans em3) (q := 33) rfl ?_
      refine xr_iadd i_X0_fewest_33 (q := 34) rfl ?_
      refine xr_istore i_X0_fewest_34 rfl (L2 := [some (.ref v0), some (.int v1), some (.int v2), some (.int v3), some (.int v4), some (.int v5), some (.int (x2 + x4))]) rfl (q := 36) rfl ?_
      refine xr_iload_n i_X0_fewest_36 rfl (q := 37) rfl ?_
      refine xr_bipush i_X0_fewest_37 (q := 39) rfl ?_
      by_cases c16 : v3 = ((Int8.ofInt (-9)).toInt32)
      · replace h := (if_pos c16).symm.trans h
        refine xr_if_icmp_eq_p i_X0_fewest_39 c16 (q := 48) t_X0_fewest_39 (q2 := 42) rfl ?_
        refine xr_aload_n i_X0_fewest_48 rfl (q := 49) rfl ?_
        refine xr_iload_n i_X0_fewest_49 rfl (q := 50) rfl ?_
        refine xr_iload_n i_X0_fewest_50 rfl (q := 51) rfl ?_
        refine xr_iload i_X0_fewest_51 rfl (q := 53) rfl ?_
        refine xr_iload i_X0_fewest_53 rfl (q := 55) rfl ?_
        obtain ⟨x6, m5, em5, h⟩ := xi_bI_some h
        refine xr_VI i_X0_fewest_55 xcve_X0_48 rfl (As := [.ref v0, .int v1, .int v2, .int v4, .int v5]) rfl (rest := []) rfl ((cc_X0_fewest_48 S _ _ _ _ _ _).trans em5) (q := 58) rfl ?_
        by_cases c9 : x6 = 0
        · replace h := (if_pos c9).symm.trans h
          refine xr_ifCond_eq_p i_X0_fewest_58 c9 (q := 76) t_X0_fewest_58 (q2 := 61) rfl ?_
          refine xr_iinc i_X0_fewest_76 rfl rfl (L2 := [some (.ref v0), some (.int v1), some (.int v2), some (.int v3), some (.int v4), some (.int (v5 + Int32.ofInt 1)), some (.int (x2 + x4))]) rfl (q := 79) rfl ?_
          refine xr_goto i_X0_fewest_79 (q := 16) t_X0_fewest_79 ?_
          exact xi_X_le (xi_le_s (xi_le_s (xi_le_s (xi_le_s (xi_le_s (xi_le_s (xi_le_n xi_le_z))))))) (ih _ _ _ _ _ _ _ h)
        · replace h := (if_neg c9).symm.trans h
          refine xr_ifCond_eq_n i_X0_fewest_58 c9 (q := 76) t_X0_fewest_58 (q2 := 61) rfl ?_
          refine xr_iload i_X0_fewest_61 rfl (q := 63) rfl ?_
          refine xr_istore_n i_X0_fewest_63 rfl (L2 := [some (.ref v0), some (.int v1), some (.int v2), some (.int (x2 + x4)), some (.int v4), some (.int v5), some (.int (x2 + x4))]) rfl (q := 64) rfl ?_
          refine xr_aload_n i_X0_fewest_64 rfl (q := 65) rfl ?_
          refine xr_iload i_X0_fewest_65 rfl (q := 67) rfl ?_
          obtain ⟨c7, h⟩ := xi_if_some h
          refine xr_putI i_X0_fewest_67 xfe_X0_52 c7 (q := 70) rfl ?_
          refine xr_aload_n i_X0_fewest_70 rfl (q := 71) rfl ?_
          refine xr_iload i_X0_fewest_71 rfl (q := 73) rfl ?_
          obtain ⟨c8, h⟩ := xi_if_some h
          refine xr_putI i_X0_fewest_73 xfe_X0_56 c8 (q := 76) rfl ?_
          refine xr_iinc i_X0_fewest_76 rfl rfl (L2 := [some (.ref v0), some (.int v1), some (.int v2), some (.int (x2 + x4)), some (.int v4), some (.int (v5 + Int32.ofInt 1)), some (.int (x2 + x4))]) rfl (q := 79) rfl ?_
          refine xr_goto i_X0_fewest_79 (q := 16) t_X0_fewest_79 ?_
          exact xi_X_le (xi_le_s (xi_le_s (xi_le_s (xi_le_s (xi_le_s (xi_le_s (xi_le_n xi_le_z))))))) (ih _ _ _ _ _ _ _ h)
      · replace h := (if_neg c16).symm.trans h
        refine xr_if_icmp_eq_n i_X0_fewest_39 c16 (q := 48) t_X0_fewest_39 (q2 := 42) rfl ?_
        refine xr_iload i_X0_fewest_42 rfl (q := 44) rfl ?_
        refine xr_iload_n i_X0_fewest_44 rfl (q := 45) rfl ?_
        by_cases c15 : v3 ≤ (x2 + x4)
        · replace h := (if_pos c15).symm.trans h
          refine xr_if_icmp_ge_p i_X0_fewest_45 c15 (q := 76) t_X0_fewest_45 (q2 := 48) rfl ?_
          refine xr_iinc i_X0_fewest_76 rfl rfl (L2 := [some (.ref v0), some (.int v1), some (.int v2), some (.int v3), some (.int v4), some (.int (v5 + Int32.ofInt 1)), some (.int (x2 + x4))]) rfl (q := 79) rfl ?_
          refine xr_goto i_X0_fewest_79 (q := 16) t_X0_fewest_79 ?_
          exact xi_X_le (xi_le_s (xi_le_s (xi_le_s (xi_le_s (xi_le_s (xi_le_s (xi_le_n xi_le_z))))))) (ih _ _ _ _ _ _ _ h)
        · replace h := (if_neg c15).symm.trans h
          refine xr_if_icmp_ge_n i_X0_fewest_45 c15 (q := 76) t_X0_fewest_45 (q2 := 48) rfl ?_
          refine xr_aload_n i_X0_fewest_48 rfl (q := 49) rfl ?_
          refine xr_iload_n i_X0_fewest_49 rfl (q := 50) rfl ?_
          refine xr_iload_n i_X0_fewest_50 rfl (q := 51) rfl ?_
          refine xr_iload i_X0_fewest_51 rfl (q := 53) rfl ?_
          refine xr_iload i_X0_fewest_53 rfl (q := 55) rfl ?_
          obtain ⟨x11, m10, em10, h⟩ := xi_bI_some h
          refine xr_VI i_X0_fewest_55 xcve_X0_48 rfl (As := [.ref v0, .int v1, .int v2, .int v4, .int v5]) rfl (rest := []) rfl ((cc_X0_fewest_48 S _ _ _ _ _ _).trans em10) (q := 58) rfl ?_
          by_cases c14 : x11 = 0
          · replace h := (if_pos c14).symm.trans h
            refine xr_ifCond_eq_p i_X0_fewest_58 c14 (q := 76) t_X0_fewest_58 (q2 := 61) rfl ?_
            refine xr_iinc i_X0_fewest_76 rfl rfl (L2 := [some (.ref v0), some (.int v1), some (.int v2), some (.int v3), some (.int v4), some (.int (v5 + Int32.ofInt 1)), some (.int (x2 + x4))]) rfl (q := 79) rfl ?_
            refine xr_goto i_X0_fewest_79 (q := 16) t_X0_fewest_79 ?_
            exact xi_X_le (xi_le_s (xi_le_s (xi_le_s (xi_le_s (xi_le_s (xi_le_s (xi_le_n xi_le_z))))))) (ih _ _ _ _ _ _ _ h)
          · replace h := (if_neg c14).symm.trans h
            refine xr_ifCond_eq_n i_X0_fewest_58 c14 (q := 76) t_X0_fewest_58 (q2 := 61) rfl ?_
            refine xr_iload i_X0_fewest_61 rfl (q := 63) rfl ?_
            refine xr_istore_n i_X0_fewest_63 rfl (L2 := [some (.ref v0), some (.int v1), some (.int v2), some (.int (x2 + x4)), some (.int v4), some (.int v5), some (.int (x2 + x4))]) rfl (q := 64) rfl ?_
            refine xr_aload_n i_X0_fewest_64 rfl (q := 65) rfl ?_
            refine xr_iload i_X0_fewest_65 rfl (q := 67) rfl ?_
            obtain ⟨c12, h⟩ := xi_if_some h
            refine xr_putI i_X0_fewest_67 xfe_X0_52 c12 (q := 70) rfl ?_
            refine xr_aload_n i_X0_fewest_70 rfl (q := 71) rfl ?_
            refine xr_iload i_X0_fewest_71 rfl (q := 73) rfl ?_
            obtain ⟨c13, h⟩ := xi_if_some h
            refine xr_putI i_X0_fewest_73 xfe_X0_56 c13 (q := 76) rfl ?_
            refine xr_iinc i_X0_fewest_76 rfl rfl (L2 := [some (.ref v0), some (.int v1), some (.int v2), some (.int (x2 + x4)), some (.int v4), some (.int (v5 + Int32.ofInt 1)), some (.int (x2 + x4))]) rfl (q := 79) rfl ?_
            refine xr_goto i_X0_fewest_79 (q := 16) t_X0_fewest_79 ?_
            exact xi_X_le (xi_le_s (xi_le_s (xi_le_s (xi_le_s (xi_le_s (xi_le_s (xi_le_n xi_le_z))))))) (ih _ _ _ _ _ _ _ h)
def G_X0_fewest_6 (S : xi_S) : Nat → Nat → Int32 → Int32 → Int32 → Int32 → xi_M → Option xi_R
  | 0, _, _, _, _, _, _ => none
  | n + 1, v0, v1, v2, v3, v4, m =>
    if ((Int8.ofInt 49).toInt32) ≤ v4 then
      some (some (.int v3), m)
    else
      G_X0_fewest_16 S (G_X0_fewest_6 S n) 10000 v0 v1 v2 v3 v4 (Int32.ofInt 0) m
set_option maxRecDepth 100000 in
set_option maxHeartbeats 4000000 in
theorem xs_X0_fewest_6 {S : xi_S} {res : xi_R} : ∀ (n : Nat) (v0 : Nat) (v1 : Int32) (v2 : Int32) (v3 : Int32) (v4 : Int32) (m : xi_M), G_X0_fewest_6 S n v0 v1 v2 v3 v4 m = some res → xi_X S (P_X0_fewest S) (6, [some (.ref v0), some (.int v1), some (.int v2), some (.int v3), some (.int v4), none, none], [], m) res := by
  intro n
  induction n with
  | zero => intro v0 v1 v2 v3 v4 m h; exact xi_no h
  | succ n ih =>
    intro v0 v1 v2 v3 v4 m h
    unfold G_X0_fewest_6 at h
    refine xr_iload i_X0_fewest_6 rfl (q := 8) rfl ?_
    refine xr_bipush i_X0_fewest_8 (q := 10) rfl ?_
    by_cases c1 : ((Int8.ofInt 49).toInt32) ≤ v4
    · replace h := (if_pos c1).symm.trans h
      refine xr_if_icmp_ge_p i_X0_fewest_10 c1 (q := 88) t_X0_fewest_10 (q2 := 13) rfl ?_
      refine xr_iload_n i_X0_fewest_88 rfl (q := 89) rfl ?_
      exact xr_ireturn i_X0_fewest_89 rfl h
    · replace h := (if_neg c1).symm.trans h
      refine xr_if_icmp_ge_n i_X0_fewest_10 c1 (q := 88) t_X0_fewest_10 (q2 := 13) rfl ?_
      refine xr_iconst i_X0_fewest_13 (q := 14) rfl ?_
      refine xr_istore i_X0_fewest_14 rfl (L2 := [some (.ref v0), some (.int v1), some (.int v2), some (.int v3), some (.int v4), some (.int (Int32.ofInt 0)), none]) rfl (q := 16) rfl ?_
      exact xi_X_le (xi_le_s (xi_le_s (xi_le_s (xi_le_s (xi_le_s (xi_le_s (xi_le_n xi_le_z))))))) (xs_X0_fewest_16 ih 10000 _ _ _ _ _ _ _ h)
def E_X0_fewest (S : xi_S) (v0 : Nat) (v1 : Int32) (v2 : Int32) (m : xi_M) : Option xi_R :=
  G_X0_fewest_6 S 10000 v0 v1 v2 ((Int8.ofInt (-9)).toInt32) (Int32.ofInt 0) m
def F_X0_fewest (S : xi_S) : xi_F := fun As m => match As with
  | [.ref v0, .int v1, .int v2] => E_X0_fewest S v0 v1 v2 m
  | _ => none
set_option maxRecDepth 100000 in
set_option maxHeartbeats 4000000 in
theorem xe_X0_fewest {S : xi_S} {res : xi_R} (v0 : Nat) (v1 : Int32) (v2 : Int32) (m : xi_M) (h : E_X0_fewest S v0 v1 v2 m = some res) : xi_X S (P_X0_fewest S) (0, [some (.ref v0), some (.int v1), some (.int v2), none, none, none, none], [], m) res := by
  unfold E_X0_fewest at h
  refine xr_bipush i_X0_fewest_0 (q := 2) rfl ?_
  refine xr_istore_n i_X0_fewest_2 rfl (L2 := [some (.ref v0), some (.int v1), some (.int v2), some (.int ((Int8.ofInt (-9)).toInt32)), none, none, none]) rfl (q := 3) rfl ?_
  refine xr_iconst i_X0_fewest_3 (q := 4) rfl ?_
  refine xr_istore i_X0_fewest_4 rfl (L2 := [some (.ref v0), some (.int v1), some (.int v2), some (.int ((Int8.ofInt (-9)).toInt32)), some (.int (Int32.ofInt 0)), none, none]) rfl (q := 6) rfl ?_
  exact xi_X_le (xi_le_s (xi_le_s (xi_le_s (xi_le_s (xi_le_s (xi_le_n (xi_le_n xi_le_z))))))) (xs_X0_fewest_6 10000 _ _ _ _ _ _ h)
theorem po_X0_fewest {l : Launch} {E : xi_E} {S : xi_S} {D : va_G} {tys : List (ClassId × FieldType)} (hC : xCx E S tys) : xi_Pok l E S D vwCl tys xNs RX0 xTs cX0_fewest 7 2 (P_X0_fewest S) := ⟨xi_dc_ok, by rw [hC.2]; exact xfo_X0, xkio_X0, xklo_X0, xi_calls_ok (ins := .invokestatic) (List.forall_mem_cons.mpr ⟨(xc_X0_45 (sn_X0_stepsOf hC) (by decide)), fun _ h => absurd h List.not_mem_nil⟩), xi_calls_ok (ins := .invokevirtual) (List.forall_mem_cons.mpr ⟨(xc_X0_48 hC.1 (sn_X0_leads hC) (by decide)), fun _ h => absurd h List.not_mem_nil⟩)⟩
theorem sn_X0_fewest {l : Launch} {E : xi_E} {S : xi_S} {D : va_G} {tys : List (ClassId × FieldType)} (hC : xCx E S tys) : ∀ As m1 r m2, F_X0_fewest S As m1 = some (r, m2) → xi_Sound l E S D vwCl tys xNs xTs yX0_fewest cX0_fewest 7 (some .int) 2 As m1 r m2 := by
  intro As m1 r m2 h
  unfold F_X0_fewest at h
  split at h
  · exact xi_meth (P := P_X0_fewest S) (by decide) hC.1 (po_X0_fewest hC) (Nat.le_of_ble_eq_true rfl) rfl (xe_X0_fewest _ _ _ _ h)
  · exact xi_no h
end
