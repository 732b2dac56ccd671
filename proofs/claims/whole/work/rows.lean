section
/-! An interpreter of the bytecode that this system uses, over a memory of numbered cells of fixed shape:
    a cell is an int row, a row of references, or an object; references never change; what changes are ints and longs. -/
abbrev xi_M : Type := (Nat → Nat → Int32) × (Nat → Nat → Int64)
abbrev xi_L : Type := List (Option Value)
abbrev xi_T : Type := Nat × xi_L × List Value × xi_M
abbrev xi_R : Type := Option Value × xi_M
abbrev xi_C : Type := Nat → List Value → xi_M → Option xi_R
/-- the shape: the kind of a cell (0 int row, 1 and 2 rows of references, k + 3 an object of the k-th sort), a row's length, the references -/
abbrev xi_S : Type := (Nat → Nat) × (Nat → Nat) × (Nat → Nat → Option Nat)
/-- a method: instructions, fields (sort, place, type: 0 int 1 boolean 2 long 3 reference), constants, callees' arguments and results (0 void 1 int 2 long), callees (static, by object), its own result (0 void 1 int 2 boolean 3 long) -/
abbrev xi_P : Type := (Nat → Option (Instr × Nat)) × (Nat → Option (Nat × Nat × Nat)) × (Nat → Option Int32) × (Nat → Option Int64) × (Nat → Option (Nat × Nat)) × (Nat → Option (Nat × Nat)) × xi_C × xi_C × Nat
def xi_get : xi_L → Nat → Option Value
  | [], _ => none
  | v :: _, 0 => v
  | _ :: t, n + 1 => xi_get t n
def xi_set : xi_L → Nat → Option Value → xi_L
  | [], _, _ => []
  | _ :: t, 0, x => x :: t
  | v :: t, n + 1, x => v :: xi_set t n x
def xi_clr (L : xi_L) : Nat → xi_L
  | 0 => L
  | n + 1 => match xi_get L n with
    | some v => bif Nat.beq v.category 2 then xi_set L n none else L
    | none => L
def xi_st1 (L : xi_L) (i : Nat) (v : Value) : xi_L := xi_set (xi_clr L i) i (some v)
def xi_st2 (L : xi_L) (i : Nat) (v : Value) : xi_L := xi_set (xi_set (xi_clr L i) i (some v)) (i + 1) none
def xi_up (f : Nat → Nat → Int32) (a k : Nat) (v : Int32) : Nat → Nat → Int32 := fun b => if b = a then upd (f a) k v else f b
def xi_upL (f : Nat → Nat → Int64) (a k : Nat) (v : Int64) : Nat → Nat → Int64 := fun b => if b = a then vp_updL (f a) k v else f b
def xi_bI (q : Option xi_R) (k : Int32 → xi_M → Option xi_R) : Option xi_R := match q with
  | some (some (.int v), m) => k v m
  | _ => none
def xi_bJ (q : Option xi_R) (k : Int64 → xi_M → Option xi_R) : Option xi_R := match q with
  | some (some (.long v), m) => k v m
  | _ => none
def xi_bV (q : Option xi_R) (k : xi_M → Option xi_R) : Option xi_R := match q with
  | some (none, m) => k m
  | _ => none
def xi_sI (st : List Value) (k : Int32 → List Value → Option xi_R) : Option xi_R := match st with
  | .int x :: r => k x r
  | _ => none
def xi_sJ (st : List Value) (k : Int64 → List Value → Option xi_R) : Option xi_R := match st with
  | .long x :: r => k x r
  | _ => none
def xi_sR (st : List Value) (k : Nat → List Value → Option xi_R) : Option xi_R := match st with
  | .ref x :: r => k x r
  | _ => none
def xi_lI (v : Option Value) (k : Int32 → Option xi_R) : Option xi_R := match v with
  | some (.int x) => k x
  | _ => none
def xi_lJ (v : Option Value) (k : Int64 → Option xi_R) : Option xi_R := match v with
  | some (.long x) => k x
  | _ => none
def xi_lR (v : Option Value) (k : Nat → Option xi_R) : Option xi_R := match v with
  | some (.ref x) => k x
  | _ => none
def xi_to (pc : Nat) (off : Int) (k : Nat → Option xi_R) : Option xi_R := match (pc : Int) + off with
  | .ofNat t => k t
  | .negSucc _ => none
def xi_sw (k : Int → Option xi_R) (x : Int32) (d : Int) : Int → List Int → Option xi_R
  | _, [] => k d
  | lo, o :: os => if x.toInt = lo then k o else xi_sw k x d (lo + 1) os
def xi_lk (k : Int → Option xi_R) (x : Int32) (d : Int) : List (Int × Int) → Option xi_R
  | [] => k d
  | q :: ps => if q.1 = x.toInt then k q.2 else xi_lk k x d ps
def xi_cs (st : List Value) : Nat := (st.map fun v => v.category).sum
/-- a call's answer by its kind -/
def xi_an (rk : Nat) (q : Option xi_R) (rest : List Value) (k : List Value → xi_M → Option xi_R) : Option xi_R := match rk with
  | 0 => xi_bV q fun m => k rest m
  | 1 => xi_bI q fun v m => k (.int v :: rest) m
  | 2 => xi_bJ q fun v m => k (.long v :: rest) m
  | _ => none
/-- one instruction: what comes of it, if K tells what comes of the next state -/
def xi_op (S : xi_S) (P : xi_P) (K : xi_T → Option xi_R) (pc : Nat) (L : xi_L) (st : List Value) (m : xi_M) (i : Instr) : Option xi_R := match i with
  | .iconst n => K (pc + 1, L, .int (Int32.ofInt n) :: st, m)
  | .bipush n => K (pc + 2, L, .int (Int8.ofInt n).toInt32 :: st, m)
  | .sipush n => K (pc + 3, L, .int (Int16.ofInt n).toInt32 :: st, m)
  | .lconst n => K (pc + 1, L, .long (Int64.ofNat (n : Nat)) :: st, m)
  | .ldc x => (P.2.2.1 x).bind fun v => K (pc + 2, L, .int v :: st, m)
  | .ldc2_w x => (P.2.2.2.1 x).bind fun v => K (pc + 3, L, .long v :: st, m)
  | .iload i => xi_lI (xi_get L i) fun x => K (pc + 2, L, .int x :: st, m)
  | .iload_n i => xi_lI (xi_get L i) fun x => K (pc + 1, L, .int x :: st, m)
  | .lload i => xi_lJ (xi_get L i) fun x => K (pc + 2, L, .long x :: st, m)
  | .lload_n i => xi_lJ (xi_get L i) fun x => K (pc + 1, L, .long x :: st, m)
  | .aload i => xi_lR (xi_get L i) fun x => K (pc + 2, L, .ref x :: st, m)
  | .aload_n i => xi_lR (xi_get L i) fun x => K (pc + 1, L, .ref x :: st, m)
  | .istore i => xi_sI st fun x r => bif Nat.blt i L.length then K (pc + 2, xi_st1 L i (.int x), r, m) else none
  | .istore_n i => xi_sI st fun x r => bif Nat.blt i L.length then K (pc + 1, xi_st1 L i (.int x), r, m) else none
  | .lstore i => xi_sJ st fun x r => bif Nat.blt (i + 1) L.length then K (pc + 2, xi_st2 L i (.long x), r, m) else none
  | .lstore_n i => xi_sJ st fun x r => bif Nat.blt (i + 1) L.length then K (pc + 1, xi_st2 L i (.long x), r, m) else none
  | .iinc i n => xi_lI (xi_get L i) fun x => bif Nat.blt i L.length then K (pc + 3, xi_st1 L i (.int (x + Int32.ofInt n)), st, m) else none
  | .iadd => xi_sI st fun y r => xi_sI r fun x r => K (pc + 1, L, .int (x + y) :: r, m)
  | .isub => xi_sI st fun y r => xi_sI r fun x r => K (pc + 1, L, .int (x - y) :: r, m)
  | .imul => xi_sI st fun y r => xi_sI r fun x r => K (pc + 1, L, .int (x * y) :: r, m)
  | .iand => xi_sI st fun y r => xi_sI r fun x r => K (pc + 1, L, .int (x &&& y) :: r, m)
  | .ior => xi_sI st fun y r => xi_sI r fun x r => K (pc + 1, L, .int (x ||| y) :: r, m)
  | .ixor => xi_sI st fun y r => xi_sI r fun x r => K (pc + 1, L, .int (x ^^^ y) :: r, m)
  | .ishl => xi_sI st fun y r => xi_sI r fun x r => K (pc + 1, L, .int (x <<< (y &&& 31)) :: r, m)
  | .ishr => xi_sI st fun y r => xi_sI r fun x r => K (pc + 1, L, .int (x >>> (y &&& 31)) :: r, m)
  | .iushr => xi_sI st fun y r => xi_sI r fun x r => K (pc + 1, L, .int (x.toUInt32 >>> (y.toUInt32 &&& Int32.toUInt32 31)).toInt32 :: r, m)
  | .ineg => xi_sI st fun x r => K (pc + 1, L, .int (-x) :: r, m)
  | .idiv => xi_sI st fun y r => xi_sI r fun x r => if y = 0 then none else K (pc + 1, L, .int (x / y) :: r, m)
  | .irem => xi_sI st fun y r => xi_sI r fun x r => if y = 0 then none else K (pc + 1, L, .int (x - x / y * y) :: r, m)
  | .i2l => xi_sI st fun x r => K (pc + 1, L, .long x.toInt64 :: r, m)
  | .l2i => xi_sJ st fun x r => K (pc + 1, L, .int x.toInt32 :: r, m)
  | .i2b => xi_sI st fun x r => K (pc + 1, L, .int x.toInt8.toInt32 :: r, m)
  | .ladd => xi_sJ st fun y r => xi_sJ r fun x r => K (pc + 1, L, .long (x + y) :: r, m)
  | .lsub => xi_sJ st fun y r => xi_sJ r fun x r => K (pc + 1, L, .long (x - y) :: r, m)
  | .lmul => xi_sJ st fun y r => xi_sJ r fun x r => K (pc + 1, L, .long (x * y) :: r, m)
  | .ldiv => xi_sJ st fun y r => xi_sJ r fun x r => if y = 0 then none else K (pc + 1, L, .long (x / y) :: r, m)
  | .lrem => xi_sJ st fun y r => xi_sJ r fun x r => if y = 0 then none else K (pc + 1, L, .long (x - x / y * y) :: r, m)
  | .lcmp => xi_sJ st fun y r => xi_sJ r fun x r => K (pc + 1, L, .int (lg_cmp x y) :: r, m)
  | .dup => match st with
    | .ref a :: r => K (pc + 1, L, .ref a :: .ref a :: r, m)
    | .int a :: r => K (pc + 1, L, .int a :: .int a :: r, m)
    | _ => none
  | .dup2 => xi_sI st fun i r => xi_sR r fun a r => K (pc + 1, L, .int i :: .ref a :: .int i :: .ref a :: r, m)
  | .pop => xi_sI st fun _ r => K (pc + 1, L, r, m)
  | .goto o => xi_to pc o fun t => K (t, L, st, m)
  | .ifCond .eq o => xi_sI st fun x r => xi_to pc o fun t => if x = 0 then K (t, L, r, m) else K (pc + 3, L, r, m)
  | .ifCond .ne o => xi_sI st fun x r => xi_to pc o fun t => if x = 0 then K (pc + 3, L, r, m) else K (t, L, r, m)
  | .ifCond .lt o => xi_sI st fun x r => xi_to pc o fun t => if x < 0 then K (t, L, r, m) else K (pc + 3, L, r, m)
  | .ifCond .ge o => xi_sI st fun x r => xi_to pc o fun t => if 0 ≤ x then K (t, L, r, m) else K (pc + 3, L, r, m)
  | .ifCond .gt o => xi_sI st fun x r => xi_to pc o fun t => if 0 < x then K (t, L, r, m) else K (pc + 3, L, r, m)
  | .ifCond .le o => xi_sI st fun x r => xi_to pc o fun t => if x ≤ 0 then K (t, L, r, m) else K (pc + 3, L, r, m)
  | .if_icmp .eq o => xi_sI st fun y r => xi_sI r fun x r => xi_to pc o fun t => if x = y then K (t, L, r, m) else K (pc + 3, L, r, m)
  | .if_icmp .ne o => xi_sI st fun y r => xi_sI r fun x r => xi_to pc o fun t => if x = y then K (pc + 3, L, r, m) else K (t, L, r, m)
  | .if_icmp .lt o => xi_sI st fun y r => xi_sI r fun x r => xi_to pc o fun t => if x < y then K (t, L, r, m) else K (pc + 3, L, r, m)
  | .if_icmp .ge o => xi_sI st fun y r => xi_sI r fun x r => xi_to pc o fun t => if y ≤ x then K (t, L, r, m) else K (pc + 3, L, r, m)
  | .if_icmp .gt o => xi_sI st fun y r => xi_sI r fun x r => xi_to pc o fun t => if y < x then K (t, L, r, m) else K (pc + 3, L, r, m)
  | .if_icmp .le o => xi_sI st fun y r => xi_sI r fun x r => xi_to pc o fun t => if x ≤ y then K (t, L, r, m) else K (pc + 3, L, r, m)
  | .tableswitch d lo hi os => xi_sI st fun x r => bif decide (hi - lo + 1 = (os.toList.length : Int)) then xi_sw (fun o => xi_to pc o fun t => K (t, L, r, m)) x d lo os.toList else none
  | .lookupswitch d ps => xi_sI st fun x r => bif (ps.toList.zip (ps.toList.drop 1)).all (fun (a, next) => a.1 < next.1) then xi_lk (fun o => xi_to pc o fun t => K (t, L, r, m)) x d ps.toList else none
  | .getfield x => xi_sR st fun a r => (P.2.1 x).bind fun q => if S.1 a = q.1 + 3 then (match q.2.2 with
    | 2 => K (pc + 3, L, .long (m.2 a q.2.1) :: r, m)
    | 3 => (S.2.2 a q.2.1).bind fun b => K (pc + 3, L, .ref b :: r, m)
    | _ => K (pc + 3, L, .int (m.1 a q.2.1) :: r, m)) else none
  | .putfield x => (P.2.1 x).bind fun q => match q.2.2 with
    | 0 => xi_sI st fun v r => xi_sR r fun a r => if S.1 a = q.1 + 3 then K (pc + 3, L, r, (xi_up m.1 a q.2.1 v, m.2)) else none
    | 1 => xi_sI st fun v r => xi_sR r fun a r => if S.1 a = q.1 + 3 ∧ (v = 0 ∨ v = 1) then K (pc + 3, L, r, (xi_up m.1 a q.2.1 v, m.2)) else none
    | 2 => xi_sJ st fun v r => xi_sR r fun a r => if S.1 a = q.1 + 3 then K (pc + 3, L, r, (m.1, xi_upL m.2 a q.2.1 v)) else none
    | _ => none
  | .iaload => xi_sI st fun i r => xi_sR r fun a r => if S.1 a = 0 ∧ ¬ (i < 0 ∨ S.2.1 a ≤ i.toNatClampNeg) then K (pc + 1, L, .int (m.1 a i.toNatClampNeg) :: r, m) else none
  | .iastore => xi_sI st fun v r => xi_sI r fun i r => xi_sR r fun a r => if S.1 a = 0 ∧ ¬ (i < 0 ∨ S.2.1 a ≤ i.toNatClampNeg) then K (pc + 1, L, r, (xi_up m.1 a i.toNatClampNeg v, m.2)) else none
  | .aaload => xi_sI st fun i r => xi_sR r fun a r => if (S.1 a = 1 ∨ S.1 a = 2) ∧ ¬ (i < 0 ∨ S.2.1 a ≤ i.toNatClampNeg) then (S.2.2 a i.toNatClampNeg).bind fun b => K (pc + 1, L, .ref b :: r, m) else none
  | .arraylength => xi_sR st fun a r => if S.1 a = 0 ∨ S.1 a = 1 ∨ S.1 a = 2 then K (pc + 1, L, .int (Int32.ofNat (S.2.1 a)) :: r, m) else none
  | .invokestatic x => (P.2.2.2.2.1 x).bind fun q => bif Nat.ble q.1 st.length && Nat.ble (xi_cs (st.drop q.1)) 8 then xi_an q.2 (P.2.2.2.2.2.2.1 x (st.take q.1).reverse m) (st.drop q.1) fun st m => K (pc + 3, L, st, m) else none
  | .invokevirtual x => (P.2.2.2.2.2.1 x).bind fun q => bif Nat.ble q.1 st.length && Nat.ble (xi_cs (st.drop q.1)) 8 then xi_an q.2 (P.2.2.2.2.2.2.2.1 x (st.take q.1).reverse m) (st.drop q.1) fun st m => K (pc + 3, L, st, m) else none
  | .ireturn => match st, P.2.2.2.2.2.2.2.2 with
    | [.int v], 1 => some (some (.int v), m)
    | [.int v], 2 => if v = 0 ∨ v = 1 then some (some (.int v), m) else none
    | _, _ => none
  | .lreturn => match st, P.2.2.2.2.2.2.2.2 with
    | [.long v], 3 => some (some (.long v), m)
    | _, _ => none
  | .return_ => match st, P.2.2.2.2.2.2.2.2 with
    | [], 0 => some (none, m)
    | _, _ => none
  | _ => none
def xi_run (S : xi_S) (P : xi_P) (K : xi_T → Option xi_R) (t : xi_T) : Option xi_R := match P.1 t.1 with
  | none => none
  | some q => xi_op S P K t.1 t.2.1 t.2.2.1 t.2.2.2 q.1
/-- n steps at most, up to a stop -/
def xi_go (S : xi_S) (P : xi_P) (sp : Nat → Bool) (K : xi_T → Option xi_R) : Nat → xi_T → Option xi_R
  | 0 => K
  | n + 1 => xi_run S P fun t => bif sp t.1 then K t else xi_go S P sp K n t
end
section
/-! The interpreter's cells in the machine's heap. -/
/-- the world: addresses, how many cells, the field types of each sort of object, the rows' sorts -/
abbrev xi_E : Type := (Nat → Nat) × Nat × (Nat → List Nat) × (Nat → ClassId)
def xi_cv (E : xi_E) (v : Value) : Value := match v with
  | .ref a => .ref (E.1 a)
  | v => v
def xi_fv (E : xi_E) (S : xi_S) (m : xi_M) (a k t : Nat) : Value := if t = 2 then .long (m.2 a k) else if t = 3 then va_rf ((S.2.2 a k).map E.1) else .int (m.1 a k)
def xi_fs (E : xi_E) (S : xi_S) (m : xi_M) (a ci : Nat) : List Value := (E.2.2.1 ci).mapIdx fun k t => xi_fv E S m a k t
def xi_cel (E : xi_E) (S : xi_S) (m : xi_M) (a : Nat) : va_E :=
  if S.1 a = 0 then .inl (E.2.2.2 0, S.2.1 a, .inl (m.1 a))
  else if S.1 a = 1 then .inl (E.2.2.2 1, S.2.1 a, .inr (.inr (.inr (.inr fun i => (S.2.2 a i).map E.1))))
  else if S.1 a = 2 then .inl (E.2.2.2 2, S.2.1 a, .inr (.inr (.inr (.inr fun i => (S.2.2 a i).map E.1))))
  else .inr (S.1 a - 3, xi_fs E S m a (S.1 a - 3))
def xi_wld (E : xi_E) (S : xi_S) (m : xi_M) : va_W := (List.range E.2.1).map fun a => (E.1 a, xi_cel E S m a)
def xi_A (E : xi_E) : Nat → Prop := fun q => ∃ a, a < E.2.1 ∧ E.1 a = q
theorem xi_wld_get {E : xi_E} {S : xi_S} {m : xi_M} {a : Nat} (h : a < E.2.1) : (xi_wld E S m)[a]? = some (E.1 a, xi_cel E S m a) := by
  simp [xi_wld, h]
theorem xi_wld_set {E : xi_E} {S : xi_S} {m m' : xi_M} {a : Nat} {e : va_E} (h : a < E.2.1) (he : xi_cel E S m' a = e) (ho : ∀ b, b ≠ a → xi_cel E S m' b = xi_cel E S m b) : (xi_wld E S m).set a (E.1 a, e) = xi_wld E S m' := by
  apply List.ext_getElem?
  intro i
  rw [List.getElem?_set]
  by_cases hi : a = i
  · subst hi
    have hl : a < (xi_wld E S m).length := by simpa [xi_wld] using h
    rw [if_pos rfl, if_pos hl, xi_wld_get h, he]
  · rw [if_neg hi]
    by_cases hn : i < E.2.1
    · rw [xi_wld_get hn, xi_wld_get hn, ho i (fun q => hi q.symm)]
    · rw [List.getElem?_eq_none (by simpa [xi_wld] using hn), List.getElem?_eq_none (by simpa [xi_wld] using hn)]
theorem xi_wld_D {E : xi_E} {S : xi_S} {m : xi_M} (hi : ∀ a b, a < E.2.1 → b < E.2.1 → E.1 a = E.1 b → a = b) : va_D (xi_A E) (xi_wld E S m) := by
  refine ⟨fun i j p q hp hq e => ?_, fun k q hq => ?_⟩
  · have h1 : i < E.2.1 := by
      have := (List.getElem?_eq_some_iff.mp hp).1
      simpa [xi_wld] using this
    have h2 : j < E.2.1 := by
      have := (List.getElem?_eq_some_iff.mp hq).1
      simpa [xi_wld] using this
    rw [xi_wld_get h1] at hp
    rw [xi_wld_get h2] at hq
    cases hp
    cases hq
    exact hi i j h1 h2 e
  · have h1 : k < E.2.1 := by
      have := (List.getElem?_eq_some_iff.mp hq).1
      simpa [xi_wld] using this
    rw [xi_wld_get h1] at hq
    cases hq
    exact ⟨k, h1, rfl⟩
/-! locals -/
theorem xi_get_len {L : xi_L} : ∀ {i : Nat} {v : Value}, xi_get L i = some v → i < L.length := by
  induction L with
  | nil => intro i v h; cases h
  | cons w t ih =>
    intro i v h
    cases i with
    | zero => exact Nat.succ_pos _
    | succ n => exact Nat.succ_lt_succ (ih h)
theorem xi_get_set {L : xi_L} : ∀ {i j : Nat} {x : Option Value} {v : Value}, xi_get (xi_set L i x) j = some v → (j = i ∧ x = some v) ∨ (j ≠ i ∧ xi_get L j = some v) := by
  induction L with
  | nil => intro i j x v h; cases h
  | cons w t ih =>
    intro i j x v h
    cases i with
    | zero =>
      cases j with
      | zero => exact Or.inl ⟨rfl, h⟩
      | succ n => exact Or.inr ⟨Nat.succ_ne_zero n, h⟩
    | succ k =>
      cases j with
      | zero => exact Or.inr ⟨fun q => Nat.succ_ne_zero k q.symm, h⟩
      | succ n =>
        rcases ih (i := k) (j := n) h with ⟨e, hx⟩ | ⟨e, hx⟩
        · exact Or.inl ⟨by rw [e], hx⟩
        · exact Or.inr ⟨fun q => e (Nat.succ.inj q), hx⟩
theorem xi_set_len {L : xi_L} : ∀ {i : Nat} {x : Option Value}, (xi_set L i x).length = L.length := by
  induction L with
  | nil => intro i x; rfl
  | cons w t ih =>
    intro i x
    cases i with
    | zero => rfl
    | succ n => exact congrArg Nat.succ (ih (i := n) (x := x))
theorem xi_get_clr {L : xi_L} {i j : Nat} {v : Value} (h : xi_get (xi_clr L i) j = some v) : xi_get L j = some v ∧ ¬ (j + 1 = i ∧ v.category = 2) := by
  cases i with
  | zero => exact ⟨h, fun q => Nat.succ_ne_zero j q.1⟩
  | succ n =>
    unfold xi_clr at h
    dsimp only at h
    cases hg : xi_get L n with
    | none =>
      rw [hg] at h
      dsimp only at h
      refine ⟨h, fun q => ?_⟩
      have e : j = n := Nat.succ.inj q.1
      rw [e, hg] at h
      cases h
    | some w =>
      rw [hg] at h
      dsimp only at h
      cases hc : Nat.beq w.category 2 with
      | true =>
        rw [hc] at h
        rcases xi_get_set h with ⟨e, hx⟩ | ⟨e, hx⟩
        · cases hx
        · exact ⟨hx, fun q => e (Nat.succ.inj q.1)⟩
      | false =>
        rw [hc] at h
        have h : xi_get L j = some v := h
        refine ⟨h, fun q => ?_⟩
        have e : j = n := Nat.succ.inj q.1
        rw [e, hg] at h
        cases h
        rw [q.2] at hc
        cases hc
def xi_lv (E : xi_E) (ls : Array Slot) (nL : Nat) (L : xi_L) : Prop := L.length = nL ∧ ls.size = nL ∧ lv_wf ls ∧ ∀ (i : Nat) (v : Value), xi_get L i = some v → ls[i]? = some (.val (xi_cv E v))
def xi_lo (E : xi_E) (L : xi_L) : List (Nat × Value) := (List.range L.length).filterMap fun i => (xi_get L i).map fun v => (i, xi_cv E v)
theorem xi_lo_mem {E : xi_E} {L : xi_L} {q : Nat × Value} : q ∈ xi_lo E L ↔ ∃ v, xi_get L q.1 = some v ∧ q.2 = xi_cv E v := by
  unfold xi_lo
  rw [List.mem_filterMap]
  constructor
  · rintro ⟨i, -, h⟩
    cases hg : xi_get L i with
    | none => rw [hg] at h; cases h
    | some v =>
      rw [hg] at h
      cases h
      exact ⟨v, hg, rfl⟩
  · rintro ⟨v, h1, h2⟩
    refine ⟨q.1, List.mem_range.mpr (xi_get_len h1), ?_⟩
    rw [h1]
    show some (q.1, xi_cv E v) = some q
    rw [← h2]
theorem xi_lv.has {E : xi_E} {ls : Array Slot} {nL : Nat} {L : xi_L} (h : xi_lv E ls nL L) : lv_has ls nL (xi_lo E L) := by
  refine ⟨h.2.1, h.2.2.1, fun q hq => ?_⟩
  obtain ⟨v, h1, h2⟩ := xi_lo_mem.mp hq
  rw [h2]
  exact h.2.2.2 _ _ h1
theorem xi_cv_cat (E : xi_E) (v : Value) : (xi_cv E v).category = v.category := by cases v <;> rfl
theorem xi_lv_st1 {E : xi_E} {ls ls' : Array Slot} {nL i : Nat} {L : xi_L} {v : Value} (h0 : xi_lv E ls nL L) (h : lv_has ls' nL ((i, xi_cv E v) :: (xi_lo E L).filter (fun q => !(q.1 == i) && !(q.1 + 1 == i && q.2.category == 2)))) : xi_lv E ls' nL (xi_st1 L i v) := by
  refine ⟨?_, h.1, h.2.1, fun j w hw => ?_⟩
  · unfold xi_st1 xi_clr
    rw [xi_set_len]
    cases i with
    | zero => exact h0.1
    | succ n =>
      dsimp only
      split
      · rename_i u _
        cases Nat.beq u.category 2
        · exact h0.1
        · exact xi_set_len.trans h0.1
      · exact h0.1
  · rcases xi_get_set hw with ⟨e, hx⟩ | ⟨e, hx⟩
    · cases hx
      rw [e]
      exact h.2.2 (i, xi_cv E v) List.mem_cons_self
    · obtain ⟨g1, g2⟩ := xi_get_clr hx
      refine h.2.2 (j, xi_cv E w) (List.mem_cons_of_mem _ (List.mem_filter.mpr ⟨xi_lo_mem.mpr ⟨w, g1, rfl⟩, ?_⟩))
      have e1 : (j == i) = false := by simpa using e
      show (!(j == i) && !(j + 1 == i && (xi_cv E w).category == 2)) = true
      rw [e1, xi_cv_cat]
      by_cases e2 : j + 1 = i
      · have e3 : ¬ w.category = 2 := fun q => g2 ⟨e2, q⟩
        simp [e2, e3]
      · simp [e2]
theorem xi_lv_st2 {E : xi_E} {ls ls' : Array Slot} {nL i : Nat} {L : xi_L} {v : Value} (h0 : xi_lv E ls nL L) (h : lv_has ls' nL ((i, xi_cv E v) :: (xi_lo E L).filter (fun q => !(q.1 == i) && (!(q.1 == i + 1) && !(q.1 + 1 == i && q.2.category == 2))))) : xi_lv E ls' nL (xi_st2 L i v) := by
  refine ⟨?_, h.1, h.2.1, fun j w hw => ?_⟩
  · unfold xi_st2 xi_clr
    rw [xi_set_len, xi_set_len]
    cases i with
    | zero => exact h0.1
    | succ n =>
      dsimp only
      split
      · rename_i u _
        cases Nat.beq u.category 2
        · exact h0.1
        · exact xi_set_len.trans h0.1
      · exact h0.1
  · rcases xi_get_set hw with ⟨e, hx⟩ | ⟨e, hx⟩
    · cases hx
    · rcases xi_get_set hx with ⟨e4, hy⟩ | ⟨e4, hy⟩
      · cases hy
        rw [e4]
        exact h.2.2 (i, xi_cv E v) List.mem_cons_self
      · obtain ⟨g1, g2⟩ := xi_get_clr hy
        refine h.2.2 (j, xi_cv E w) (List.mem_cons_of_mem _ (List.mem_filter.mpr ⟨xi_lo_mem.mpr ⟨w, g1, rfl⟩, ?_⟩))
        have e1 : (j == i) = false := by simpa using e4
        have e5 : (j == i + 1) = false := by simpa using e
        show (!(j == i) && (!(j == i + 1) && !(j + 1 == i && (xi_cv E w).category == 2))) = true
        rw [e1, e5, xi_cv_cat]
        by_cases e2 : j + 1 = i
        · have e3 : ¬ w.category = 2 := fun q => g2 ⟨e2, q⟩
          simp [e2, e3]
        · simp [e2]
/-! what a pop, a load, a jump that came to something says -/
theorem xi_sI_some {st : List Value} {k : Int32 → List Value → Option xi_R} {res : xi_R} (h : xi_sI st k = some res) : ∃ x r, st = .int x :: r ∧ k x r = some res := by
  unfold xi_sI at h
  split at h
  · exact ⟨_, _, rfl, h⟩
  · cases h
theorem xi_sJ_some {st : List Value} {k : Int64 → List Value → Option xi_R} {res : xi_R} (h : xi_sJ st k = some res) : ∃ x r, st = .long x :: r ∧ k x r = some res := by
  unfold xi_sJ at h
  split at h
  · exact ⟨_, _, rfl, h⟩
  · cases h
theorem xi_sR_some {st : List Value} {k : Nat → List Value → Option xi_R} {res : xi_R} (h : xi_sR st k = some res) : ∃ x r, st = .ref x :: r ∧ k x r = some res := by
  unfold xi_sR at h
  split at h
  · exact ⟨_, _, rfl, h⟩
  · cases h
theorem xi_lI_some {v : Option Value} {k : Int32 → Option xi_R} {res : xi_R} (h : xi_lI v k = some res) : ∃ x, v = some (.int x) ∧ k x = some res := by
  unfold xi_lI at h
  split at h
  · exact ⟨_, rfl, h⟩
  · cases h
theorem xi_lJ_some {v : Option Value} {k : Int64 → Option xi_R} {res : xi_R} (h : xi_lJ v k = some res) : ∃ x, v = some (.long x) ∧ k x = some res := by
  unfold xi_lJ at h
  split at h
  · exact ⟨_, rfl, h⟩
  · cases h
theorem xi_lR_some {v : Option Value} {k : Nat → Option xi_R} {res : xi_R} (h : xi_lR v k = some res) : ∃ x, v = some (.ref x) ∧ k x = some res := by
  unfold xi_lR at h
  split at h
  · exact ⟨_, rfl, h⟩
  · cases h
theorem xi_to_some {pc : Nat} {off : Int} {k : Nat → Option xi_R} {res : xi_R} (h : xi_to pc off k = some res) : ∃ t : Nat, (pc : Int) + off = (t : Int) ∧ k t = some res := by
  unfold xi_to at h
  split at h
  · rename_i t ht
    exact ⟨t, ht, h⟩
  · cases h
theorem xi_bind_some {α β : Type} {o : Option α} {k : α → Option β} {res : β} (h : o.bind k = some res) : ∃ x, o = some x ∧ k x = some res := by
  cases o with
  | none => cases h
  | some x => exact ⟨x, rfl, h⟩
theorem xi_bif_some {b : Bool} {x : Option xi_R} {res : xi_R} (h : (bif b then x else none) = some res) : b = true ∧ x = some res := by
  cases b with
  | true => exact ⟨rfl, h⟩
  | false => cases h
theorem xi_if_some {c : Prop} [Decidable c] {x : Option xi_R} {res : xi_R} (h : (if c then x else none) = some res) : c ∧ x = some res := by
  by_cases hc : c
  · rw [if_pos hc] at h; exact ⟨hc, h⟩
  · rw [if_neg hc] at h; cases h
theorem xi_ifn_some {c : Prop} [Decidable c] {x : Option xi_R} {res : xi_R} (h : (if c then none else x) = some res) : ¬ c ∧ x = some res := by
  by_cases hc : c
  · rw [if_pos hc] at h; cases h
  · rw [if_neg hc] at h; exact ⟨hc, h⟩
theorem xi_an_some {rk : Nat} {q : Option xi_R} {rest : List Value} {k : List Value → xi_M → Option xi_R} {res : xi_R} (h : xi_an rk q rest k = some res) : ∃ (r : Option Value) (m : xi_M), q = some (r, m) ∧ k (r.toList ++ rest) m = some res := by
  unfold xi_an at h
  split at h
  · unfold xi_bV at h
    split at h
    · exact ⟨_, _, rfl, h⟩
    · cases h
  · unfold xi_bI at h
    split at h
    · exact ⟨_, _, rfl, h⟩
    · cases h
  · unfold xi_bJ at h
    split at h
    · exact ⟨_, _, rfl, h⟩
    · cases h
  · cases h
end
section
/-! One step of the interpreter is a walk of the machine. -/
/-- of a field that an instruction names: its sort of object, its place there, its type, and the tables' words -/
def xi_Fok (own : String) (Ts : List Cond) (cl : List vw_C) (ft : Nat → List Nat) (idx ci k t : Nat) : Prop :=
  ∃ (C : String) (T : u_T) (n : Nat) (ty0 : Nat → FieldType), cl[ci]? = some (C, T, n) ∧ k < n ∧ (∀ w ∈ u_ws C T n, w ∈ Ts) ∧ Cond.fieldLink own idx (T k).1 (T k).2.1 (T k).2.2.1 ∈ Ts ∧ (ft ci)[k]? = some t ∧
    (∀ j, j < n → parseFieldDescriptor (T j).2.2.1 = some (ty0 j)) ∧ (∀ a, a < n → ∀ b, b < n → a ≠ b → (T a).2.1 ≠ (T b).2.1) ∧ (t = 0 → ty0 k = .int) ∧ (t = 1 → ty0 k = .boolean) ∧ (t = 2 → ty0 k = .long) ∧ (t < 3 → (T k).2.2.2 = false)
/-- a call, at the machine: from the world m with the arguments on the stack to the world m2 with the answer there -/
def xi_Cal (l : Launch) (E : xi_E) (S : xi_S) (D : va_G) (cl : List vw_C) (tys : List (ClassId × FieldType)) (own : String) (Ts : List Cond) (cc : ByteArray) (nL d : Nat) (ins : Instr) (As : List Value) (m1 : xi_M) (r : Option Value) (m2 : xi_M) : Prop :=
  ∀ (p : Program) (e : Env) (R : Room) (s : State) (m : MethodId) (args : Array Value) (below : List Frame) (meth : Method) (c : Code) (H : Heap) (locs : List Loc) (Q : State → Prop) (pc : Nat) (ls : Array Slot) (rest : List Value),
    CallFix p m c cc nL s args Ts own → va_K D cl tys s → d ≤ R.frames → 100 * d ≤ R.locals → ls.size = nL → xi_cs rest ≤ 8 → decode cc pc = .ok (ins, 3) →
    va_P D cl (xi_wld E S m1) H → va_S (xi_A E) s.heap H locs →
    (∀ (H1 : Heap) (locs1 : List Loc), va_P D cl (xi_wld E S m2) H1 → va_S (xi_A E) s.heap H1 locs1 → W p l e R s m args below meth c H1 locs1 0 0 Q (F0 m (pc + 3) ls ((r.map (xi_cv E)).toList ++ rest))) →
    W p l e R s m args below meth c H locs 0 0 Q (F0 m pc ls ((As.map (xi_cv E)).reverse ++ rest))
/-- the shape and the addresses are as the machine's tables want them -/
def xi_Eok (E : xi_E) (S : xi_S) (cl : List vw_C) (tys : List (ClassId × FieldType)) : Prop :=
  (∀ a b, a < E.2.1 → b < E.2.1 → E.1 a = E.1 b → a = b) ∧ (∀ a, S.1 a < cl.length + 3 → a < E.2.1) ∧ tys[0]? = some (E.2.2.2 0, .int) ∧ (∃ C, tys[1]? = some (E.2.2.2 1, .object C)) ∧ (∃ C, tys[2]? = some (E.2.2.2 2, .object C))
/-- how long an instruction is -/
def xi_len (i : Instr) (n : Nat) : Nat := match i with
  | .bipush _ | .ldc _ | .iload _ | .lload _ | .aload _ | .istore _ | .lstore _ => 2
  | .sipush _ | .ldc2_w _ | .iinc _ _ | .goto _ | .ifCond _ _ | .if_icmp _ _ | .getfield _ | .putfield _ | .invokestatic _ | .invokevirtual _ => 3
  | .tableswitch _ _ _ _ | .lookupswitch _ _ => n
  | _ => 1
/-- a method's tables are those of its bytes and of its constants -/
def xi_Pok (l : Launch) (E : xi_E) (S : xi_S) (D : va_G) (cl : List vw_C) (tys : List (ClassId × FieldType)) (own : String) (Ts : List Cond) (cc : ByteArray) (nL d : Nat) (P : xi_P) : Prop :=
  (∀ pc i n, P.1 pc = some (i, n) → decode cc pc = .ok (i, n) ∧ n = xi_len i n) ∧
  (∀ x ci k t, P.2.1 x = some (ci, k, t) → xi_Fok own Ts cl E.2.2.1 x ci k t) ∧
  (∀ x v, P.2.2.1 x = some v → Cond.constant own x v ∈ Ts) ∧
  (∀ x v, P.2.2.2.1 x = some v → Cond.constantLong own x v ∈ Ts) ∧
  (∀ x As m1 r m2, P.2.2.2.2.2.2.1 x As m1 = some (r, m2) → xi_Cal l E S D cl tys own Ts cc nL d (.invokestatic x) As m1 r m2) ∧
  (∀ x As m1 r m2, P.2.2.2.2.2.2.2.1 x As m1 = some (r, m2) → xi_Cal l E S D cl tys own Ts cc nL d (.invokevirtual x) As m1 r m2)
def xi_rty (rt : Nat) : Option FieldType := match rt with
  | 0 => none
  | 1 => some .int
  | 2 => some .boolean
  | _ => some .long
/-- what holds when a method has answered -/
def xi_Q (E : xi_E) (S : xi_S) (D : va_G) (cl : List vw_C) (res : xi_R) : Array Value → State → Outcome → State → Prop :=
  fun _ st o t => o = .returned (res.1.map (xi_cv E)) ∧ va_P D cl (xi_wld E S res.2) t.heap ∧ va_F (xi_A E) st t
section XW
variable {p : Program} {l : Launch} {e : Env} {R : Room} {s : State} {m : MethodId} {args : Array Value} {below : List Frame} {meth : Method} {c : Code}
variable {E : xi_E} {S : xi_S} {D : va_G} {cl : List vw_C} {tys : List (ClassId × FieldType)} {own : String} {Ts : List Cond} {cc : ByteArray} {nL d : Nat} {P : xi_P} {res : xi_R}
def xi_G (p : Program) (l : Launch) (e : Env) (R : Room) (s : State) (m : MethodId) (args : Array Value) (below : List Frame) (meth : Method) (c : Code) (E : xi_E) (S : xi_S) (D : va_G) (cl : List vw_C) (nL : Nat) (Q : State → Prop) (t : xi_T) : Prop :=
  ∀ (H : Heap) (locs : List Loc) (ls : Array Slot), va_P D cl (xi_wld E S t.2.2.2) H → va_S (xi_A E) s.heap H locs → xi_lv E ls nL t.2.1 →
    W p l e R s m args below meth c H locs 0 0 Q (F0 m t.1 ls (t.2.2.1.map (xi_cv E)))
theorem xi_cel_obj {m0 : xi_M} {a ci : Nat} (h : S.1 a = ci + 3) : xi_cel E S m0 a = .inr (ci, xi_fs E S m0 a ci) := by
  unfold xi_cel
  rw [if_neg (by omega), if_neg (by omega), if_neg (by omega), h]
  rfl
theorem xi_cel_row {m0 : xi_M} {a : Nat} (h : S.1 a = 0) : xi_cel E S m0 a = .inl (E.2.2.2 0, S.2.1 a, .inl (m0.1 a)) := by
  unfold xi_cel
  rw [if_pos h]
theorem xi_fs_get {m0 : xi_M} {a ci k t : Nat} (h : (E.2.2.1 ci)[k]? = some t) : (xi_fs E S m0 a ci)[k]? = some (xi_fv E S m0 a k t) := by
  unfold xi_fs
  rw [List.getElem?_mapIdx, h]
  rfl
theorem xi_fs_set {m0 m1 : xi_M} {a ci k t : Nat} {v : Value} (h : (E.2.2.1 ci)[k]? = some t) (hv : xi_fv E S m1 a k t = v) (ho : ∀ j u, j ≠ k → xi_fv E S m1 a j u = xi_fv E S m0 a j u) : (xi_fs E S m0 a ci).set k v = xi_fs E S m1 a ci := by
  apply List.ext_getElem?
  intro i
  rw [List.getElem?_set]
  by_cases hi : k = i
  · subst hi
    have hl : k < (xi_fs E S m0 a ci).length := by
      have := (List.getElem?_eq_some_iff.mp h).1
      simpa [xi_fs] using this
    rw [if_pos rfl, if_pos hl, xi_fs_get h, hv]
  · rw [if_neg hi]
    unfold xi_fs
    rw [List.getElem?_mapIdx, List.getElem?_mapIdx]
    cases (E.2.2.1 ci)[i]? with
    | none => rfl
    | some u => exact congrArg some (ho i u (fun q => hi q.symm)).symm
theorem xi_up_ne {f : Nat → Nat → Int32} {a k b : Nat} {v : Int32} (h : b ≠ a) : xi_up f a k v b = f b := if_neg h
theorem xi_up_eq {f : Nat → Nat → Int32} {a k : Nat} {v : Int32} : xi_up f a k v a = upd (f a) k v := if_pos rfl
theorem xi_upL_ne {f : Nat → Nat → Int64} {a k b : Nat} {v : Int64} (h : b ≠ a) : xi_upL f a k v b = f b := if_neg h
theorem xi_upL_eq {f : Nat → Nat → Int64} {a k : Nat} {v : Int64} : xi_upL f a k v a = vp_updL (f a) k v := if_pos rfl
theorem xi_cel_ne {m0 m1 : xi_M} {b : Nat} (h1 : m1.1 b = m0.1 b) (h2 : m1.2 b = m0.2 b) : xi_cel E S m1 b = xi_cel E S m0 b := by
  unfold xi_cel xi_fs xi_fv
  rw [h1, h2]
theorem xi_setI {m0 : xi_M} {a ci k t : Nat} {v : Int32} (ha : a < E.2.1) (hk : S.1 a = ci + 3) (ht : (E.2.2.1 ci)[k]? = some t) (h2 : t ≠ 2) (h3 : t ≠ 3) : (xi_wld E S m0).set a (E.1 a, .inr (ci, (xi_fs E S m0 a ci).set k (.int v))) = xi_wld E S (xi_up m0.1 a k v, m0.2) := by
  refine xi_wld_set ha ?_ (fun b hb => xi_cel_ne (xi_up_ne hb) rfl)
  rw [xi_cel_obj hk, xi_fs_set (m1 := (xi_up m0.1 a k v, m0.2)) ht ?_ ?_]
  · unfold xi_fv
    dsimp only
    rw [if_neg h2, if_neg h3, xi_up_eq]
    simp [upd]
  · intro j u hj
    unfold xi_fv
    dsimp only
    rw [xi_up_eq]
    simp [upd, hj]
theorem xi_setJ {m0 : xi_M} {a ci k : Nat} {v : Int64} (ha : a < E.2.1) (hk : S.1 a = ci + 3) (ht : (E.2.2.1 ci)[k]? = some 2) : (xi_wld E S m0).set a (E.1 a, .inr (ci, (xi_fs E S m0 a ci).set k (.long v))) = xi_wld E S (m0.1, xi_upL m0.2 a k v) := by
  refine xi_wld_set ha ?_ (fun b hb => xi_cel_ne rfl (xi_upL_ne hb))
  rw [xi_cel_obj hk, xi_fs_set (m1 := (m0.1, xi_upL m0.2 a k v)) ht ?_ ?_]
  · unfold xi_fv
    rw [if_pos rfl]
    show Value.long (xi_upL m0.2 a k v a k) = _
    rw [xi_upL_eq]
    simp [vp_updL]
  · intro j u hj
    unfold xi_fv
    dsimp only
    rw [xi_upL_eq]
    simp [vp_updL, hj]
theorem xi_setR {m0 : xi_M} {a k : Nat} {v : Int32} (ha : a < E.2.1) (hk : S.1 a = 0) : (xi_wld E S m0).set a (E.1 a, .inl (E.2.2.2 0, S.2.1 a, .inl (upd (m0.1 a) k v))) = xi_wld E S (xi_up m0.1 a k v, m0.2) := by
  refine xi_wld_set ha ?_ (fun b hb => xi_cel_ne (xi_up_ne hb) rfl)
  rw [xi_cel_row hk]
  dsimp only
  rw [xi_up_eq]
theorem xi_01 {v : Int32} (h : v = 0 ∨ v = 1) : v &&& 1 = v := by
  rcases h with rfl | rfl <;> decide +kernel
theorem xi_app (st : List Value) (n : Nat) : st.map (xi_cv E) = (((st.take n).reverse.map (xi_cv E)).reverse ++ (st.drop n).map (xi_cv E)) := by
  rw [List.map_reverse, List.reverse_reverse, ← List.map_append, List.take_append_drop]
theorem xi_cs_cv (st : List Value) : xi_cs (st.map (xi_cv E)) = xi_cs st := by
  unfold xi_cs
  rw [List.map_map]
  congr 1
  apply List.map_congr_left
  intro v _
  exact xi_cv_cat E v
theorem xi_toL (r : Option Value) (st : List Value) : ((r.map (xi_cv E)).toList ++ st.map (xi_cv E)) = (r.toList ++ st).map (xi_cv E) := by
  cases r <;> rfl
end XW
end
section
/-! One step of the interpreter is a walk of the machine: instruction by instruction. -/
section XV
variable {p : Program} {l : Launch} {e : Env} {R : Room} {s : State} {m : MethodId} {args : Array Value} {below : List Frame} {meth : Method} {c : Code}
variable {E : xi_E} {S : xi_S} {D : va_G} {cl : List vw_C} {tys : List (ClassId × FieldType)} {own : String} {Ts : List Cond} {cc : ByteArray} {nL d : Nat} {P : xi_P} {res : xi_R}
theorem xi_jump {Q : State → Prop} {pc : Nat} {o : Int} {K : xi_T → Option xi_R} {L : xi_L} {st : List Value} {m0 : xi_M} (ih : ∀ t', K t' = some res → xi_G p l e R s m args below meth c E S D cl nL Q t') (h : xi_to pc o (fun t => K (t, L, st, m0)) = some res) : ∃ t : Nat, (pc : Int) + o = (t : Int) ∧ xi_G p l e R s m args below meth c E S D cl nL Q (t, L, st, m0) := by
  obtain ⟨t, h1, h2⟩ := xi_to_some h
  exact ⟨t, h1, ih _ h2⟩
theorem xi_sw_some {k : Int → Option xi_R} {x : Int32} {d0 : Int} : ∀ {os : List Int} {lo : Int}, xi_sw k x d0 lo os = some res → (∃ o, (¬ x.toInt < lo ∧ ¬ lo + os.length - 1 < x.toInt ∧ os[(x.toInt - lo).toNat]? = some o) ∧ k o = some res) ∨ ((x.toInt < lo ∨ lo + os.length - 1 < x.toInt) ∧ k d0 = some res) := by
  intro os
  induction os with
  | nil =>
    intro lo h
    refine Or.inr ⟨?_, h⟩
    simp only [List.length_nil]
    omega
  | cons o os ih =>
    intro lo h
    unfold xi_sw at h
    by_cases hx : x.toInt = lo
    · rw [if_pos hx] at h
      refine Or.inl ⟨o, ⟨by omega, by simp only [List.length_cons]; omega, ?_⟩, h⟩
      rw [hx, Int.sub_self]
      rfl
    · rw [if_neg hx] at h
      rcases ih h with ⟨o2, ⟨g1, g2, g3⟩, g4⟩ | ⟨g1, g2⟩
      · refine Or.inl ⟨o2, ⟨by omega, by simp only [List.length_cons]; omega, ?_⟩, g4⟩
        have e1 : (x.toInt - lo).toNat = (x.toInt - (lo + 1)).toNat + 1 := by omega
        rw [e1, List.getElem?_cons_succ]
        exact g3
      · refine Or.inr ⟨?_, g2⟩
        simp only [List.length_cons]
        omega
theorem xi_lk_some {k : Int → Option xi_R} {x : Int32} {d0 : Int} : ∀ {ps : List (Int × Int)}, xi_lk k x d0 ps = some res → k (Op.lookupswitch.offset ps d0 x.toInt) = some res := by
  intro ps
  induction ps with
  | nil => intro h; exact h
  | cons q ps ih =>
    intro h
    obtain ⟨a, o⟩ := q
    unfold xi_lk at h
    rw [Op.lookupswitch.offset_cons]
    by_cases hx : a = x.toInt
    · rw [if_pos hx] at h ⊢
      exact h
    · rw [if_neg hx] at h ⊢
      exact ih h
set_option maxHeartbeats 4000000 in
theorem xi_walk {K : xi_T → Option xi_R} {t : xi_T} (hF : CallFix p m c cc nL s args Ts own) (hK : va_K D cl tys s) (hlocks : meth.locks = false) (hr : meth.sig.returnType = xi_rty P.2.2.2.2.2.2.2.2) (hd1 : d ≤ R.frames) (hd2 : 100 * d ≤ R.locals) (hE : xi_Eok E S cl tys) (hPo : xi_Pok l E S D cl tys own Ts cc nL d P)
    (h : xi_run S P K t = some res) (ih : ∀ t', K t' = some res → xi_G p l e R s m args below meth c E S D cl nL (MQ below (xi_Q E S D cl res) args s 0 0 (xi_A E)) t') : xi_G p l e R s m args below meth c E S D cl nL (MQ below (xi_Q E S D cl res) args s 0 0 (xi_A E)) t := by
  obtain ⟨pc, L, st, m0⟩ := t
  obtain ⟨hx, hb, hml, hown, hts⟩ := id hF
  obtain ⟨hinj, hshape, hty0, ⟨C1, hty1⟩, ⟨C2, hty2⟩⟩ := hE
  obtain ⟨hdec, hfd, hki, hkl, hcs, hcv⟩ := hPo
  have hD : ∀ mm : xi_M, va_D (xi_A E) (xi_wld E S mm) := fun mm => xi_wld_D hinj
  unfold xi_run at h
  cases hi : P.1 pc with
  | none => rw [hi] at h; cases h
  | some q =>
    obtain ⟨i, n⟩ := q
    rw [hi] at h
    obtain ⟨hdg, hn⟩ := hdec pc i n hi
    dsimp only at h
    intro H locs ls hP hS hl
    dsimp only at hP hl ⊢
    have go : ∀ {pc2 : Nat} {st2 : List Value}, K (pc2, L, st2, m0) = some res → W p l e R s m args below meth c H locs 0 0 (MQ below (xi_Q E S D cl res) args s 0 0 (xi_A E)) (F0 m pc2 ls (st2.map (xi_cv E))) := fun h => ih _ h H locs ls hP hS hl
    cases i
    case iconst k =>
      cases (show n = 1 from hn)
      exact lv_iconst hx hb hdg rfl (go h)
    case bipush k =>
      cases (show n = 2 from hn)
      exact lv_bipush hx hb hdg rfl (go h)
    case sipush k =>
      cases (show n = 3 from hn)
      exact lv_sipush hx hb hdg rfl (go h)
    case lconst k =>
      cases (show n = 1 from hn)
      exact lv_lconst hx hb hdg rfl (go h)
    case ldc x =>
      cases (show n = 2 from hn)
      obtain ⟨v, hv, h⟩ := xi_bind_some h
      exact lv_ldc hx hb hown (hts _ (hki _ _ hv)) hdg (go h)
    case ldc2_w x =>
      cases (show n = 3 from hn)
      obtain ⟨v, hv, h⟩ := xi_bind_some h
      exact lv_ldc2 hx hb hown (hts _ (hkl _ _ hv)) hdg (go h)
    case iload k =>
      cases (show n = 2 from hn)
      obtain ⟨x, hv, h⟩ := xi_lI_some h
      exact lv_iload hx hb hdg (hl.2.2.2 _ _ hv) (go h)
    case iload_n k =>
      cases (show n = 1 from hn)
      obtain ⟨x, hv, h⟩ := xi_lI_some h
      exact lv_iload_n hx hb hdg rfl (hl.2.2.2 _ _ hv) (go h)
    case lload k =>
      cases (show n = 2 from hn)
      obtain ⟨x, hv, h⟩ := xi_lJ_some h
      exact lv_lload hx hb hdg (hl.2.2.2 _ _ hv) (go h)
    case lload_n k =>
      cases (show n = 1 from hn)
      obtain ⟨x, hv, h⟩ := xi_lJ_some h
      exact lv_lload_n hx hb hdg rfl (hl.2.2.2 _ _ hv) (go h)
    case aload k =>
      cases (show n = 2 from hn)
      obtain ⟨x, hv, h⟩ := xi_lR_some h
      exact lv_aload hx hb hdg (hl.2.2.2 _ _ hv) (go h)
    case aload_n k =>
      cases (show n = 1 from hn)
      obtain ⟨x, hv, h⟩ := xi_lR_some h
      exact lv_aload_n hx hb hdg rfl (hl.2.2.2 _ _ hv) (go h)
    case istore k =>
      cases (show n = 2 from hn)
      obtain ⟨x, r, rfl, h⟩ := xi_sI_some h
      obtain ⟨hlt, h⟩ := xi_bif_some h
      have hlt : k < nL := by rw [← hl.1]; exact Nat.blt_eq.mp hlt
      exact lv_istore hx hb hdg hl.has hlt rfl (fun ls2 hl2 => ih _ h H locs ls2 hP hS (xi_lv_st1 (v := .int x) hl hl2))
    case istore_n k =>
      cases (show n = 1 from hn)
      obtain ⟨x, r, rfl, h⟩ := xi_sI_some h
      obtain ⟨hlt, h⟩ := xi_bif_some h
      have hlt : (k : Nat) < nL := by rw [← hl.1]; exact Nat.blt_eq.mp hlt
      exact lv_istore_n hx hb hdg rfl hl.has hlt rfl (fun ls2 hl2 => ih _ h H locs ls2 hP hS (xi_lv_st1 (v := .int x) hl hl2))
    case lstore k =>
      cases (show n = 2 from hn)
      obtain ⟨x, r, rfl, h⟩ := xi_sJ_some h
      obtain ⟨hlt, h⟩ := xi_bif_some h
      have hlt : k + 1 < nL := by rw [← hl.1]; exact Nat.blt_eq.mp hlt
      exact lv_lstore hx hb hdg hl.has hlt rfl (fun ls2 hl2 => ih _ h H locs ls2 hP hS (xi_lv_st2 (v := .long x) hl hl2))
    case lstore_n k =>
      cases (show n = 1 from hn)
      obtain ⟨x, r, rfl, h⟩ := xi_sJ_some h
      obtain ⟨hlt, h⟩ := xi_bif_some h
      have hlt : (k : Nat) + 1 < nL := by rw [← hl.1]; exact Nat.blt_eq.mp hlt
      exact lv_lstore_n hx hb hdg rfl hl.has hlt rfl (fun ls2 hl2 => ih _ h H locs ls2 hP hS (xi_lv_st2 (v := .long x) hl hl2))
    case iinc k w =>
      cases (show n = 3 from hn)
      obtain ⟨x, hv, h⟩ := xi_lI_some h
      obtain ⟨hlt, h⟩ := xi_bif_some h
      have hlt : k < nL := by rw [← hl.1]; exact Nat.blt_eq.mp hlt
      obtain ⟨j, hj⟩ := List.getElem?_of_mem (xi_lo_mem (E := E) (q := (k, .int x)).mpr ⟨_, hv, rfl⟩)
      exact lv_iinc hx hb hdg hl.has hj rfl hlt rfl (fun ls2 hl2 => ih _ h H locs ls2 hP hS (xi_lv_st1 (v := .int (x + Int32.ofInt w)) hl hl2))
    case iadd =>
      cases (show n = 1 from hn)
      obtain ⟨y, r, rfl, h⟩ := xi_sI_some h
      obtain ⟨x, r, rfl, h⟩ := xi_sI_some h
      exact lv_iadd hx hb hdg (go h)
    case isub =>
      cases (show n = 1 from hn)
      obtain ⟨y, r, rfl, h⟩ := xi_sI_some h
      obtain ⟨x, r, rfl, h⟩ := xi_sI_some h
      exact lv_isub hx hb hdg (go h)
    case imul =>
      cases (show n = 1 from hn)
      obtain ⟨y, r, rfl, h⟩ := xi_sI_some h
      obtain ⟨x, r, rfl, h⟩ := xi_sI_some h
      exact lv_imul hx hb hdg (go h)
    case iand =>
      cases (show n = 1 from hn)
      obtain ⟨y, r, rfl, h⟩ := xi_sI_some h
      obtain ⟨x, r, rfl, h⟩ := xi_sI_some h
      exact lv_iand hx hb hdg (go h)
    case ior =>
      cases (show n = 1 from hn)
      obtain ⟨y, r, rfl, h⟩ := xi_sI_some h
      obtain ⟨x, r, rfl, h⟩ := xi_sI_some h
      exact lv_ior hx hb hdg (go h)
    case ixor =>
      cases (show n = 1 from hn)
      obtain ⟨y, r, rfl, h⟩ := xi_sI_some h
      obtain ⟨x, r, rfl, h⟩ := xi_sI_some h
      exact lv_ixor hx hb hdg (go h)
    case ishl =>
      cases (show n = 1 from hn)
      obtain ⟨y, r, rfl, h⟩ := xi_sI_some h
      obtain ⟨x, r, rfl, h⟩ := xi_sI_some h
      exact lv_ishl hx hb hdg (go h)
    case ishr =>
      cases (show n = 1 from hn)
      obtain ⟨y, r, rfl, h⟩ := xi_sI_some h
      obtain ⟨x, r, rfl, h⟩ := xi_sI_some h
      exact lv_ishr hx hb hdg (go h)
    case iushr =>
      cases (show n = 1 from hn)
      obtain ⟨y, r, rfl, h⟩ := xi_sI_some h
      obtain ⟨x, r, rfl, h⟩ := xi_sI_some h
      exact lv_iushr hx hb hdg rfl (go h)
    case ineg =>
      cases (show n = 1 from hn)
      obtain ⟨x, r, rfl, h⟩ := xi_sI_some h
      exact lv_ineg hx hb hdg (go h)
    case idiv =>
      cases (show n = 1 from hn)
      obtain ⟨y, r, rfl, h⟩ := xi_sI_some h
      obtain ⟨x, r, rfl, h⟩ := xi_sI_some h
      obtain ⟨h0, h⟩ := xi_ifn_some h
      exact lv_idiv hx hb hdg h0 (go h)
    case irem =>
      cases (show n = 1 from hn)
      obtain ⟨y, r, rfl, h⟩ := xi_sI_some h
      obtain ⟨x, r, rfl, h⟩ := xi_sI_some h
      obtain ⟨h0, h⟩ := xi_ifn_some h
      exact lv_irem hx hb hdg h0 (go h)
    case i2l =>
      cases (show n = 1 from hn)
      obtain ⟨x, r, rfl, h⟩ := xi_sI_some h
      exact lv_i2l hx hb hdg rfl (go h)
    case i2b =>
      cases (show n = 1 from hn)
      obtain ⟨x, r, rfl, h⟩ := xi_sI_some h
      exact lv_i2b hx hb hdg rfl (go h)
    case l2i =>
      cases (show n = 1 from hn)
      obtain ⟨x, r, rfl, h⟩ := xi_sJ_some h
      exact lv_l2i hx hb hdg rfl (go h)
    case ladd =>
      cases (show n = 1 from hn)
      obtain ⟨y, r, rfl, h⟩ := xi_sJ_some h
      obtain ⟨x, r, rfl, h⟩ := xi_sJ_some h
      exact lv_ladd hx hb hdg (go h)
    case lsub =>
      cases (show n = 1 from hn)
      obtain ⟨y, r, rfl, h⟩ := xi_sJ_some h
      obtain ⟨x, r, rfl, h⟩ := xi_sJ_some h
      exact lv_lsub hx hb hdg (go h)
    case lmul =>
      cases (show n = 1 from hn)
      obtain ⟨y, r, rfl, h⟩ := xi_sJ_some h
      obtain ⟨x, r, rfl, h⟩ := xi_sJ_some h
      exact lv_lmul hx hb hdg (go h)
    case ldiv =>
      cases (show n = 1 from hn)
      obtain ⟨y, r, rfl, h⟩ := xi_sJ_some h
      obtain ⟨x, r, rfl, h⟩ := xi_sJ_some h
      obtain ⟨h0, h⟩ := xi_ifn_some h
      exact lv_ldiv hx hb hdg h0 (go h)
    case lrem =>
      cases (show n = 1 from hn)
      obtain ⟨y, r, rfl, h⟩ := xi_sJ_some h
      obtain ⟨x, r, rfl, h⟩ := xi_sJ_some h
      obtain ⟨h0, h⟩ := xi_ifn_some h
      exact lv_lrem hx hb hdg h0 (go h)
    case lcmp =>
      cases (show n = 1 from hn)
      obtain ⟨y, r, rfl, h⟩ := xi_sJ_some h
      obtain ⟨x, r, rfl, h⟩ := xi_sJ_some h
      exact W.lcmp hx hb hdg (go h)
    case dup =>
      cases (show n = 1 from hn)
      unfold xi_op at h
      dsimp only at h
      split at h
      · exact lv_dup hx hb hdg rfl (go h)
      · exact lv_dup hx hb hdg rfl (go h)
      · cases h
    case dup2 =>
      cases (show n = 1 from hn)
      obtain ⟨x, r, rfl, h⟩ := xi_sI_some h
      obtain ⟨a, r, rfl, h⟩ := xi_sR_some h
      exact lv_dup2_11 hx hb hdg rfl rfl (go h)
    case pop =>
      cases (show n = 1 from hn)
      obtain ⟨x, r, rfl, h⟩ := xi_sI_some h
      exact lv_pop hx hb hdg rfl (go h)
    case goto o =>
      cases (show n = 3 from hn)
      obtain ⟨t, ht, hg⟩ := xi_jump ih h
      exact lv_goto hx hb hdg ht (hg H locs ls hP hS hl)
    case ifCond cd o =>
      cases (show n = 3 from hn)
      cases cd
      case eq =>
        obtain ⟨x, r, rfl, h⟩ := xi_sI_some h
        obtain ⟨t, ht, h⟩ := xi_to_some h
        exact lv_if_eq hx hb hdg ht (fun hc => go ((if_pos hc).symm.trans h)) (fun hc => go ((if_neg hc).symm.trans h))
      case ne =>
        obtain ⟨x, r, rfl, h⟩ := xi_sI_some h
        obtain ⟨t, ht, h⟩ := xi_to_some h
        exact lv_if_ne hx hb hdg ht (fun hc => go ((if_neg hc).symm.trans h)) (fun hc => go ((if_pos hc).symm.trans h))
      case lt =>
        obtain ⟨x, r, rfl, h⟩ := xi_sI_some h
        obtain ⟨t, ht, h⟩ := xi_to_some h
        exact lv_if_lt hx hb hdg ht (fun hc => go ((if_pos hc).symm.trans h)) (fun hc => go ((if_neg hc).symm.trans h))
      case ge =>
        obtain ⟨x, r, rfl, h⟩ := xi_sI_some h
        obtain ⟨t, ht, h⟩ := xi_to_some h
        exact lv_if_ge hx hb hdg ht (fun hc => go ((if_pos hc).symm.trans h)) (fun hc => go ((if_neg hc).symm.trans h))
      case gt =>
        obtain ⟨x, r, rfl, h⟩ := xi_sI_some h
        obtain ⟨t, ht, h⟩ := xi_to_some h
        exact lv_if_gt hx hb hdg ht (fun hc => go ((if_pos hc).symm.trans h)) (fun hc => go ((if_neg hc).symm.trans h))
      case le =>
        obtain ⟨x, r, rfl, h⟩ := xi_sI_some h
        obtain ⟨t, ht, h⟩ := xi_to_some h
        exact lv_if_le hx hb hdg ht (fun hc => go ((if_pos hc).symm.trans h)) (fun hc => go ((if_neg hc).symm.trans h))
    case if_icmp cd o =>
      cases (show n = 3 from hn)
      cases cd
      case eq =>
        obtain ⟨y, r, rfl, h⟩ := xi_sI_some h
        obtain ⟨x, r, rfl, h⟩ := xi_sI_some h
        obtain ⟨t, ht, h⟩ := xi_to_some h
        exact lv_icmp_eq hx hb hdg ht (fun hc => go ((if_pos hc).symm.trans h)) (fun hc => go ((if_neg hc).symm.trans h))
      case ne =>
        obtain ⟨y, r, rfl, h⟩ := xi_sI_some h
        obtain ⟨x, r, rfl, h⟩ := xi_sI_some h
        obtain ⟨t, ht, h⟩ := xi_to_some h
        exact lv_icmp_ne hx hb hdg ht (fun hc => go ((if_neg hc).symm.trans h)) (fun hc => go ((if_pos hc).symm.trans h))
      case lt =>
        obtain ⟨y, r, rfl, h⟩ := xi_sI_some h
        obtain ⟨x, r, rfl, h⟩ := xi_sI_some h
        obtain ⟨t, ht, h⟩ := xi_to_some h
        exact lv_icmp_lt hx hb hdg ht (fun hc => go ((if_pos hc).symm.trans h)) (fun hc => go ((if_neg hc).symm.trans h))
      case ge =>
        obtain ⟨y, r, rfl, h⟩ := xi_sI_some h
        obtain ⟨x, r, rfl, h⟩ := xi_sI_some h
        obtain ⟨t, ht, h⟩ := xi_to_some h
        exact lv_icmp_ge hx hb hdg ht (fun hc => go ((if_pos hc).symm.trans h)) (fun hc => go ((if_neg hc).symm.trans h))
      case gt =>
        obtain ⟨y, r, rfl, h⟩ := xi_sI_some h
        obtain ⟨x, r, rfl, h⟩ := xi_sI_some h
        obtain ⟨t, ht, h⟩ := xi_to_some h
        exact lv_icmp_gt hx hb hdg ht (fun hc => go ((if_pos hc).symm.trans h)) (fun hc => go ((if_neg hc).symm.trans h))
      case le =>
        obtain ⟨y, r, rfl, h⟩ := xi_sI_some h
        obtain ⟨x, r, rfl, h⟩ := xi_sI_some h
        obtain ⟨t, ht, h⟩ := xi_to_some h
        exact lv_icmp_le hx hb hdg ht (fun hc => go ((if_pos hc).symm.trans h)) (fun hc => go ((if_neg hc).symm.trans h))
    case tableswitch d0 lo hi os =>
      obtain ⟨x, r, rfl, h⟩ := xi_sI_some h
      obtain ⟨hc, h⟩ := xi_bif_some h
      have hc := of_decide_eq_true hc
      rcases xi_sw_some h with ⟨o, ⟨g1, g2, g3⟩, h⟩ | ⟨g, h⟩
      · obtain ⟨t, ht, hg⟩ := xi_jump ih h
        exact lv_tableIn hx hb hdg g1 (by omega) (by rw [← Array.getElem?_toList]; exact g3) ht (hg H locs ls hP hS hl)
      · obtain ⟨t, ht, hg⟩ := xi_jump ih h
        exact lv_tableOut hx hb hdg (by omega) ht (hg H locs ls hP hS hl)
    case lookupswitch d0 ps =>
      obtain ⟨x, r, rfl, h⟩ := xi_sI_some h
      obtain ⟨hc, h⟩ := xi_bif_some h
      obtain ⟨t, ht, hg⟩ := xi_jump ih (xi_lk_some h)
      exact lv_lookup hx hb hdg hc rfl ht (hg H locs ls hP hS hl)
    case getfield x =>
      cases (show n = 3 from hn)
      obtain ⟨a, r, rfl, h⟩ := xi_sR_some h
      obtain ⟨⟨ci, k, t⟩, hq, h⟩ := xi_bind_some h
      obtain ⟨hk, h⟩ := xi_if_some h
      obtain ⟨C, T, nf, ty0, hc, hkn, hin, hlk, ht, hty, hnm, h0, h1, h2, hfin⟩ := hfd _ _ _ _ hq
      have hci : ci < cl.length := (List.getElem?_eq_some_iff.mp hc).1
      have ha : a < E.2.1 := hshape a (by rw [hk]; dsimp only; omega)
      have hg := xi_wld_get (E := E) (S := S) (m := m0) ha
      rw [xi_cel_obj hk] at hg
      refine va_get (a := E.1 a) (fs := xi_fs E S m0 a ci) hx hb hts hin hown hK hP a hg hc k hkn (hts _ hlk) (fun _ h9 => h9) (xi_fs_get ht) hdg ?_
      dsimp only at h
      split at h
      · exact go h
      · obtain ⟨b, hb2, h⟩ := xi_bind_some h
        have e1 : xi_fv E S m0 a k 3 = .ref (E.1 b) := by
          unfold xi_fv
          rw [if_neg (by decide), if_pos rfl, hb2]
          rfl
        rw [e1]
        exact go h
      · rename_i e2 e3
        have e1 : xi_fv E S m0 a k t = .int (m0.1 a k) := by
          unfold xi_fv
          rw [if_neg e2, if_neg e3]
        rw [e1]
        exact go h
    case putfield x =>
      cases (show n = 3 from hn)
      obtain ⟨⟨ci, k, t⟩, hq, h⟩ := xi_bind_some h
      dsimp only at h
      split at h
      · obtain ⟨v, r, rfl, h⟩ := xi_sI_some h
        obtain ⟨a, r, rfl, h⟩ := xi_sR_some h
        obtain ⟨hk, h⟩ := xi_if_some h
        obtain ⟨C, T, nf, ty0, hc, hkn, hin, hlk, ht, hty, hnm, h0, h1, h2, hfin⟩ := hfd _ _ _ _ hq
        have hci : ci < cl.length := (List.getElem?_eq_some_iff.mp hc).1
        have ha : a < E.2.1 := hshape a (by omega)
        have hg := xi_wld_get (E := E) (S := S) (m := m0) ha
        rw [xi_cel_obj hk] at hg
        have hfl : k < (xi_fs E S m0 a ci).length := (List.getElem?_eq_some_iff.mp (xi_fs_get ht)).1
        refine va_put (a := E.1 a) (v := .int v) (ty := .int) (fs := xi_fs E S m0 a ci) hx hb hts hin ty0 hty hnm hown hK hP (hD m0) hS a hg hc k hkn (hts _ hlk) (fun _ h9 => h9) (hfin (by decide)) (by rw [hty k hkn, h0 rfl]) rfl rfl hfl hdg (fun H1 locs1 hP1 hD1 hS1 => ?_)
        rw [xi_setI ha hk ht (by decide) (by decide)] at hP1
        exact ih _ h H1 locs1 ls hP1 hS1 hl
      · obtain ⟨v, r, rfl, h⟩ := xi_sI_some h
        obtain ⟨a, r, rfl, h⟩ := xi_sR_some h
        obtain ⟨hk, h⟩ := xi_if_some h
        obtain ⟨hk, hv⟩ := hk
        obtain ⟨C, T, nf, ty0, hc, hkn, hin, hlk, ht, hty, hnm, h0, h1, h2, hfin⟩ := hfd _ _ _ _ hq
        have hci : ci < cl.length := (List.getElem?_eq_some_iff.mp hc).1
        have ha : a < E.2.1 := hshape a (by omega)
        have hg := xi_wld_get (E := E) (S := S) (m := m0) ha
        rw [xi_cel_obj hk] at hg
        have hfl : k < (xi_fs E S m0 a ci).length := (List.getElem?_eq_some_iff.mp (xi_fs_get ht)).1
        refine va_put (a := E.1 a) (v := .int v) (ty := .boolean) (fs := xi_fs E S m0 a ci) hx hb hts hin ty0 hty hnm hown hK hP (hD m0) hS a hg hc k hkn (hts _ hlk) (fun _ h9 => h9) (hfin (by decide)) (by rw [hty k hkn, h1 rfl]) (congrArg Value.int (xi_01 hv)) (by rcases hv with rfl | rfl <;> rfl) hfl hdg (fun H1 locs1 hP1 hD1 hS1 => ?_)
        rw [xi_setI ha hk ht (by decide) (by decide)] at hP1
        exact ih _ h H1 locs1 ls hP1 hS1 hl
      · obtain ⟨v, r, rfl, h⟩ := xi_sJ_some h
        obtain ⟨a, r, rfl, h⟩ := xi_sR_some h
        obtain ⟨hk, h⟩ := xi_if_some h
        obtain ⟨C, T, nf, ty0, hc, hkn, hin, hlk, ht, hty, hnm, h0, h1, h2, hfin⟩ := hfd _ _ _ _ hq
        have hci : ci < cl.length := (List.getElem?_eq_some_iff.mp hc).1
        have ha : a < E.2.1 := hshape a (by omega)
        have hg := xi_wld_get (E := E) (S := S) (m := m0) ha
        rw [xi_cel_obj hk] at hg
        have hfl : k < (xi_fs E S m0 a ci).length := (List.getElem?_eq_some_iff.mp (xi_fs_get ht)).1
        refine va_put (a := E.1 a) (v := .long v) (ty := .long) (fs := xi_fs E S m0 a ci) hx hb hts hin ty0 hty hnm hown hK hP (hD m0) hS a hg hc k hkn (hts _ hlk) (fun _ h9 => h9) (hfin (by decide)) (by rw [hty k hkn, h2 rfl]) rfl rfl hfl hdg (fun H1 locs1 hP1 hD1 hS1 => ?_)
        rw [xi_setJ ha hk ht] at hP1
        exact ih _ h H1 locs1 ls hP1 hS1 hl
      · cases h
    case iaload =>
      cases (show n = 1 from hn)
      obtain ⟨i, r, rfl, h⟩ := xi_sI_some h
      obtain ⟨a, r, rfl, h⟩ := xi_sR_some h
      obtain ⟨⟨hk, hin⟩, h⟩ := xi_if_some h
      have ha : a < E.2.1 := hshape a (by rw [hk]; omega)
      have hg := xi_wld_get (E := E) (S := S) (m := m0) ha
      rw [xi_cel_row hk] at hg
      exact va_iald (a := E.1 a) hx hb hK hP a 0 hg hty0 hin hdg (go h)
    case iastore =>
      cases (show n = 1 from hn)
      obtain ⟨v, r, rfl, h⟩ := xi_sI_some h
      obtain ⟨i, r, rfl, h⟩ := xi_sI_some h
      obtain ⟨a, r, rfl, h⟩ := xi_sR_some h
      obtain ⟨⟨hk, hin⟩, h⟩ := xi_if_some h
      have ha : a < E.2.1 := hshape a (by rw [hk]; omega)
      have hg := xi_wld_get (E := E) (S := S) (m := m0) ha
      rw [xi_cel_row hk] at hg
      refine va_iast (a := E.1 a) hx hb hK hP (hD m0) hS a 0 hg hty0 hin hdg (fun H1 locs1 hP1 hD1 hS1 => ?_)
      rw [xi_setR ha hk] at hP1
      exact ih _ h H1 locs1 ls hP1 hS1 hl
    case aaload =>
      cases (show n = 1 from hn)
      obtain ⟨i, r, rfl, h⟩ := xi_sI_some h
      obtain ⟨a, r, rfl, h⟩ := xi_sR_some h
      obtain ⟨⟨hk, hin⟩, h⟩ := xi_if_some h
      obtain ⟨b, hb2, h⟩ := xi_bind_some h
      have ha : a < E.2.1 := hshape a (by omega)
      have hg := xi_wld_get (E := E) (S := S) (m := m0) ha
      rcases hk with hk | hk
      · have e1 : xi_cel E S m0 a = .inl (E.2.2.2 1, S.2.1 a, .inr (.inr (.inr (.inr fun i => (S.2.2 a i).map E.1)))) := by
          unfold xi_cel
          rw [if_neg (by omega), if_pos hk]
        rw [e1] at hg
        refine va_aldq (a := E.1 a) hx hb hK hP a 1 hg hty1 hin hdg ?_
        rw [hb2]
        exact go h
      · have e1 : xi_cel E S m0 a = .inl (E.2.2.2 2, S.2.1 a, .inr (.inr (.inr (.inr fun i => (S.2.2 a i).map E.1)))) := by
          unfold xi_cel
          rw [if_neg (by omega), if_neg (by omega), if_pos hk]
        rw [e1] at hg
        refine va_aldq (a := E.1 a) hx hb hK hP a 2 hg hty2 hin hdg ?_
        rw [hb2]
        exact go h
    case arraylength =>
      cases (show n = 1 from hn)
      obtain ⟨a, r, rfl, h⟩ := xi_sR_some h
      obtain ⟨hk, h⟩ := xi_if_some h
      have ha : a < E.2.1 := hshape a (by omega)
      have hg := xi_wld_get (E := E) (S := S) (m := m0) ha
      rcases hk with hk | hk | hk
      · rw [xi_cel_row hk] at hg
        exact va_alen (a := E.1 a) hx hb hK hP a 0 hg hty0 rfl hdg (go h)
      · have e1 : xi_cel E S m0 a = .inl (E.2.2.2 1, S.2.1 a, .inr (.inr (.inr (.inr fun i => (S.2.2 a i).map E.1)))) := by
          unfold xi_cel
          rw [if_neg (by omega), if_pos hk]
        rw [e1] at hg
        exact va_alen (a := E.1 a) hx hb hK hP a 1 hg hty1 rfl hdg (go h)
      · have e1 : xi_cel E S m0 a = .inl (E.2.2.2 2, S.2.1 a, .inr (.inr (.inr (.inr fun i => (S.2.2 a i).map E.1)))) := by
          unfold xi_cel
          rw [if_neg (by omega), if_neg (by omega), if_pos hk]
        rw [e1] at hg
        exact va_alen (a := E.1 a) hx hb hK hP a 2 hg hty2 rfl hdg (go h)
    case invokestatic x =>
      cases (show n = 3 from hn)
      obtain ⟨⟨na, rk⟩, hq, h⟩ := xi_bind_some h
      obtain ⟨hb3, h⟩ := xi_bif_some h
      rw [Bool.and_eq_true] at hb3
      obtain ⟨r, m1, hr1, h⟩ := xi_an_some h
      have hcal := hcs x _ _ _ _ hr1
      rw [xi_app (E := E) st na]
      refine hcal p e R s m args below meth c H locs _ pc ls _ hF hK hd1 hd2 hl.2.1 (by rw [xi_cs_cv]; exact Nat.le_of_ble_eq_true hb3.2) hdg hP hS (fun H1 locs1 hP1 hS1 => ?_)
      rw [xi_toL]
      exact ih _ h H1 locs1 ls hP1 hS1 hl
    case invokevirtual x =>
      cases (show n = 3 from hn)
      obtain ⟨⟨na, rk⟩, hq, h⟩ := xi_bind_some h
      obtain ⟨hb3, h⟩ := xi_bif_some h
      rw [Bool.and_eq_true] at hb3
      obtain ⟨r, m1, hr1, h⟩ := xi_an_some h
      have hcal := hcv x _ _ _ _ hr1
      rw [xi_app (E := E) st na]
      refine hcal p e R s m args below meth c H locs _ pc ls _ hF hK hd1 hd2 hl.2.1 (by rw [xi_cs_cv]; exact Nat.le_of_ble_eq_true hb3.2) hdg hP hS (fun H1 locs1 hP1 hS1 => ?_)
      rw [xi_toL]
      exact ih _ h H1 locs1 ls hP1 hS1 hl
    case ireturn =>
      cases (show n = 1 from hn)
      unfold xi_op at h
      dsimp only at h
      split at h
      · rename_i hrt
        cases h
        rw [hrt] at hr
        exact W.zret (ty := .int) hx hb hr rfl (fun t ht _ => ⟨rfl, by rw [ht]; exact hP, hS.F ht⟩) hS.2.2 hdg hlocks
      · rename_i hrt
        obtain ⟨hv, h⟩ := xi_if_some h
        cases h
        rw [hrt] at hr
        exact W.zret (ty := .boolean) hx hb hr (congrArg Value.int (xi_01 hv)) (fun t ht _ => ⟨rfl, by rw [ht]; exact hP, hS.F ht⟩) hS.2.2 hdg hlocks
      · cases h
    case lreturn =>
      cases (show n = 1 from hn)
      unfold xi_op at h
      dsimp only at h
      split at h
      · rename_i hrt
        cases h
        rw [hrt] at hr
        exact W.lret hx hb hr (fun t ht _ => ⟨rfl, by rw [ht]; exact hP, hS.F ht⟩) hS.2.2 hdg hlocks
      · cases h
    case return_ =>
      cases (show n = 1 from hn)
      unfold xi_op at h
      dsimp only at h
      split at h
      · rename_i hrt
        cases h
        rw [hrt] at hr
        exact W.vret hx hb hr (fun t ht _ => ⟨rfl, by rw [ht]; exact hP, hS.F ht⟩) hS.2.2 hdg hlocks
      · cases h
    all_goals cases h
end XV
end
section
/-! Methods: what the interpreter says of a method is its contract at the machine. -/
def xi_le (L1 L : xi_L) : Prop := L1.length = L.length ∧ ∀ (i : Nat) (v : Value), xi_get L1 i = some v → xi_get L i = some v
/-- from state t the method answers res -/
def xi_X (S : xi_S) (P : xi_P) (t : xi_T) (res : xi_R) : Prop :=
  ∀ G : xi_T → Prop, (∀ K t, xi_run S P K t = some res → (∀ t', K t' = some res → G t') → G t) → (∀ pc L L1 st m, xi_le L1 L → G (pc, L1, st, m) → G (pc, L, st, m)) → G t
noncomputable def xi_K (S : xi_S) (P : xi_P) (res : xi_R) (t : xi_T) : Option xi_R := @ite _ (xi_X S P t res) (Classical.propDecidable _) (some res) none
theorem xi_K_of {S : xi_S} {P : xi_P} {res : xi_R} {t : xi_T} (h : xi_X S P t res) : xi_K S P res t = some res := if_pos h
theorem xi_K_to {S : xi_S} {P : xi_P} {res : xi_R} {t : xi_T} (h : xi_K S P res t = some res) : xi_X S P t res := by
  unfold xi_K at h
  by_cases hc : xi_X S P t res
  · exact hc
  · rw [if_neg hc] at h
    cases h
theorem xi_X_go {S : xi_S} {P : xi_P} {res : xi_R} (sp : Nat → Bool) : ∀ (n : Nat) {t : xi_T}, xi_go S P sp (xi_K S P res) n t = some res → xi_X S P t res := by
  intro n
  induction n with
  | zero => intro t h; exact xi_K_to h
  | succ n ih =>
    intro t h G hG hle
    refine hG _ _ h (fun t' ht' => ?_)
    cases hs : sp t'.1 with
    | true =>
      rw [hs] at ht'
      exact xi_K_to ht' G hG hle
    | false =>
      rw [hs] at ht'
      exact ih ht' G hG hle
theorem xi_X_le {S : xi_S} {P : xi_P} {res : xi_R} {pc : Nat} {L L1 : xi_L} {st : List Value} {m : xi_M} (hl : xi_le L1 L) (h : xi_X S P (pc, L1, st, m) res) : xi_X S P (pc, L, st, m) res :=
  fun G hG hle => hle _ _ _ _ _ hl (h G hG hle)
/-- the locals at the entry -/
def xi_el : List Value → xi_L
  | [] => []
  | v :: vs => bif Nat.beq v.category 2 then some v :: none :: xi_el vs else some v :: xi_el vs
def xi_ent (As : List Value) (nL : Nat) : xi_L := xi_el As ++ List.replicate (nL - (xi_el As).length) none
theorem xi_el_len (E : xi_E) : ∀ As : List Value, (xi_el As).length = (lg_sl (As.map (xi_cv E))).length := by
  intro As
  induction As with
  | nil => rfl
  | cons v vs ih =>
    rw [List.map_cons]
    unfold lg_sl at ih ⊢
    rw [List.flatMap_cons, List.length_append, ← ih, xi_cv_cat, show xi_el (v :: vs) = (bif Nat.beq v.category 2 then some v :: none :: xi_el vs else some v :: xi_el vs) from rfl]
    by_cases hc : v.category = 2
    · rw [if_pos hc, hc]
      simp only [Nat.beq_refl, cond_true, List.length_cons, List.length_nil]
      omega
    · rw [if_neg hc]
      have e : Nat.beq v.category 2 = false := by
        cases hb : Nat.beq v.category 2
        · rfl
        · exact absurd (Nat.eq_of_beq_eq_true hb) hc
      rw [e]
      simp only [cond_false, List.length_cons, List.length_nil]
      omega
theorem xi_rep : ∀ (k i : Nat), xi_get (List.replicate k none) i = none := by
  intro k
  induction k with
  | zero => intro i; rfl
  | succ k ih =>
    intro i
    rw [List.replicate_succ]
    cases i with
    | zero => rfl
    | succ j => exact ih j
theorem xi_el_mem (E : xi_E) : ∀ (As : List Value) (k off i : Nat) (v : Value), xi_get (xi_el As ++ List.replicate k none) i = some v → (off + i, xi_cv E v) ∈ lv_args off (As.map (xi_cv E)) := by
  intro As
  induction As with
  | nil =>
    intro k off i v h
    rw [show xi_el [] ++ List.replicate k none = List.replicate k none from rfl, xi_rep] at h
    cases h
  | cons w vs ih =>
    intro k off i v h
    rw [List.map_cons]
    unfold lv_args
    rw [xi_cv_cat]
    unfold xi_el at h
    by_cases hc : w.category = 2
    · rw [if_pos hc]
      rw [hc] at h
      simp only [Nat.beq_refl, cond_true] at h
      cases i with
      | zero =>
        cases (show some w = some v from h)
        exact List.mem_cons_self
      | succ j =>
        cases j with
        | zero => cases (show (none : Option Value) = some v from h)
        | succ j =>
          refine List.mem_cons_of_mem _ ?_
          have h2 := ih k (off + 2) j v h
          rw [show off + (j + 1 + 1) = off + 2 + j by omega]
          exact h2
    · rw [if_neg hc]
      have e : Nat.beq w.category 2 = false := by
        cases hb : Nat.beq w.category 2
        · rfl
        · exact absurd (Nat.eq_of_beq_eq_true hb) hc
      rw [e] at h
      simp only [cond_false] at h
      cases i with
      | zero =>
        cases (show some w = some v from h)
        exact List.mem_cons_self
      | succ j =>
        refine List.mem_cons_of_mem _ ?_
        have h2 := ih k (off + 1) j v h
        rw [show off + (j + 1) = off + 1 + j by omega]
        exact h2
theorem xi_ent_lv {E : xi_E} {ls : Array Slot} {nL : Nat} {As : List Value} (hn : (xi_el As).length ≤ nL) (h : lv_has ls nL (lv_args 0 (As.map (xi_cv E)))) : xi_lv E ls nL (xi_ent As nL) := by
  refine ⟨?_, h.1, h.2.1, fun i v hv => ?_⟩
  · unfold xi_ent
    rw [List.length_append, List.length_replicate]
    omega
  · have h2 := xi_el_mem E As _ 0 i v hv
    rw [Nat.zero_add] at h2
    exact h.2.2 _ h2
/-- a method's contract: from the world m1, with these arguments, to the answer r and the world m2 -/
def xi_Sound (l : Launch) (E : xi_E) (S : xi_S) (D : va_G) (cl : List vw_C) (tys : List (ClassId × FieldType)) (Ts : List Cond) (y : MethodName) (cc : ByteArray) (nL : Nat) (ret : Option FieldType) (d : Nat) (As : List Value) (m1 : xi_M) (r : Option Value) (m2 : xi_M) : Prop :=
  Met l y (.code y cc nL ret :: Ts) { frames := d, cells := 0, slots := 0, locals := 100 * d } (va_Pc (As.map (xi_cv E)) (fun U => va_P D cl (xi_wld E S m1) U.heap ∧ va_K D cl tys U)) (xi_Q E S D cl (r, m2)) 0 0 (xi_A E)
section XM
variable {l : Launch} {E : xi_E} {S : xi_S} {D : va_G} {cl : List vw_C} {tys : List (ClassId × FieldType)} {own : String} {Ts : List Cond} {cc : ByteArray} {nL d : Nat} {P : xi_P} {As : List Value} {m1 m2 : xi_M} {r : Option Value}
theorem xi_meth {y : MethodName} {ret : Option FieldType} (hy : plainName y.cls = true) (hE : xi_Eok E S cl tys) (hPo : xi_Pok l E S D cl tys y.cls Ts cc nL d P) (hn : (xi_el As).length ≤ nL) (hret : ret = xi_rty P.2.2.2.2.2.2.2.2)
    (hX : xi_X S P (0, xi_ent As nL, [], m1) (r, m2)) : xi_Sound l E S D cl tys Ts y cc nL ret d As m1 r m2 := by
  subst hret
  refine Met.ofW (cc := cc) (maxL := nL) hy rfl ?_
  intro p e s m args below meth c s₁ B hml hv
  obtain ⟨rfl, hP0, hK⟩ := hv
  have hts := atoms_spec B.pre
  have hown : s.vm.findClass y.cls = some m.cls := findClass_of_methodNamed B.named
  have hF : CallFix p m c cc nL s ((As.map (xi_cv E)).toArray) Ts y.cls := ⟨B.exec, B.bytes, hml, hown, fun w hw => hts w (List.mem_cons_of_mem _ hw)⟩
  have hG := hX (xi_G p l e (headSpec (.code y cc nL (xi_rty P.2.2.2.2.2.2.2.2) :: Ts) { frames := d, cells := 0, slots := 0, locals := 100 * d }).room s m ((As.map (xi_cv E)).toArray) below meth c E S D cl nL (MQ below (xi_Q E S D cl (r, m2)) ((As.map (xi_cv E)).toArray) s 0 0 (xi_A E)))
    (fun K t h ih => xi_walk hF hK B.notSynchronized B.returns (Nat.le_refl d) (Nat.le_refl (100 * d)) hE hPo h ih)
    (fun pc L L1 st mm hle hg H locs ls hP hS hl => hg H locs ls hP hS ⟨hle.1.trans hl.1, hl.2.1, hl.2.2.1, fun i v hv => hl.2.2.2 i v (hle.2 i v hv)⟩)
  have hl := lv_entry (As.map (xi_cv E)) (n := nL) (by rw [← xi_el_len]; exact hn)
  rw [lg_entry_eq]
  exact hG s.heap [] _ hP0 va_S.rf (xi_ent_lv hn hl)
theorem xi_blind : FrameBlind (va_Pc (As.map (xi_cv E)) (fun U => va_P D cl (xi_wld E S m1) U.heap ∧ va_K D cl tys U)) :=
  fun a U g mk q => by obtain ⟨q0, qP, qK⟩ := q; exact ⟨q0, qP, va_K.moved (u := U) (U := U.calling g mk a) (Vm.Alike.refl U.vm) qK⟩
theorem xi_back {p : Program} {e : Env} {R : Room} {s : State} {m : MethodId} {args a : Array Value} {below : List Frame} {meth : Method} {c : Code} {H : Heap} {locs : List Loc} {Q : State → Prop} {pc : Nat} {ls : Array Slot} {st0 rest : List Value}
    (hr : va_Run p l e R s m args below meth c H locs 0 0 0 0 (F0 m pc ls st0) rest (xi_Q E S D cl (r, m2) a) (xi_A E)) (hS : va_S (xi_A E) s.heap H locs)
    (kk : ∀ (H1 : Heap) (locs1 : List Loc), va_P D cl (xi_wld E S m2) H1 → va_S (xi_A E) s.heap H1 locs1 → W p l e R s m args below meth c H1 locs1 0 0 Q (F0 m (pc + 3) ls ((r.map (xi_cv E)).toList ++ rest))) : W p l e R s m args below meth c H locs 0 0 Q (F0 m pc ls st0) := by
  intro T hT X
  obtain ⟨v, st₀, t, T', L, h0, X', hL, e1, e2, ⟨hv, hP2, hz, hk⟩, st⟩ := hr T hT X
  cases hv
  rw [h0] at hz hk
  obtain ⟨t2, a1, b1⟩ := kk T'.heap (locs ++ L) (by rw [e1]; exact hP2)
    ⟨Nat.le_trans hS.1 (by rw [e1]; exact hz), fun q h1 h2 => by rw [e1, hk q (Nat.lt_of_lt_of_le h1 hS.1) h2]; exact hS.2.1 q h1 h2, fun q hq => by
      rcases List.mem_append.mp hq with h | h
      · exact hS.2.2 q h
      · exact hL q h⟩ T' rfl X'
  exact ⟨t2, st t2 a1, b1⟩
theorem xi_good {y2 : MethodName} {c2 : ByteArray} {n2 : Nat} {ret : Option FieldType} (hG : ∀ w ∈ Ts, goodWord w = true) (hco : Cond.code y2 c2 n2 ret ∈ Ts) : GoodIn Ts (.code y2 c2 n2 ret :: Ts) := fun w hw => by
  rcases List.mem_cons.mp hw with rfl | h
  · exact ⟨hco, good_of_word (hG _ hco)⟩
  · exact ⟨h, good_of_word (hG _ h)⟩
theorem xi_callS {x d2 n2 : Nat} {y2 : MethodName} {c2 : ByteArray} {ret : Option FieldType} (hS2 : xi_Sound l E S D cl tys Ts y2 c2 n2 ret d2 As m1 r m2) (hG : ∀ w ∈ Ts, goodWord w = true) (hco : Cond.code y2 c2 n2 ret ∈ Ts) (hli : Cond.methodLink own x y2 ∈ Ts) (hst : Cond.static y2 ∈ Ts) (hin : Cond.initialized y2.cls ∈ Ts)
    (hd : y2.cls ≠ "java/lang/invoke/MethodHandle" ∧ y2.cls ≠ "java/lang/invoke/VarHandle" ∧ (parseMethodDescriptor y2.desc).map (fun q => q.parameters.length) = some As.length) (hdd : d2 + 1 ≤ d) (hn2 : n2 ≤ 60) : xi_Cal l E S D cl tys own Ts cc nL d (.invokestatic x) As m1 r m2 := by
  intro p e R s m args below meth c H locs Q pc ls rest hF hK hd1 hd2 hls hcs hdg hP hS kk
  have ht := hF.2.2.2.2
  refine xi_back (a := (As.map (xi_cv E)).toArray) (va_runS (As := As.map (xi_cv E)) (n := As.length) hF hS2
    ⟨callB_of As.length ht (xi_good hG hco) rfl rfl rfl (ht _ hin) (ht _ hli) hd ⟨by show d2 + 1 ≤ R.frames; omega, by show 8 + (n2 + 11) + 100 * d2 ≤ R.locals; omega⟩, ht _ hst⟩
    ⟨xi_blind, fun U hU hW => ⟨rfl, by rw [hU]; exact hP, va_K.moved hW.alike hK⟩⟩ rfl (List.length_map _) hls rfl (by show 2 * 0 + _ ≤ 8; rw [Nat.mul_zero, Nat.zero_add]; exact hcs) hdg ⟨Nat.zero_le _, Nat.zero_le _⟩) hS kk
theorem xi_callSN {x d2 n2 : Nat} {y2 : MethodName} {host : String} {c2 : ByteArray} {ret : Option FieldType} (hS2 : xi_Sound l E S D cl tys Ts y2 c2 n2 ret d2 As m1 r m2) (hG : ∀ w ∈ Ts, goodWord w = true) (hco : Cond.code y2 c2 n2 ret ∈ Ts) (hli : Cond.methodLinkNest own x y2 host ∈ Ts) (hst : Cond.static y2 ∈ Ts) (hin : Cond.initialized y2.cls ∈ Ts)
    (hd : y2.cls ≠ "java/lang/invoke/MethodHandle" ∧ y2.cls ≠ "java/lang/invoke/VarHandle" ∧ (parseMethodDescriptor y2.desc).map (fun q => q.parameters.length) = some As.length) (hdd : d2 + 1 ≤ d) (hn2 : n2 ≤ 60) : xi_Cal l E S D cl tys own Ts cc nL d (.invokestatic x) As m1 r m2 := by
  intro p e R s m args below meth c H locs Q pc ls rest hF hK hd1 hd2 hls hcs hdg hP hS kk
  have ht := hF.2.2.2.2
  refine xi_back (a := (As.map (xi_cv E)).toArray) (va_runSN (host := host) (As := As.map (xi_cv E)) (n := As.length) hF hS2
    ⟨⟨⟨rfl, rfl, by show d2 + 1 ≤ R.frames; omega, by show 8 + (n2 + 11) + 100 * d2 ≤ R.locals; omega, pay_in ht (xi_good hG hco), List.mem_cons_self⟩, ht _ hco, ht _ hin, ⟨hd.1, hd.2.1⟩, fun sig h => by have h2 := hd.2.2; rw [h] at h2; exact (Option.some.inj h2).symm, ht _ hli⟩, ht _ hst, trivial⟩
    ⟨xi_blind, fun U hU hW => ⟨rfl, by rw [hU]; exact hP, va_K.moved hW.alike hK⟩⟩ rfl (List.length_map _) hls rfl (by show 2 * 0 + _ ≤ 8; rw [Nat.mul_zero, Nat.zero_add]; exact hcs) hdg ⟨Nat.zero_le _, Nat.zero_le _⟩) hS kk
theorem xi_callV {x d2 n2 b ci nf : Nat} {T : u_T} {y2 : MethodName} {c2 : ByteArray} {ret : Option FieldType} (hE : xi_Eok E S cl tys) (hb : S.1 b = ci + 3) (hc : cl[ci]? = some (y2.cls, T, nf)) (hS2 : xi_Sound l E S D cl tys Ts y2 c2 n2 ret d2 (.ref b :: As) m1 r m2) (hG : ∀ w ∈ Ts, goodWord w = true) (hco : Cond.code y2 c2 n2 ret ∈ Ts) (hli : Cond.methodLink own x y2 ∈ Ts) (hst : Cond.instanceMethod y2 ∈ Ts) (hse : Cond.selects y2.cls y2 y2 ∈ Ts) (hin : Cond.initialized y2.cls ∈ Ts)
    (hd : y2.cls ≠ "java/lang/invoke/MethodHandle" ∧ y2.cls ≠ "java/lang/invoke/VarHandle" ∧ (parseMethodDescriptor y2.desc).map (fun q => q.parameters.length) = some As.length) (hdd : d2 + 1 ≤ d) (hn2 : n2 ≤ 60) : xi_Cal l E S D cl tys own Ts cc nL d (.invokevirtual x) (.ref b :: As) m1 r m2 := by
  intro p e R s m args below meth c H locs Q pc ls rest hF hK hd1 hd2 hls hcs hdg hP hS kk
  have ht := hF.2.2.2.2
  have hci : ci < cl.length := (List.getElem?_eq_some_iff.mp hc).1
  have hg := xi_wld_get (E := E) (S := S) (m := m1) (hE.2.1 b (by omega))
  rw [xi_cel_obj hb] at hg
  refine xi_back (a := ((Value.ref b :: As).map (xi_cv E)).toArray) (va_runV (C := y2.cls) (b := E.1 b) (As := As.map (xi_cv E)) (n := As.length) hF hS2
    ⟨callB_of As.length ht (xi_good hG hco) rfl rfl rfl (ht _ hin) (ht _ hli) hd ⟨by show d2 + 1 ≤ R.frames; omega, by show 8 + (n2 + 11) + 100 * d2 ≤ R.locals; omega⟩, ht _ hst, ht _ hse⟩
    ⟨xi_blind, va_recv hK hP hc hg, fun U hU hW => ⟨rfl, by rw [hU]; exact hP, va_K.moved hW.alike hK⟩⟩ rfl (List.length_map _) hls (by show ((xi_cv E (.ref b) :: As.map (xi_cv E)).reverse ++ rest) = _; rw [List.reverse_cons, List.append_assoc]; rfl) (by show 2 * 0 + _ ≤ 8; rw [Nat.mul_zero, Nat.zero_add]; exact hcs) hdg ⟨Nat.zero_le _, Nat.zero_le _⟩) hS kk
theorem xi_callA {x a0 a1 : Nat} {sp dp n : Int32} (hE : xi_Eok E S cl tys) (h0 : S.1 a0 = 0) (h1 : S.1 a1 = 0) (hsp : ¬ sp < 0) (hdp : ¬ dp < 0) (hn : ¬ n < 0) (hl0 : sp.toNatClampNeg + n.toNatClampNeg ≤ S.2.1 a0) (hl1 : dp.toNatClampNeg + n.toNatClampNeg ≤ S.2.1 a1) (hli : Cond.methodLink own x arraycopyName ∈ Ts) (hna : Cond.native arraycopyName ∈ Ts) (hst : Cond.static arraycopyName ∈ Ts) (hin : Cond.initialized "java/lang/System" ∈ Ts) (hdd : 1 ≤ d) :
    xi_Cal l E S D cl tys own Ts cc nL d (.invokestatic x) [.ref a0, .int sp, .ref a1, .int dp, .int n] m1 none (fun b => if b = a1 then va_cpy (m1.1 a0) (m1.1 a1) sp.toNatClampNeg dp.toNatClampNeg n.toNatClampNeg else m1.1 b, m1.2) := by
  intro p e R s m args below meth c H locs Q pc ls rest hF hK hd1 hd2 hls hcs hdg hP hS kk
  obtain ⟨hx, hb, hml, hown, ht⟩ := hF
  obtain ⟨hinj, hshape, hty0, -, -⟩ := hE
  have ha0 : a0 < E.2.1 := hshape a0 (by omega)
  have ha1 : a1 < E.2.1 := hshape a1 (by omega)
  have hg0 := xi_wld_get (E := E) (S := S) (m := m1) ha0
  rw [xi_cel_row h0] at hg0
  have hg1 := xi_wld_get (E := E) (S := S) (m := m1) ha1
  rw [xi_cel_row h1] at hg1
  unfold xi_cs at hcs
  refine va_copyi (rest := rest) (a := E.1 a1) (a0 := E.1 a0) hx hb (hml.trans hls.symm) hown (ht _ hli) (ht _ hna) (ht _ hst) (ht _ hin) hK hP (xi_wld_D hinj) hS a0 a1 0 0 hg0 hg1 hty0 hty0 rfl hsp hdp hn hl0 hl1 (fun _ _ => rfl) (by omega) (by show _ + (7 + 11) ≤ R.locals; omega) hdg (fun H1 locs1 hP1 hD1 hS1 => ?_)
  refine kk H1 locs1 ?_ hS1
  rw [← xi_wld_set (m := m1) (e := .inl (E.2.2.2 0, S.2.1 a1, .inl (va_cpy (m1.1 a0) (m1.1 a1) sp.toNatClampNeg dp.toNatClampNeg n.toNatClampNeg))) ha1 ?_ ?_]
  · exact hP1
  · rw [xi_cel_row h1]
    dsimp only
    rw [if_pos rfl]
  · intro b hb
    exact xi_cel_ne (if_neg hb) rfl
end XM
end
