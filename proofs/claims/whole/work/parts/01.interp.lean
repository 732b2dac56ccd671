/-! An interpreter of the bytecode that this system uses, over a memory of numbered cells of fixed shape:
    a cell is an int row, a row of references, or an object; references never change; what changes are ints and longs. -/
abbrev xi_M : Type := (Nat → Nat → Int32) × (Nat → Nat → Int64)
abbrev xi_L : Type := List (Option Value)
abbrev xi_T : Type := Nat × xi_L × List Value × xi_M
abbrev xi_R : Type := Option Value × xi_M
abbrev xi_C : Type := Nat → List Value → xi_M → Option xi_R
/-- the shape: the kind of a cell (0 int row, 1 and 2 rows of references, k + 3 an object of the k-th sort), a row's length, the references -/
abbrev xi_S : Type := (Nat → Nat) × (Nat → Nat) × (Nat → Nat → Option Nat)
/-- a method: instructions, fields (sort, place, type: 0 int 1 boolean 2 long 3 reference), constants, callees' arguments and results (0 void 1 int 2 long), callees (static, by object), its own result (0 void 1 int 2 boolean 3 long) -/
abbrev xi_P : Type := (Nat → Option (Instr × Nat)) × (Nat → Option (Nat × Nat × Nat)) × (Nat → Option Int32) × (Nat → Option Int64) × (Nat → Option (Nat × Nat)) × (Nat → Option (Nat × Nat)) × xi_C × xi_C × Nat
def xi_get : xi_L → Nat → Option Value
  | [], _ => none
  | v :: _, 0 => v
  | _ :: t, n + 1 => xi_get t n
def xi_set : xi_L → Nat → Option Value → xi_L
  | [], _, _ => []
  | _ :: t, 0, x => x :: t
  | v :: t, n + 1, x => v :: xi_set t n x
def xi_clr (L : xi_L) : Nat → xi_L
  | 0 => L
  | n + 1 => match xi_get L n with
    | some v => bif Nat.beq v.category 2 then xi_set L n none else L
    | none => L
def xi_st1 (L : xi_L) (i : Nat) (v : Value) : xi_L := xi_set (xi_clr L i) i (some v)
def xi_st2 (L : xi_L) (i : Nat) (v : Value) : xi_L := xi_set (xi_set (xi_clr L i) i (some v)) (i + 1) none
def xi_up (f : Nat → Nat → Int32) (a k : Nat) (v : Int32) : Nat → Nat → Int32 := fun b => if b = a then upd (f a) k v else f b
def xi_upL (f : Nat → Nat → Int64) (a k : Nat) (v : Int64) : Nat → Nat → Int64 := fun b => if b = a then vp_updL (f a) k v else f b
def xi_bI (q : Option xi_R) (k : Int32 → xi_M → Option xi_R) : Option xi_R := match q with
  | some (some (.int v), m) => k v m
  | _ => none
def xi_bJ (q : Option xi_R) (k : Int64 → xi_M → Option xi_R) : Option xi_R := match q with
  | some (some (.long v), m) => k v m
  | _ => none
def xi_bV (q : Option xi_R) (k : xi_M → Option xi_R) : Option xi_R := match q with
  | some (none, m) => k m
  | _ => none
def xi_sI (st : List Value) (k : Int32 → List Value → Option xi_R) : Option xi_R := match st with
  | .int x :: r => k x r
  | _ => none
def xi_sJ (st : List Value) (k : Int64 → List Value → Option xi_R) : Option xi_R := match st with
  | .long x :: r => k x r
  | _ => none
def xi_sR (st : List Value) (k : Nat → List Value → Option xi_R) : Option xi_R := match st with
  | .ref x :: r => k x r
  | _ => none
def xi_lI (v : Option Value) (k : Int32 → Option xi_R) : Option xi_R := match v with
  | some (.int x) => k x
  | _ => none
def xi_lJ (v : Option Value) (k : Int64 → Option xi_R) : Option xi_R := match v with
  | some (.long x) => k x
  | _ => none
def xi_lR (v : Option Value) (k : Nat → Option xi_R) : Option xi_R := match v with
  | some (.ref x) => k x
  | _ => none
def xi_to (pc : Nat) (off : Int) (k : Nat → Option xi_R) : Option xi_R := match (pc : Int) + off with
  | .ofNat t => k t
  | .negSucc _ => none
def xi_sw (k : Int → Option xi_R) (x : Int32) (d : Int) : Int → List Int → Option xi_R
  | _, [] => k d
  | lo, o :: os => if x.toInt = lo then k o else xi_sw k x d (lo + 1) os
def xi_lk (k : Int → Option xi_R) (x : Int32) (d : Int) : List (Int × Int) → Option xi_R
  | [] => k d
  | q :: ps => if q.1 = x.toInt then k q.2 else xi_lk k x d ps
def xi_cs (st : List Value) : Nat := (st.map fun v => v.category).sum
/-- a call's answer by its kind -/
def xi_an (rk : Nat) (q : Option xi_R) (rest : List Value) (k : List Value → xi_M → Option xi_R) : Option xi_R := match rk with
  | 0 => xi_bV q fun m => k rest m
  | 1 => xi_bI q fun v m => k (.int v :: rest) m
  | 2 => xi_bJ q fun v m => k (.long v :: rest) m
  | _ => none
/-- one instruction: what comes of it, if K tells what comes of the next state -/
def xi_op (S : xi_S) (P : xi_P) (K : xi_T → Option xi_R) (pc : Nat) (L : xi_L) (st : List Value) (m : xi_M) (i : Instr) : Option xi_R := match i with
  | .iconst n => K (pc + 1, L, .int (Int32.ofInt n) :: st, m)
  | .bipush n => K (pc + 2, L, .int (Int8.ofInt n).toInt32 :: st, m)
  | .sipush n => K (pc + 3, L, .int (Int16.ofInt n).toInt32 :: st, m)
  | .lconst n => K (pc + 1, L, .long (Int64.ofNat (n : Nat)) :: st, m)
  | .ldc x => (P.2.2.1 x).bind fun v => K (pc + 2, L, .int v :: st, m)
  | .ldc_w x => (P.2.2.1 x).bind fun v => K (pc + 3, L, .int v :: st, m)
  | .ldc2_w x => (P.2.2.2.1 x).bind fun v => K (pc + 3, L, .long v :: st, m)
  | .iload i => xi_lI (xi_get L i) fun x => K (pc + 2, L, .int x :: st, m)
  | .iload_n i => xi_lI (xi_get L i) fun x => K (pc + 1, L, .int x :: st, m)
  | .lload i => xi_lJ (xi_get L i) fun x => K (pc + 2, L, .long x :: st, m)
  | .lload_n i => xi_lJ (xi_get L i) fun x => K (pc + 1, L, .long x :: st, m)
  | .aload i => xi_lR (xi_get L i) fun x => K (pc + 2, L, .ref x :: st, m)
  | .aload_n i => xi_lR (xi_get L i) fun x => K (pc + 1, L, .ref x :: st, m)
  | .istore i => xi_sI st fun x r => bif Nat.blt i L.length then K (pc + 2, xi_st1 L i (.int x), r, m) else none
  | .istore_n i => xi_sI st fun x r => bif Nat.blt i L.length then K (pc + 1, xi_st1 L i (.int x), r, m) else none
  | .lstore i => xi_sJ st fun x r => bif Nat.blt (i + 1) L.length then K (pc + 2, xi_st2 L i (.long x), r, m) else none
  | .lstore_n i => xi_sJ st fun x r => bif Nat.blt (i + 1) L.length then K (pc + 1, xi_st2 L i (.long x), r, m) else none
  | .iinc i n => xi_lI (xi_get L i) fun x => bif Nat.blt i L.length then K (pc + 3, xi_st1 L i (.int (x + Int32.ofInt n)), st, m) else none
  | .iadd => xi_sI st fun y r => xi_sI r fun x r => K (pc + 1, L, .int (x + y) :: r, m)
  | .isub => xi_sI st fun y r => xi_sI r fun x r => K (pc + 1, L, .int (x - y) :: r, m)
  | .imul => xi_sI st fun y r => xi_sI r fun x r => K (pc + 1, L, .int (x * y) :: r, m)
  | .iand => xi_sI st fun y r => xi_sI r fun x r => K (pc + 1, L, .int (x &&& y) :: r, m)
  | .ior => xi_sI st fun y r => xi_sI r fun x r => K (pc + 1, L, .int (x ||| y) :: r, m)
  | .ixor => xi_sI st fun y r => xi_sI r fun x r => K (pc + 1, L, .int (x ^^^ y) :: r, m)
  | .ishl => xi_sI st fun y r => xi_sI r fun x r => K (pc + 1, L, .int (x <<< (y &&& 31)) :: r, m)
  | .ishr => xi_sI st fun y r => xi_sI r fun x r => K (pc + 1, L, .int (x >>> (y &&& 31)) :: r, m)
  | .iushr => xi_sI st fun y r => xi_sI r fun x r => K (pc + 1, L, .int (x.toUInt32 >>> (y.toUInt32 &&& Int32.toUInt32 31)).toInt32 :: r, m)
  | .ineg => xi_sI st fun x r => K (pc + 1, L, .int (-x) :: r, m)
  | .idiv => xi_sI st fun y r => xi_sI r fun x r => if y = 0 then none else K (pc + 1, L, .int (x / y) :: r, m)
  | .irem => xi_sI st fun y r => xi_sI r fun x r => if y = 0 then none else K (pc + 1, L, .int (x - x / y * y) :: r, m)
  | .i2l => xi_sI st fun x r => K (pc + 1, L, .long x.toInt64 :: r, m)
  | .l2i => xi_sJ st fun x r => K (pc + 1, L, .int x.toInt32 :: r, m)
  | .i2b => xi_sI st fun x r => K (pc + 1, L, .int x.toInt8.toInt32 :: r, m)
  | .ladd => xi_sJ st fun y r => xi_sJ r fun x r => K (pc + 1, L, .long (x + y) :: r, m)
  | .lsub => xi_sJ st fun y r => xi_sJ r fun x r => K (pc + 1, L, .long (x - y) :: r, m)
  | .lmul => xi_sJ st fun y r => xi_sJ r fun x r => K (pc + 1, L, .long (x * y) :: r, m)
  | .ldiv => xi_sJ st fun y r => xi_sJ r fun x r => if y = 0 then none else K (pc + 1, L, .long (x / y) :: r, m)
  | .lrem => xi_sJ st fun y r => xi_sJ r fun x r => if y = 0 then none else K (pc + 1, L, .long (x - x / y * y) :: r, m)
  | .lcmp => xi_sJ st fun y r => xi_sJ r fun x r => K (pc + 1, L, .int (lg_cmp x y) :: r, m)
  | .dup => match st with
    | .ref a :: r => K (pc + 1, L, .ref a :: .ref a :: r, m)
    | .int a :: r => K (pc + 1, L, .int a :: .int a :: r, m)
    | _ => none
  | .dup2 => xi_sI st fun i r => xi_sR r fun a r => K (pc + 1, L, .int i :: .ref a :: .int i :: .ref a :: r, m)
  | .pop => xi_sI st fun _ r => K (pc + 1, L, r, m)
  | .goto o => xi_to pc o fun t => K (t, L, st, m)
  | .ifCond .eq o => xi_sI st fun x r => xi_to pc o fun t => if x = 0 then K (t, L, r, m) else K (pc + 3, L, r, m)
  | .ifCond .ne o => xi_sI st fun x r => xi_to pc o fun t => if x = 0 then K (pc + 3, L, r, m) else K (t, L, r, m)
  | .ifCond .lt o => xi_sI st fun x r => xi_to pc o fun t => if x < 0 then K (t, L, r, m) else K (pc + 3, L, r, m)
  | .ifCond .ge o => xi_sI st fun x r => xi_to pc o fun t => if 0 ≤ x then K (t, L, r, m) else K (pc + 3, L, r, m)
  | .ifCond .gt o => xi_sI st fun x r => xi_to pc o fun t => if 0 < x then K (t, L, r, m) else K (pc + 3, L, r, m)
  | .ifCond .le o => xi_sI st fun x r => xi_to pc o fun t => if x ≤ 0 then K (t, L, r, m) else K (pc + 3, L, r, m)
  | .if_icmp .eq o => xi_sI st fun y r => xi_sI r fun x r => xi_to pc o fun t => if x = y then K (t, L, r, m) else K (pc + 3, L, r, m)
  | .if_icmp .ne o => xi_sI st fun y r => xi_sI r fun x r => xi_to pc o fun t => if x = y then K (pc + 3, L, r, m) else K (t, L, r, m)
  | .if_icmp .lt o => xi_sI st fun y r => xi_sI r fun x r => xi_to pc o fun t => if x < y then K (t, L, r, m) else K (pc + 3, L, r, m)
  | .if_icmp .ge o => xi_sI st fun y r => xi_sI r fun x r => xi_to pc o fun t => if y ≤ x then K (t, L, r, m) else K (pc + 3, L, r, m)
  | .if_icmp .gt o => xi_sI st fun y r => xi_sI r fun x r => xi_to pc o fun t => if y < x then K (t, L, r, m) else K (pc + 3, L, r, m)
  | .if_icmp .le o => xi_sI st fun y r => xi_sI r fun x r => xi_to pc o fun t => if x ≤ y then K (t, L, r, m) else K (pc + 3, L, r, m)
  | .tableswitch d lo hi os => xi_sI st fun x r => bif decide (hi - lo + 1 = (os.toList.length : Int)) then xi_sw (fun o => xi_to pc o fun t => K (t, L, r, m)) x d lo os.toList else none
  | .lookupswitch d ps => xi_sI st fun x r => bif (ps.toList.zip (ps.toList.drop 1)).all (fun (a, next) => a.1 < next.1) then xi_lk (fun o => xi_to pc o fun t => K (t, L, r, m)) x d ps.toList else none
  | .getfield x => xi_sR st fun a r => (P.2.1 x).bind fun q => if S.1 a = q.1 + 3 then (match q.2.2 with
    | 2 => K (pc + 3, L, .long (m.2 a q.2.1) :: r, m)
    | 3 => (S.2.2 a q.2.1).bind fun b => K (pc + 3, L, .ref b :: r, m)
    | _ => K (pc + 3, L, .int (m.1 a q.2.1) :: r, m)) else none
  | .putfield x => (P.2.1 x).bind fun q => match q.2.2 with
    | 0 => xi_sI st fun v r => xi_sR r fun a r => if S.1 a = q.1 + 3 then K (pc + 3, L, r, (xi_up m.1 a q.2.1 v, m.2)) else none
    | 1 => xi_sI st fun v r => xi_sR r fun a r => if S.1 a = q.1 + 3 ∧ (v = 0 ∨ v = 1) then K (pc + 3, L, r, (xi_up m.1 a q.2.1 v, m.2)) else none
    | 2 => xi_sJ st fun v r => xi_sR r fun a r => if S.1 a = q.1 + 3 then K (pc + 3, L, r, (m.1, xi_upL m.2 a q.2.1 v)) else none
    | _ => none
  | .iaload => xi_sI st fun i r => xi_sR r fun a r => if S.1 a = 0 ∧ ¬ (i < 0 ∨ S.2.1 a ≤ i.toNatClampNeg) then K (pc + 1, L, .int (m.1 a i.toNatClampNeg) :: r, m) else none
  | .iastore => xi_sI st fun v r => xi_sI r fun i r => xi_sR r fun a r => if S.1 a = 0 ∧ ¬ (i < 0 ∨ S.2.1 a ≤ i.toNatClampNeg) then K (pc + 1, L, r, (xi_up m.1 a i.toNatClampNeg v, m.2)) else none
  | .aaload => xi_sI st fun i r => xi_sR r fun a r => if (S.1 a = 1 ∨ S.1 a = 2) ∧ ¬ (i < 0 ∨ S.2.1 a ≤ i.toNatClampNeg) then (S.2.2 a i.toNatClampNeg).bind fun b => K (pc + 1, L, .ref b :: r, m) else none
  | .arraylength => xi_sR st fun a r => if S.1 a = 0 ∨ S.1 a = 1 ∨ S.1 a = 2 then K (pc + 1, L, .int (Int32.ofNat (S.2.1 a)) :: r, m) else none
  | .invokestatic x => (P.2.2.2.2.1 x).bind fun q => bif Nat.ble q.1 st.length && Nat.ble (xi_cs (st.drop q.1)) 8 then xi_an q.2 (P.2.2.2.2.2.2.1 x (st.take q.1).reverse m) (st.drop q.1) fun st m => K (pc + 3, L, st, m) else none
  | .invokevirtual x => (P.2.2.2.2.2.1 x).bind fun q => bif Nat.ble q.1 st.length && Nat.ble (xi_cs (st.drop q.1)) 8 then xi_an q.2 (P.2.2.2.2.2.2.2.1 x (st.take q.1).reverse m) (st.drop q.1) fun st m => K (pc + 3, L, st, m) else none
  | .ireturn => match st, P.2.2.2.2.2.2.2.2 with
    | [.int v], 1 => some (some (.int v), m)
    | [.int v], 2 => if v = 0 ∨ v = 1 then some (some (.int v), m) else none
    | _, _ => none
  | .lreturn => match st, P.2.2.2.2.2.2.2.2 with
    | [.long v], 3 => some (some (.long v), m)
    | _, _ => none
  | .return_ => match st, P.2.2.2.2.2.2.2.2 with
    | [], 0 => some (none, m)
    | _, _ => none
  | _ => none
def xi_run (S : xi_S) (P : xi_P) (K : xi_T → Option xi_R) (t : xi_T) : Option xi_R := match P.1 t.1 with
  | none => none
  | some q => xi_op S P K t.1 t.2.1 t.2.2.1 t.2.2.2 q.1
/-- n steps at most, up to a stop -/
def xi_go (S : xi_S) (P : xi_P) (sp : Nat → Bool) (K : xi_T → Option xi_R) : Nat → xi_T → Option xi_R
  | 0 => K
  | n + 1 => xi_run S P fun t => bif sp t.1 then K t else xi_go S P sp K n t
