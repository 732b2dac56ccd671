/-! Rules: an instruction at a time, from what a method's function says. -/
theorem xi_no {P : Prop} {res : xi_R} (h : (none : Option xi_R) = some res) : P := nomatch h
def xi_wI (m : xi_M) (a k : Nat) (v : Int32) : xi_M := (xi_up m.1 a k v, m.2)
def xi_wJ (m : xi_M) (a k : Nat) (v : Int64) : xi_M := (m.1, xi_upL m.2 a k v)
theorem xi_le_z : xi_le [] [] := ⟨rfl, fun _ _ h => h⟩
theorem xi_le_s {x : Option Value} {L1 L : xi_L} (h : xi_le L1 L) : xi_le (x :: L1) (x :: L) := ⟨congrArg Nat.succ h.1, fun i v hv => by
  cases i with
  | zero => exact hv
  | succ j => exact h.2 j v hv⟩
theorem xi_le_n {x : Option Value} {L1 L : xi_L} (h : xi_le L1 L) : xi_le (none :: L1) (x :: L) := ⟨congrArg Nat.succ h.1, fun i v hv => by
  cases i with
  | zero => cases hv
  | succ j => exact h.2 j v hv⟩
theorem xi_bI_some {q : Option xi_R} {k : Int32 → xi_M → Option xi_R} {res : xi_R} (h : xi_bI q k = some res) : ∃ v m, q = some (some (.int v), m) ∧ k v m = some res := by
  unfold xi_bI at h
  split at h
  · exact ⟨_, _, rfl, h⟩
  · cases h
theorem xi_bJ_some {q : Option xi_R} {k : Int64 → xi_M → Option xi_R} {res : xi_R} (h : xi_bJ q k = some res) : ∃ v m, q = some (some (.long v), m) ∧ k v m = some res := by
  unfold xi_bJ at h
  split at h
  · exact ⟨_, _, rfl, h⟩
  · cases h
theorem xi_bV_some {q : Option xi_R} {k : xi_M → Option xi_R} {res : xi_R} (h : xi_bV q k = some res) : ∃ m, q = some (none, m) ∧ k m = some res := by
  unfold xi_bV at h
  split at h
  · exact ⟨_, rfl, h⟩
  · cases h
/-- an instruction out of the bytes, if it is as long as such an instruction is -/
def xi_dc (cc : ByteArray) (pc : Nat) : Option (Instr × Nat) := match decode cc pc with
  | .ok q => bif Nat.beq q.2 (xi_len q.1 q.2) then some q else none
  | _ => none
theorem xi_dc_ok {cc : ByteArray} : ∀ pc i n, xi_dc cc pc = some (i, n) → decode cc pc = .ok (i, n) ∧ n = xi_len i n := by
  intro pc i n h
  unfold xi_dc at h
  split at h
  · rename_i q hq
    cases hb : Nat.beq q.2 (xi_len q.1 q.2) with
    | true =>
      rw [hb] at h
      cases h
      exact ⟨hq, Nat.eq_of_beq_eq_true hb⟩
    | false => rw [hb] at h; cases h
  · cases h
section XR
variable {S : xi_S} {P : xi_P} {res : xi_R} {pc q : Nat} {L : xi_L} {r : List Value} {m : xi_M}
theorem xr_of {t : xi_T} (h : ∀ K : xi_T → Option xi_R, (∀ t', xi_X S P t' res → K t' = some res) → xi_run S P K t = some res) : xi_X S P t res :=
  fun G hG hle => hG (xi_K S P res) t (h _ (fun _ ht => xi_K_of ht)) (fun _ ht => xi_K_to ht G hG hle)
theorem xr_go {st : List Value} {i : Instr} {n : Nat} (hp : P.1 pc = some (i, n)) (h : ∀ K : xi_T → Option xi_R, (∀ t', xi_X S P t' res → K t' = some res) → xi_op S P K pc L st m i = some res) : xi_X S P (pc, L, st, m) res :=
  xr_of fun K hK => by
    unfold xi_run
    dsimp only
    rw [hp]
    exact h K hK

theorem xr_iconst {v : Int} (hp : P.1 pc = some (.iconst v, 1))  (hq : pc + 1 = q) (k : xi_X S P (q, L, .int (Int32.ofInt v) :: r, m) res) : xi_X S P (pc, L, r, m) res := by
  subst hq
  exact xr_go hp (fun K hK => hK _ k)
theorem xr_bipush {v : Int} (hp : P.1 pc = some (.bipush v, 2))  (hq : pc + 2 = q) (k : xi_X S P (q, L, .int ((Int8.ofInt v).toInt32) :: r, m) res) : xi_X S P (pc, L, r, m) res := by
  subst hq
  exact xr_go hp (fun K hK => hK _ k)
theorem xr_sipush {v : Int} (hp : P.1 pc = some (.sipush v, 3))  (hq : pc + 3 = q) (k : xi_X S P (q, L, .int ((Int16.ofInt v).toInt32) :: r, m) res) : xi_X S P (pc, L, r, m) res := by
  subst hq
  exact xr_go hp (fun K hK => hK _ k)
theorem xr_lconst {v : Fin 2} (hp : P.1 pc = some (.lconst v, 1))  (hq : pc + 1 = q) (k : xi_X S P (q, L, .long (Int64.ofNat (v : Nat)) :: r, m) res) : xi_X S P (pc, L, r, m) res := by
  subst hq
  exact xr_go hp (fun K hK => hK _ k)
theorem xr_ldc {x : Nat} {v : Int32} (hp : P.1 pc = some (.ldc x, 2)) (hc : P.2.2.1 x = some v) (hq : pc + 2 = q) (k : xi_X S P (q, L, .int v :: r, m) res) : xi_X S P (pc, L, r, m) res := by
  subst hq
  exact xr_go hp (fun K hK => show (P.2.2.1 x).bind _ = _ by rw [hc]; exact hK _ k)
theorem xr_ldc_w {x : Nat} {v : Int32} (hp : P.1 pc = some (.ldc_w x, 3)) (hc : P.2.2.1 x = some v) (hq : pc + 3 = q) (k : xi_X S P (q, L, .int v :: r, m) res) : xi_X S P (pc, L, r, m) res := by
  subst hq
  exact xr_go hp (fun K hK => show (P.2.2.1 x).bind _ = _ by rw [hc]; exact hK _ k)
theorem xr_ldc2_w {x : Nat} {v : Int64} (hp : P.1 pc = some (.ldc2_w x, 3)) (hc : P.2.2.2.1 x = some v) (hq : pc + 3 = q) (k : xi_X S P (q, L, .long v :: r, m) res) : xi_X S P (pc, L, r, m) res := by
  subst hq
  exact xr_go hp (fun K hK => show (P.2.2.2.1 x).bind _ = _ by rw [hc]; exact hK _ k)
theorem xr_iload {i : Nat} {v : Int32} (hp : P.1 pc = some (.iload i, 2)) (hg : xi_get L i = some (.int v)) (hq : pc + 2 = q) (k : xi_X S P (q, L, .int v :: r, m) res) : xi_X S P (pc, L, r, m) res := by
  subst hq
  exact xr_go hp (fun K hK => show xi_lI (xi_get L i) _ = _ by rw [hg]; exact hK _ k)
theorem xr_iload_n {i : Fin 4} {v : Int32} (hp : P.1 pc = some (.iload_n i, 1)) (hg : xi_get L i = some (.int v)) (hq : pc + 1 = q) (k : xi_X S P (q, L, .int v :: r, m) res) : xi_X S P (pc, L, r, m) res := by
  subst hq
  exact xr_go hp (fun K hK => show xi_lI (xi_get L i) _ = _ by rw [hg]; exact hK _ k)
theorem xr_lload {i : Nat} {v : Int64} (hp : P.1 pc = some (.lload i, 2)) (hg : xi_get L i = some (.long v)) (hq : pc + 2 = q) (k : xi_X S P (q, L, .long v :: r, m) res) : xi_X S P (pc, L, r, m) res := by
  subst hq
  exact xr_go hp (fun K hK => show xi_lJ (xi_get L i) _ = _ by rw [hg]; exact hK _ k)
theorem xr_lload_n {i : Fin 4} {v : Int64} (hp : P.1 pc = some (.lload_n i, 1)) (hg : xi_get L i = some (.long v)) (hq : pc + 1 = q) (k : xi_X S P (q, L, .long v :: r, m) res) : xi_X S P (pc, L, r, m) res := by
  subst hq
  exact xr_go hp (fun K hK => show xi_lJ (xi_get L i) _ = _ by rw [hg]; exact hK _ k)
theorem xr_aload {i : Nat} {v : Nat} (hp : P.1 pc = some (.aload i, 2)) (hg : xi_get L i = some (.ref v)) (hq : pc + 2 = q) (k : xi_X S P (q, L, .ref v :: r, m) res) : xi_X S P (pc, L, r, m) res := by
  subst hq
  exact xr_go hp (fun K hK => show xi_lR (xi_get L i) _ = _ by rw [hg]; exact hK _ k)
theorem xr_aload_n {i : Fin 4} {v : Nat} (hp : P.1 pc = some (.aload_n i, 1)) (hg : xi_get L i = some (.ref v)) (hq : pc + 1 = q) (k : xi_X S P (q, L, .ref v :: r, m) res) : xi_X S P (pc, L, r, m) res := by
  subst hq
  exact xr_go hp (fun K hK => show xi_lR (xi_get L i) _ = _ by rw [hg]; exact hK _ k)
theorem xr_istore {i : Nat} {v : Int32} {L2 : xi_L} (hp : P.1 pc = some (.istore i, 2)) (hb : Nat.blt (i) L.length = true) (hL : xi_st1 L i (.int v) = L2) (hq : pc + 2 = q) (k : xi_X S P (q, L2, r, m) res) : xi_X S P (pc, L, .int v :: r, m) res := by
  subst hq
  exact xr_go hp (fun K hK => show (bif Nat.blt (i) L.length then K _ else none) = _ by rw [hb, hL]; exact hK _ k)
theorem xr_istore_n {i : Fin 4} {v : Int32} {L2 : xi_L} (hp : P.1 pc = some (.istore_n i, 1)) (hb : Nat.blt ((i : Nat)) L.length = true) (hL : xi_st1 L i (.int v) = L2) (hq : pc + 1 = q) (k : xi_X S P (q, L2, r, m) res) : xi_X S P (pc, L, .int v :: r, m) res := by
  subst hq
  exact xr_go hp (fun K hK => show (bif Nat.blt ((i : Nat)) L.length then K _ else none) = _ by rw [hb, hL]; exact hK _ k)
theorem xr_lstore {i : Nat} {v : Int64} {L2 : xi_L} (hp : P.1 pc = some (.lstore i, 2)) (hb : Nat.blt (i + 1) L.length = true) (hL : xi_st2 L i (.long v) = L2) (hq : pc + 2 = q) (k : xi_X S P (q, L2, r, m) res) : xi_X S P (pc, L, .long v :: r, m) res := by
  subst hq
  exact xr_go hp (fun K hK => show (bif Nat.blt (i + 1) L.length then K _ else none) = _ by rw [hb, hL]; exact hK _ k)
theorem xr_lstore_n {i : Fin 4} {v : Int64} {L2 : xi_L} (hp : P.1 pc = some (.lstore_n i, 1)) (hb : Nat.blt ((i : Nat) + 1) L.length = true) (hL : xi_st2 L i (.long v) = L2) (hq : pc + 1 = q) (k : xi_X S P (q, L2, r, m) res) : xi_X S P (pc, L, .long v :: r, m) res := by
  subst hq
  exact xr_go hp (fun K hK => show (bif Nat.blt ((i : Nat) + 1) L.length then K _ else none) = _ by rw [hb, hL]; exact hK _ k)
theorem xr_iinc {i : Nat} {w : Int} {v : Int32} {L2 : xi_L} (hp : P.1 pc = some (.iinc i w, 3)) (hg : xi_get L i = some (.int v)) (hb : Nat.blt i L.length = true) (hL : xi_st1 L i (.int (v + Int32.ofInt w)) = L2) (hq : pc + 3 = q) (k : xi_X S P (q, L2, r, m) res) : xi_X S P (pc, L, r, m) res := by
  subst hq
  exact xr_go hp (fun K hK => show xi_lI (xi_get L i) _ = _ by rw [hg]; show (bif Nat.blt i L.length then K _ else none) = _; rw [hb, hL]; exact hK _ k)
theorem xr_iadd {x y : Int32} (hp : P.1 pc = some (.iadd, 1))  (hq : pc + 1 = q) (k : xi_X S P (q, L, .int (x + y) :: r, m) res) : xi_X S P (pc, L, .int y :: .int x :: r, m) res := by
  subst hq
  exact xr_go hp (fun K hK => hK _ k)
theorem xr_isub {x y : Int32} (hp : P.1 pc = some (.isub, 1))  (hq : pc + 1 = q) (k : xi_X S P (q, L, .int (x - y) :: r, m) res) : xi_X S P (pc, L, .int y :: .int x :: r, m) res := by
  subst hq
  exact xr_go hp (fun K hK => hK _ k)
theorem xr_imul {x y : Int32} (hp : P.1 pc = some (.imul, 1))  (hq : pc + 1 = q) (k : xi_X S P (q, L, .int (x * y) :: r, m) res) : xi_X S P (pc, L, .int y :: .int x :: r, m) res := by
  subst hq
  exact xr_go hp (fun K hK => hK _ k)
theorem xr_iand {x y : Int32} (hp : P.1 pc = some (.iand, 1))  (hq : pc + 1 = q) (k : xi_X S P (q, L, .int (x &&& y) :: r, m) res) : xi_X S P (pc, L, .int y :: .int x :: r, m) res := by
  subst hq
  exact xr_go hp (fun K hK => hK _ k)
theorem xr_ior {x y : Int32} (hp : P.1 pc = some (.ior, 1))  (hq : pc + 1 = q) (k : xi_X S P (q, L, .int (x ||| y) :: r, m) res) : xi_X S P (pc, L, .int y :: .int x :: r, m) res := by
  subst hq
  exact xr_go hp (fun K hK => hK _ k)
theorem xr_ixor {x y : Int32} (hp : P.1 pc = some (.ixor, 1))  (hq : pc + 1 = q) (k : xi_X S P (q, L, .int (x ^^^ y) :: r, m) res) : xi_X S P (pc, L, .int y :: .int x :: r, m) res := by
  subst hq
  exact xr_go hp (fun K hK => hK _ k)
theorem xr_ishl {x y : Int32} (hp : P.1 pc = some (.ishl, 1))  (hq : pc + 1 = q) (k : xi_X S P (q, L, .int (x <<< (y &&& 31)) :: r, m) res) : xi_X S P (pc, L, .int y :: .int x :: r, m) res := by
  subst hq
  exact xr_go hp (fun K hK => hK _ k)
theorem xr_ishr {x y : Int32} (hp : P.1 pc = some (.ishr, 1))  (hq : pc + 1 = q) (k : xi_X S P (q, L, .int (x >>> (y &&& 31)) :: r, m) res) : xi_X S P (pc, L, .int y :: .int x :: r, m) res := by
  subst hq
  exact xr_go hp (fun K hK => hK _ k)
theorem xr_iushr {x y : Int32} (hp : P.1 pc = some (.iushr, 1))  (hq : pc + 1 = q) (k : xi_X S P (q, L, .int ((x.toUInt32 >>> (y.toUInt32 &&& Int32.toUInt32 31)).toInt32) :: r, m) res) : xi_X S P (pc, L, .int y :: .int x :: r, m) res := by
  subst hq
  exact xr_go hp (fun K hK => hK _ k)
theorem xr_ladd {x y : Int64} (hp : P.1 pc = some (.ladd, 1))  (hq : pc + 1 = q) (k : xi_X S P (q, L, .long (x + y) :: r, m) res) : xi_X S P (pc, L, .long y :: .long x :: r, m) res := by
  subst hq
  exact xr_go hp (fun K hK => hK _ k)
theorem xr_lsub {x y : Int64} (hp : P.1 pc = some (.lsub, 1))  (hq : pc + 1 = q) (k : xi_X S P (q, L, .long (x - y) :: r, m) res) : xi_X S P (pc, L, .long y :: .long x :: r, m) res := by
  subst hq
  exact xr_go hp (fun K hK => hK _ k)
theorem xr_lmul {x y : Int64} (hp : P.1 pc = some (.lmul, 1))  (hq : pc + 1 = q) (k : xi_X S P (q, L, .long (x * y) :: r, m) res) : xi_X S P (pc, L, .long y :: .long x :: r, m) res := by
  subst hq
  exact xr_go hp (fun K hK => hK _ k)
theorem xr_idiv {x y : Int32} (hp : P.1 pc = some (.idiv, 1)) (h0 : ¬ y = 0) (hq : pc + 1 = q) (k : xi_X S P (q, L, .int (x / y) :: r, m) res) : xi_X S P (pc, L, .int y :: .int x :: r, m) res := by
  subst hq
  exact xr_go hp (fun K hK => show (if y = 0 then none else K _) = _ by rw [if_neg h0]; exact hK _ k)
theorem xr_irem {x y : Int32} (hp : P.1 pc = some (.irem, 1)) (h0 : ¬ y = 0) (hq : pc + 1 = q) (k : xi_X S P (q, L, .int (x - x / y * y) :: r, m) res) : xi_X S P (pc, L, .int y :: .int x :: r, m) res := by
  subst hq
  exact xr_go hp (fun K hK => show (if y = 0 then none else K _) = _ by rw [if_neg h0]; exact hK _ k)
theorem xr_ldiv {x y : Int64} (hp : P.1 pc = some (.ldiv, 1)) (h0 : ¬ y = 0) (hq : pc + 1 = q) (k : xi_X S P (q, L, .long (x / y) :: r, m) res) : xi_X S P (pc, L, .long y :: .long x :: r, m) res := by
  subst hq
  exact xr_go hp (fun K hK => show (if y = 0 then none else K _) = _ by rw [if_neg h0]; exact hK _ k)
theorem xr_lrem {x y : Int64} (hp : P.1 pc = some (.lrem, 1)) (h0 : ¬ y = 0) (hq : pc + 1 = q) (k : xi_X S P (q, L, .long (x - x / y * y) :: r, m) res) : xi_X S P (pc, L, .long y :: .long x :: r, m) res := by
  subst hq
  exact xr_go hp (fun K hK => show (if y = 0 then none else K _) = _ by rw [if_neg h0]; exact hK _ k)
theorem xr_lcmp {x y : Int64} (hp : P.1 pc = some (.lcmp, 1))  (hq : pc + 1 = q) (k : xi_X S P (q, L, .int (lg_cmp x y) :: r, m) res) : xi_X S P (pc, L, .long y :: .long x :: r, m) res := by
  subst hq
  exact xr_go hp (fun K hK => hK _ k)
theorem xr_ineg {x : Int32} (hp : P.1 pc = some (.ineg, 1))  (hq : pc + 1 = q) (k : xi_X S P (q, L, .int (-x) :: r, m) res) : xi_X S P (pc, L, .int x :: r, m) res := by
  subst hq
  exact xr_go hp (fun K hK => hK _ k)
theorem xr_i2l {x : Int32} (hp : P.1 pc = some (.i2l, 1))  (hq : pc + 1 = q) (k : xi_X S P (q, L, .long x.toInt64 :: r, m) res) : xi_X S P (pc, L, .int x :: r, m) res := by
  subst hq
  exact xr_go hp (fun K hK => hK _ k)
theorem xr_l2i {x : Int64} (hp : P.1 pc = some (.l2i, 1))  (hq : pc + 1 = q) (k : xi_X S P (q, L, .int x.toInt32 :: r, m) res) : xi_X S P (pc, L, .long x :: r, m) res := by
  subst hq
  exact xr_go hp (fun K hK => hK _ k)
theorem xr_i2b {x : Int32} (hp : P.1 pc = some (.i2b, 1))  (hq : pc + 1 = q) (k : xi_X S P (q, L, .int x.toInt8.toInt32 :: r, m) res) : xi_X S P (pc, L, .int x :: r, m) res := by
  subst hq
  exact xr_go hp (fun K hK => hK _ k)
theorem xr_dup_r {x : Nat} (hp : P.1 pc = some (.dup, 1))  (hq : pc + 1 = q) (k : xi_X S P (q, L, .ref x :: .ref x :: r, m) res) : xi_X S P (pc, L, .ref x :: r, m) res := by
  subst hq
  exact xr_go hp (fun K hK => hK _ k)
theorem xr_dup_i {x : Int32} (hp : P.1 pc = some (.dup, 1))  (hq : pc + 1 = q) (k : xi_X S P (q, L, .int x :: .int x :: r, m) res) : xi_X S P (pc, L, .int x :: r, m) res := by
  subst hq
  exact xr_go hp (fun K hK => hK _ k)
theorem xr_dup2 {x : Int32} {y : Nat} (hp : P.1 pc = some (.dup2, 1))  (hq : pc + 1 = q) (k : xi_X S P (q, L, .int x :: .ref y :: .int x :: .ref y :: r, m) res) : xi_X S P (pc, L, .int x :: .ref y :: r, m) res := by
  subst hq
  exact xr_go hp (fun K hK => hK _ k)
theorem xr_pop {x : Int32} (hp : P.1 pc = some (.pop, 1))  (hq : pc + 1 = q) (k : xi_X S P (q, L, r, m) res) : xi_X S P (pc, L, .int x :: r, m) res := by
  subst hq
  exact xr_go hp (fun K hK => hK _ k)
theorem xi_to_eq {o : Int} {f : Nat → Option xi_R} (h : (pc : Int) + o = (q : Int)) : xi_to pc o f = f q := by
  unfold xi_to
  rw [h]
theorem xr_goto {st : List Value} {o : Int} (hp : P.1 pc = some (.goto o, 3)) (hq : (pc : Int) + o = (q : Int)) (k : xi_X S P (q, L, st, m) res) : xi_X S P (pc, L, st, m) res :=
  xr_go hp (fun K hK => show xi_to pc o _ = _ by rw [xi_to_eq hq]; exact hK _ k)
theorem xr_ifCond_eq_p {x : Int32} {o : Int} {q2 : Nat} (hp : P.1 pc = some (.ifCond .eq o, 3)) (hc : x = 0) (hq : (pc : Int) + o = (q : Int)) (hq2 : pc + 3 = q2) (k : xi_X S P (q, L, r, m) res) : xi_X S P (pc, L, .int x :: r, m) res := by
  subst hq2
  exact xr_go hp (fun K hK => show xi_to pc o _ = _ by rw [xi_to_eq hq, if_pos hc]; exact hK _ k)
theorem xr_ifCond_eq_n {x : Int32} {o : Int} {q2 : Nat} (hp : P.1 pc = some (.ifCond .eq o, 3)) (hc : ¬ x = 0) (hq : (pc : Int) + o = (q : Int)) (hq2 : pc + 3 = q2) (k : xi_X S P (q2, L, r, m) res) : xi_X S P (pc, L, .int x :: r, m) res := by
  subst hq2
  exact xr_go hp (fun K hK => show xi_to pc o _ = _ by rw [xi_to_eq hq, if_neg hc]; exact hK _ k)
theorem xr_ifCond_ne_p {x : Int32} {o : Int} {q2 : Nat} (hp : P.1 pc = some (.ifCond .ne o, 3)) (hc : x = 0) (hq : (pc : Int) + o = (q : Int)) (hq2 : pc + 3 = q2) (k : xi_X S P (q2, L, r, m) res) : xi_X S P (pc, L, .int x :: r, m) res := by
  subst hq2
  exact xr_go hp (fun K hK => show xi_to pc o _ = _ by rw [xi_to_eq hq, if_pos hc]; exact hK _ k)
theorem xr_ifCond_ne_n {x : Int32} {o : Int} {q2 : Nat} (hp : P.1 pc = some (.ifCond .ne o, 3)) (hc : ¬ x = 0) (hq : (pc : Int) + o = (q : Int)) (hq2 : pc + 3 = q2) (k : xi_X S P (q, L, r, m) res) : xi_X S P (pc, L, .int x :: r, m) res := by
  subst hq2
  exact xr_go hp (fun K hK => show xi_to pc o _ = _ by rw [xi_to_eq hq, if_neg hc]; exact hK _ k)
theorem xr_ifCond_lt_p {x : Int32} {o : Int} {q2 : Nat} (hp : P.1 pc = some (.ifCond .lt o, 3)) (hc : x < 0) (hq : (pc : Int) + o = (q : Int)) (hq2 : pc + 3 = q2) (k : xi_X S P (q, L, r, m) res) : xi_X S P (pc, L, .int x :: r, m) res := by
  subst hq2
  exact xr_go hp (fun K hK => show xi_to pc o _ = _ by rw [xi_to_eq hq, if_pos hc]; exact hK _ k)
theorem xr_ifCond_lt_n {x : Int32} {o : Int} {q2 : Nat} (hp : P.1 pc = some (.ifCond .lt o, 3)) (hc : ¬ x < 0) (hq : (pc : Int) + o = (q : Int)) (hq2 : pc + 3 = q2) (k : xi_X S P (q2, L, r, m) res) : xi_X S P (pc, L, .int x :: r, m) res := by
  subst hq2
  exact xr_go hp (fun K hK => show xi_to pc o _ = _ by rw [xi_to_eq hq, if_neg hc]; exact hK _ k)
theorem xr_ifCond_ge_p {x : Int32} {o : Int} {q2 : Nat} (hp : P.1 pc = some (.ifCond .ge o, 3)) (hc : 0 ≤ x) (hq : (pc : Int) + o = (q : Int)) (hq2 : pc + 3 = q2) (k : xi_X S P (q, L, r, m) res) : xi_X S P (pc, L, .int x :: r, m) res := by
  subst hq2
  exact xr_go hp (fun K hK => show xi_to pc o _ = _ by rw [xi_to_eq hq, if_pos hc]; exact hK _ k)
theorem xr_ifCond_ge_n {x : Int32} {o : Int} {q2 : Nat} (hp : P.1 pc = some (.ifCond .ge o, 3)) (hc : ¬ 0 ≤ x) (hq : (pc : Int) + o = (q : Int)) (hq2 : pc + 3 = q2) (k : xi_X S P (q2, L, r, m) res) : xi_X S P (pc, L, .int x :: r, m) res := by
  subst hq2
  exact xr_go hp (fun K hK => show xi_to pc o _ = _ by rw [xi_to_eq hq, if_neg hc]; exact hK _ k)
theorem xr_ifCond_gt_p {x : Int32} {o : Int} {q2 : Nat} (hp : P.1 pc = some (.ifCond .gt o, 3)) (hc : 0 < x) (hq : (pc : Int) + o = (q : Int)) (hq2 : pc + 3 = q2) (k : xi_X S P (q, L, r, m) res) : xi_X S P (pc, L, .int x :: r, m) res := by
  subst hq2
  exact xr_go hp (fun K hK => show xi_to pc o _ = _ by rw [xi_to_eq hq, if_pos hc]; exact hK _ k)
theorem xr_ifCond_gt_n {x : Int32} {o : Int} {q2 : Nat} (hp : P.1 pc = some (.ifCond .gt o, 3)) (hc : ¬ 0 < x) (hq : (pc : Int) + o = (q : Int)) (hq2 : pc + 3 = q2) (k : xi_X S P (q2, L, r, m) res) : xi_X S P (pc, L, .int x :: r, m) res := by
  subst hq2
  exact xr_go hp (fun K hK => show xi_to pc o _ = _ by rw [xi_to_eq hq, if_neg hc]; exact hK _ k)
theorem xr_ifCond_le_p {x : Int32} {o : Int} {q2 : Nat} (hp : P.1 pc = some (.ifCond .le o, 3)) (hc : x ≤ 0) (hq : (pc : Int) + o = (q : Int)) (hq2 : pc + 3 = q2) (k : xi_X S P (q, L, r, m) res) : xi_X S P (pc, L, .int x :: r, m) res := by
  subst hq2
  exact xr_go hp (fun K hK => show xi_to pc o _ = _ by rw [xi_to_eq hq, if_pos hc]; exact hK _ k)
theorem xr_ifCond_le_n {x : Int32} {o : Int} {q2 : Nat} (hp : P.1 pc = some (.ifCond .le o, 3)) (hc : ¬ x ≤ 0) (hq : (pc : Int) + o = (q : Int)) (hq2 : pc + 3 = q2) (k : xi_X S P (q2, L, r, m) res) : xi_X S P (pc, L, .int x :: r, m) res := by
  subst hq2
  exact xr_go hp (fun K hK => show xi_to pc o _ = _ by rw [xi_to_eq hq, if_neg hc]; exact hK _ k)
theorem xr_if_icmp_eq_p {x y : Int32} {o : Int} {q2 : Nat} (hp : P.1 pc = some (.if_icmp .eq o, 3)) (hc : x = y) (hq : (pc : Int) + o = (q : Int)) (hq2 : pc + 3 = q2) (k : xi_X S P (q, L, r, m) res) : xi_X S P (pc, L, .int y :: .int x :: r, m) res := by
  subst hq2
  exact xr_go hp (fun K hK => show xi_to pc o _ = _ by rw [xi_to_eq hq, if_pos hc]; exact hK _ k)
theorem xr_if_icmp_eq_n {x y : Int32} {o : Int} {q2 : Nat} (hp : P.1 pc = some (.if_icmp .eq o, 3)) (hc : ¬ x = y) (hq : (pc : Int) + o = (q : Int)) (hq2 : pc + 3 = q2) (k : xi_X S P (q2, L, r, m) res) : xi_X S P (pc, L, .int y :: .int x :: r, m) res := by
  subst hq2
  exact xr_go hp (fun K hK => show xi_to pc o _ = _ by rw [xi_to_eq hq, if_neg hc]; exact hK _ k)
theorem xr_if_icmp_ne_p {x y : Int32} {o : Int} {q2 : Nat} (hp : P.1 pc = some (.if_icmp .ne o, 3)) (hc : x = y) (hq : (pc : Int) + o = (q : Int)) (hq2 : pc + 3 = q2) (k : xi_X S P (q2, L, r, m) res) : xi_X S P (pc, L, .int y :: .int x :: r, m) res := by
  subst hq2
  exact xr_go hp (fun K hK => show xi_to pc o _ = _ by rw [xi_to_eq hq, if_pos hc]; exact hK _ k)
theorem xr_if_icmp_ne_n {x y : Int32} {o : Int} {q2 : Nat} (hp : P.1 pc = some (.if_icmp .ne o, 3)) (hc : ¬ x = y) (hq : (pc : Int) + o = (q : Int)) (hq2 : pc + 3 = q2) (k : xi_X S P (q, L, r, m) res) : xi_X S P (pc, L, .int y :: .int x :: r, m) res := by
  subst hq2
  exact xr_go hp (fun K hK => show xi_to pc o _ = _ by rw [xi_to_eq hq, if_neg hc]; exact hK _ k)
theorem xr_if_icmp_lt_p {x y : Int32} {o : Int} {q2 : Nat} (hp : P.1 pc = some (.if_icmp .lt o, 3)) (hc : x < y) (hq : (pc : Int) + o = (q : Int)) (hq2 : pc + 3 = q2) (k : xi_X S P (q, L, r, m) res) : xi_X S P (pc, L, .int y :: .int x :: r, m) res := by
  subst hq2
  exact xr_go hp (fun K hK => show xi_to pc o _ = _ by rw [xi_to_eq hq, if_pos hc]; exact hK _ k)
theorem xr_if_icmp_lt_n {x y : Int32} {o : Int} {q2 : Nat} (hp : P.1 pc = some (.if_icmp .lt o, 3)) (hc : ¬ x < y) (hq : (pc : Int) + o = (q : Int)) (hq2 : pc + 3 = q2) (k : xi_X S P (q2, L, r, m) res) : xi_X S P (pc, L, .int y :: .int x :: r, m) res := by
  subst hq2
  exact xr_go hp (fun K hK => show xi_to pc o _ = _ by rw [xi_to_eq hq, if_neg hc]; exact hK _ k)
theorem xr_if_icmp_ge_p {x y : Int32} {o : Int} {q2 : Nat} (hp : P.1 pc = some (.if_icmp .ge o, 3)) (hc : y ≤ x) (hq : (pc : Int) + o = (q : Int)) (hq2 : pc + 3 = q2) (k : xi_X S P (q, L, r, m) res) : xi_X S P (pc, L, .int y :: .int x :: r, m) res := by
  subst hq2
  exact xr_go hp (fun K hK => show xi_to pc o _ = _ by rw [xi_to_eq hq, if_pos hc]; exact hK _ k)
theorem xr_if_icmp_ge_n {x y : Int32} {o : Int} {q2 : Nat} (hp : P.1 pc = some (.if_icmp .ge o, 3)) (hc : ¬ y ≤ x) (hq : (pc : Int) + o = (q : Int)) (hq2 : pc + 3 = q2) (k : xi_X S P (q2, L, r, m) res) : xi_X S P (pc, L, .int y :: .int x :: r, m) res := by
  subst hq2
  exact xr_go hp (fun K hK => show xi_to pc o _ = _ by rw [xi_to_eq hq, if_neg hc]; exact hK _ k)
theorem xr_if_icmp_gt_p {x y : Int32} {o : Int} {q2 : Nat} (hp : P.1 pc = some (.if_icmp .gt o, 3)) (hc : y < x) (hq : (pc : Int) + o = (q : Int)) (hq2 : pc + 3 = q2) (k : xi_X S P (q, L, r, m) res) : xi_X S P (pc, L, .int y :: .int x :: r, m) res := by
  subst hq2
  exact xr_go hp (fun K hK => show xi_to pc o _ = _ by rw [xi_to_eq hq, if_pos hc]; exact hK _ k)
theorem xr_if_icmp_gt_n {x y : Int32} {o : Int} {q2 : Nat} (hp : P.1 pc = some (.if_icmp .gt o, 3)) (hc : ¬ y < x) (hq : (pc : Int) + o = (q : Int)) (hq2 : pc + 3 = q2) (k : xi_X S P (q2, L, r, m) res) : xi_X S P (pc, L, .int y :: .int x :: r, m) res := by
  subst hq2
  exact xr_go hp (fun K hK => show xi_to pc o _ = _ by rw [xi_to_eq hq, if_neg hc]; exact hK _ k)
theorem xr_if_icmp_le_p {x y : Int32} {o : Int} {q2 : Nat} (hp : P.1 pc = some (.if_icmp .le o, 3)) (hc : x ≤ y) (hq : (pc : Int) + o = (q : Int)) (hq2 : pc + 3 = q2) (k : xi_X S P (q, L, r, m) res) : xi_X S P (pc, L, .int y :: .int x :: r, m) res := by
  subst hq2
  exact xr_go hp (fun K hK => show xi_to pc o _ = _ by rw [xi_to_eq hq, if_pos hc]; exact hK _ k)
theorem xr_if_icmp_le_n {x y : Int32} {o : Int} {q2 : Nat} (hp : P.1 pc = some (.if_icmp .le o, 3)) (hc : ¬ x ≤ y) (hq : (pc : Int) + o = (q : Int)) (hq2 : pc + 3 = q2) (k : xi_X S P (q2, L, r, m) res) : xi_X S P (pc, L, .int y :: .int x :: r, m) res := by
  subst hq2
  exact xr_go hp (fun K hK => show xi_to pc o _ = _ by rw [xi_to_eq hq, if_neg hc]; exact hK _ k)
theorem xi_sw_hit {kk : Int → Option xi_R} {x : Int32} {d lo o : Int} {os : List Int} (h : x.toInt = lo) : xi_sw kk x d lo (o :: os) = kk o := by
  unfold xi_sw
  rw [if_pos h]
theorem xi_sw_miss {kk : Int → Option xi_R} {x : Int32} {d lo o : Int} {os : List Int} (h : ¬ x.toInt = lo) : xi_sw kk x d lo (o :: os) = xi_sw kk x d (lo + 1) os := by
  rw [xi_sw, if_neg h]
theorem xi_lk_hit {kk : Int → Option xi_R} {x : Int32} {d a o : Int} {os : List (Int × Int)} (h : a = x.toInt) : xi_lk kk x d ((a, o) :: os) = kk o := by
  unfold xi_lk
  rw [if_pos h]
theorem xi_lk_miss {kk : Int → Option xi_R} {x : Int32} {d a o : Int} {os : List (Int × Int)} (h : ¬ a = x.toInt) : xi_lk kk x d ((a, o) :: os) = xi_lk kk x d os := by
  rw [xi_lk, if_neg h]
theorem xr_table {x : Int32} {d lo hi off : Int} {os : Array Int} {n : Nat} (hp : P.1 pc = some (.tableswitch d lo hi os, n)) (hb : decide (hi - lo + 1 = (os.toList.length : Int)) = true) (hs : ∀ kk : Int → Option xi_R, xi_sw kk x d lo os.toList = kk off) (hq : (pc : Int) + off = (q : Int)) (k : xi_X S P (q, L, r, m) res) : xi_X S P (pc, L, .int x :: r, m) res :=
  xr_go hp (fun K hK => show (bif decide (hi - lo + 1 = (os.toList.length : Int)) then xi_sw _ x d lo os.toList else none) = _ by rw [hb]; show xi_sw _ x d lo os.toList = _; rw [hs, xi_to_eq hq]; exact hK _ k)
theorem xr_lookup {x : Int32} {d off : Int} {ps : Array (Int × Int)} {n : Nat} (hp : P.1 pc = some (.lookupswitch d ps, n)) (hb : (ps.toList.zip (ps.toList.drop 1)).all (fun (a, next) => a.1 < next.1) = true) (hs : ∀ kk : Int → Option xi_R, xi_lk kk x d ps.toList = kk off) (hq : (pc : Int) + off = (q : Int)) (k : xi_X S P (q, L, r, m) res) : xi_X S P (pc, L, .int x :: r, m) res :=
  xr_go hp (fun K hK => show (bif (ps.toList.zip (ps.toList.drop 1)).all (fun (a, next) => a.1 < next.1) then xi_lk _ x d ps.toList else none) = _ by rw [hb]; show xi_lk _ x d ps.toList = _; rw [hs, xi_to_eq hq]; exact hK _ k)
theorem xr_getI {x a ci j : Nat} (hp : P.1 pc = some (.getfield x, 3)) (hf : P.2.1 x = some (ci, j, 0)) (hk : S.1 a = ci + 3) (hq : pc + 3 = q) (k : xi_X S P (q, L, .int (m.1 a j) :: r, m) res) : xi_X S P (pc, L, .ref a :: r, m) res := by
  subst hq
  exact xr_go hp (fun K hK => show (P.2.1 x).bind _ = _ by rw [hf]; show (if S.1 a = ci + 3 then K _ else none) = _; rw [if_pos hk]; exact hK _ k)
theorem xr_getZ {x a ci j : Nat} (hp : P.1 pc = some (.getfield x, 3)) (hf : P.2.1 x = some (ci, j, 1)) (hk : S.1 a = ci + 3) (hq : pc + 3 = q) (k : xi_X S P (q, L, .int (m.1 a j) :: r, m) res) : xi_X S P (pc, L, .ref a :: r, m) res := by
  subst hq
  exact xr_go hp (fun K hK => show (P.2.1 x).bind _ = _ by rw [hf]; show (if S.1 a = ci + 3 then K _ else none) = _; rw [if_pos hk]; exact hK _ k)
theorem xr_getJ {x a ci j : Nat} (hp : P.1 pc = some (.getfield x, 3)) (hf : P.2.1 x = some (ci, j, 2)) (hk : S.1 a = ci + 3) (hq : pc + 3 = q) (k : xi_X S P (q, L, .long (m.2 a j) :: r, m) res) : xi_X S P (pc, L, .ref a :: r, m) res := by
  subst hq
  exact xr_go hp (fun K hK => show (P.2.1 x).bind _ = _ by rw [hf]; show (if S.1 a = ci + 3 then K _ else none) = _; rw [if_pos hk]; exact hK _ k)
theorem xr_getR {x a b ci j : Nat} (hp : P.1 pc = some (.getfield x, 3)) (hf : P.2.1 x = some (ci, j, 3)) (hk : S.1 a = ci + 3) (hb : S.2.2 a j = some b) (hq : pc + 3 = q) (k : xi_X S P (q, L, .ref b :: r, m) res) : xi_X S P (pc, L, .ref a :: r, m) res := by
  subst hq
  exact xr_go hp (fun K hK => show (P.2.1 x).bind _ = _ by rw [hf]; show (if S.1 a = ci + 3 then (S.2.2 a j).bind _ else none) = _; rw [if_pos hk, hb]; exact hK _ k)
theorem xr_putI {x a ci j : Nat} {v : Int32} (hp : P.1 pc = some (.putfield x, 3)) (hf : P.2.1 x = some (ci, j, 0)) (hk : S.1 a = ci + 3) (hq : pc + 3 = q) (k : xi_X S P (q, L, r, xi_wI m a j v) res) : xi_X S P (pc, L, .int v :: .ref a :: r, m) res := by
  subst hq
  exact xr_go hp (fun K hK => show (P.2.1 x).bind _ = _ by rw [hf]; show (if S.1 a = ci + 3 then K _ else none) = _; rw [if_pos hk]; exact hK _ k)
theorem xr_putZ {x a ci j : Nat} {v : Int32} (hp : P.1 pc = some (.putfield x, 3)) (hf : P.2.1 x = some (ci, j, 1)) (hk : S.1 a = ci + 3 ∧ (v = 0 ∨ v = 1)) (hq : pc + 3 = q) (k : xi_X S P (q, L, r, xi_wI m a j v) res) : xi_X S P (pc, L, .int v :: .ref a :: r, m) res := by
  subst hq
  exact xr_go hp (fun K hK => show (P.2.1 x).bind _ = _ by rw [hf]; show (if S.1 a = ci + 3 ∧ (v = 0 ∨ v = 1) then K _ else none) = _; rw [if_pos hk]; exact hK _ k)
theorem xr_putJ {x a ci j : Nat} {v : Int64} (hp : P.1 pc = some (.putfield x, 3)) (hf : P.2.1 x = some (ci, j, 2)) (hk : S.1 a = ci + 3) (hq : pc + 3 = q) (k : xi_X S P (q, L, r, xi_wJ m a j v) res) : xi_X S P (pc, L, .long v :: .ref a :: r, m) res := by
  subst hq
  exact xr_go hp (fun K hK => show (P.2.1 x).bind _ = _ by rw [hf]; show (if S.1 a = ci + 3 then K _ else none) = _; rw [if_pos hk]; exact hK _ k)
theorem xr_iaload {a : Nat} {i : Int32} (hp : P.1 pc = some (.iaload, 1)) (hk : S.1 a = 0 ∧ ¬ (i < 0 ∨ S.2.1 a ≤ i.toNatClampNeg)) (hq : pc + 1 = q) (k : xi_X S P (q, L, .int (m.1 a i.toNatClampNeg) :: r, m) res) : xi_X S P (pc, L, .int i :: .ref a :: r, m) res := by
  subst hq
  exact xr_go hp (fun K hK => show (if S.1 a = 0 ∧ ¬ (i < 0 ∨ S.2.1 a ≤ i.toNatClampNeg) then K _ else none) = _ by rw [if_pos hk]; exact hK _ k)
theorem xr_iastore {a : Nat} {i v : Int32} (hp : P.1 pc = some (.iastore, 1)) (hk : S.1 a = 0 ∧ ¬ (i < 0 ∨ S.2.1 a ≤ i.toNatClampNeg)) (hq : pc + 1 = q) (k : xi_X S P (q, L, r, xi_wI m a i.toNatClampNeg v) res) : xi_X S P (pc, L, .int v :: .int i :: .ref a :: r, m) res := by
  subst hq
  exact xr_go hp (fun K hK => show (if S.1 a = 0 ∧ ¬ (i < 0 ∨ S.2.1 a ≤ i.toNatClampNeg) then K _ else none) = _ by rw [if_pos hk]; exact hK _ k)
theorem xr_aaload {a b : Nat} {i : Int32} (hp : P.1 pc = some (.aaload, 1)) (hk : (S.1 a = 1 ∨ S.1 a = 2) ∧ ¬ (i < 0 ∨ S.2.1 a ≤ i.toNatClampNeg)) (hb : S.2.2 a i.toNatClampNeg = some b) (hq : pc + 1 = q) (k : xi_X S P (q, L, .ref b :: r, m) res) : xi_X S P (pc, L, .int i :: .ref a :: r, m) res := by
  subst hq
  exact xr_go hp (fun K hK => show (if (S.1 a = 1 ∨ S.1 a = 2) ∧ ¬ (i < 0 ∨ S.2.1 a ≤ i.toNatClampNeg) then (S.2.2 a i.toNatClampNeg).bind _ else none) = _ by rw [if_pos hk, hb]; exact hK _ k)
theorem xr_alen {a : Nat} (hp : P.1 pc = some (.arraylength, 1)) (hk : S.1 a = 0 ∨ S.1 a = 1 ∨ S.1 a = 2) (hq : pc + 1 = q) (k : xi_X S P (q, L, .int (Int32.ofNat (S.2.1 a)) :: r, m) res) : xi_X S P (pc, L, .ref a :: r, m) res := by
  subst hq
  exact xr_go hp (fun K hK => show (if S.1 a = 0 ∨ S.1 a = 1 ∨ S.1 a = 2 then K _ else none) = _ by rw [if_pos hk]; exact hK _ k)
theorem xr_SV {st As rest : List Value} {x n : Nat} {m2 : xi_M}  (hp : P.1 pc = some (.invokestatic x, 3)) (hn : P.2.2.2.2.1 x = some (n, 0)) (hb : (Nat.ble n st.length && Nat.ble (xi_cs (st.drop n)) 8) = true) (hA : (st.take n).reverse = As) (hR : st.drop n = rest) (hc : P.2.2.2.2.2.2.1 x As m = some (none, m2)) (hq : pc + 3 = q) (k : xi_X S P (q, L, rest, m2) res) : xi_X S P (pc, L, st, m) res := by
  subst hq hA hR
  exact xr_go hp (fun K hK => show (P.2.2.2.2.1 x).bind _ = _ by rw [hn]; show (bif Nat.ble n st.length && Nat.ble (xi_cs (st.drop n)) 8 then xi_an 0 (P.2.2.2.2.2.2.1 x (st.take n).reverse m) (st.drop n) _ else none) = _; rw [hb, hc]; exact hK _ k)
theorem xr_SI {st As rest : List Value} {x n : Nat} {m2 : xi_M} {v : Int32} (hp : P.1 pc = some (.invokestatic x, 3)) (hn : P.2.2.2.2.1 x = some (n, 1)) (hb : (Nat.ble n st.length && Nat.ble (xi_cs (st.drop n)) 8) = true) (hA : (st.take n).reverse = As) (hR : st.drop n = rest) (hc : P.2.2.2.2.2.2.1 x As m = some (some (.int v), m2)) (hq : pc + 3 = q) (k : xi_X S P (q, L, .int v :: rest, m2) res) : xi_X S P (pc, L, st, m) res := by
  subst hq hA hR
  exact xr_go hp (fun K hK => show (P.2.2.2.2.1 x).bind _ = _ by rw [hn]; show (bif Nat.ble n st.length && Nat.ble (xi_cs (st.drop n)) 8 then xi_an 1 (P.2.2.2.2.2.2.1 x (st.take n).reverse m) (st.drop n) _ else none) = _; rw [hb, hc]; exact hK _ k)
theorem xr_SJ {st As rest : List Value} {x n : Nat} {m2 : xi_M} {v : Int64} (hp : P.1 pc = some (.invokestatic x, 3)) (hn : P.2.2.2.2.1 x = some (n, 2)) (hb : (Nat.ble n st.length && Nat.ble (xi_cs (st.drop n)) 8) = true) (hA : (st.take n).reverse = As) (hR : st.drop n = rest) (hc : P.2.2.2.2.2.2.1 x As m = some (some (.long v), m2)) (hq : pc + 3 = q) (k : xi_X S P (q, L, .long v :: rest, m2) res) : xi_X S P (pc, L, st, m) res := by
  subst hq hA hR
  exact xr_go hp (fun K hK => show (P.2.2.2.2.1 x).bind _ = _ by rw [hn]; show (bif Nat.ble n st.length && Nat.ble (xi_cs (st.drop n)) 8 then xi_an 2 (P.2.2.2.2.2.2.1 x (st.take n).reverse m) (st.drop n) _ else none) = _; rw [hb, hc]; exact hK _ k)
theorem xr_VV {st As rest : List Value} {x n : Nat} {m2 : xi_M}  (hp : P.1 pc = some (.invokevirtual x, 3)) (hn : P.2.2.2.2.2.1 x = some (n, 0)) (hb : (Nat.ble n st.length && Nat.ble (xi_cs (st.drop n)) 8) = true) (hA : (st.take n).reverse = As) (hR : st.drop n = rest) (hc : P.2.2.2.2.2.2.2.1 x As m = some (none, m2)) (hq : pc + 3 = q) (k : xi_X S P (q, L, rest, m2) res) : xi_X S P (pc, L, st, m) res := by
  subst hq hA hR
  exact xr_go hp (fun K hK => show (P.2.2.2.2.2.1 x).bind _ = _ by rw [hn]; show (bif Nat.ble n st.length && Nat.ble (xi_cs (st.drop n)) 8 then xi_an 0 (P.2.2.2.2.2.2.2.1 x (st.take n).reverse m) (st.drop n) _ else none) = _; rw [hb, hc]; exact hK _ k)
theorem xr_VI {st As rest : List Value} {x n : Nat} {m2 : xi_M} {v : Int32} (hp : P.1 pc = some (.invokevirtual x, 3)) (hn : P.2.2.2.2.2.1 x = some (n, 1)) (hb : (Nat.ble n st.length && Nat.ble (xi_cs (st.drop n)) 8) = true) (hA : (st.take n).reverse = As) (hR : st.drop n = rest) (hc : P.2.2.2.2.2.2.2.1 x As m = some (some (.int v), m2)) (hq : pc + 3 = q) (k : xi_X S P (q, L, .int v :: rest, m2) res) : xi_X S P (pc, L, st, m) res := by
  subst hq hA hR
  exact xr_go hp (fun K hK => show (P.2.2.2.2.2.1 x).bind _ = _ by rw [hn]; show (bif Nat.ble n st.length && Nat.ble (xi_cs (st.drop n)) 8 then xi_an 1 (P.2.2.2.2.2.2.2.1 x (st.take n).reverse m) (st.drop n) _ else none) = _; rw [hb, hc]; exact hK _ k)
theorem xr_VJ {st As rest : List Value} {x n : Nat} {m2 : xi_M} {v : Int64} (hp : P.1 pc = some (.invokevirtual x, 3)) (hn : P.2.2.2.2.2.1 x = some (n, 2)) (hb : (Nat.ble n st.length && Nat.ble (xi_cs (st.drop n)) 8) = true) (hA : (st.take n).reverse = As) (hR : st.drop n = rest) (hc : P.2.2.2.2.2.2.2.1 x As m = some (some (.long v), m2)) (hq : pc + 3 = q) (k : xi_X S P (q, L, .long v :: rest, m2) res) : xi_X S P (pc, L, st, m) res := by
  subst hq hA hR
  exact xr_go hp (fun K hK => show (P.2.2.2.2.2.1 x).bind _ = _ by rw [hn]; show (bif Nat.ble n st.length && Nat.ble (xi_cs (st.drop n)) 8 then xi_an 2 (P.2.2.2.2.2.2.2.1 x (st.take n).reverse m) (st.drop n) _ else none) = _; rw [hb, hc]; exact hK _ k)
theorem xr_ireturn {v : Int32} (hp : P.1 pc = some (.ireturn, 1)) (hr : P.2.2.2.2.2.2.2.2 = 1) (h : some (some (.int v), m) = some res) : xi_X S P (pc, L, [.int v], m) res :=
  xr_go hp (fun K hK => by unfold xi_op; dsimp only; rw [hr]; exact h)
theorem xr_zreturn {v : Int32} (hp : P.1 pc = some (.ireturn, 1)) (hr : P.2.2.2.2.2.2.2.2 = 2) (h : (if v = 0 ∨ v = 1 then some (some (.int v), m) else none) = some res) : xi_X S P (pc, L, [.int v], m) res :=
  xr_go hp (fun K hK => by unfold xi_op; dsimp only; rw [hr]; exact h)
theorem xr_lreturn {v : Int64} (hp : P.1 pc = some (.lreturn, 1)) (hr : P.2.2.2.2.2.2.2.2 = 3) (h : some (some (.long v), m) = some res) : xi_X S P (pc, L, [.long v], m) res :=
  xr_go hp (fun K hK => by unfold xi_op; dsimp only; rw [hr]; exact h)
theorem xr_return (hp : P.1 pc = some (.return_, 1)) (hr : P.2.2.2.2.2.2.2.2 = 0) (h : some (none, m) = some res) : xi_X S P (pc, L, [], m) res :=
  xr_go hp (fun K hK => by unfold xi_op; dsimp only; rw [hr]; exact h)
end XR
theorem xi_calls_ok {l : Launch} {E : xi_E} {S : xi_S} {D : va_G} {tys : List (ClassId × FieldType)} {own : String} {cc : ByteArray} {nL d : Nat} {l0 : List (Nat × xi_F)} {ins : Nat → Instr} (h : ∀ q ∈ l0, ∀ As m1 r m2, q.2 As m1 = some (r, m2) → xi_Cal l E S D vwCl tys xNs own xTs cc nL d (ins q.1) As m1 r m2) : ∀ x As m1 r m2, xi_calls l0 x As m1 = some (r, m2) → xi_Cal l E S D vwCl tys xNs own xTs cc nL d (ins x) As m1 r m2 := fun x As m1 r m2 hc => by
  obtain ⟨f, h1, h2⟩ := xi_calls_mem hc
  exact h (x, f) h1 As m1 r m2 h2
theorem xi_calls_hit {q : Nat × xi_F} {t : List (Nat × xi_F)} {x : Nat} {As : List Value} {m : xi_M} (h : Nat.beq q.1 x = true) : xi_calls (q :: t) x As m = q.2 As m := by
  rw [xi_calls, h]
  rfl
theorem xi_calls_miss {q : Nat × xi_F} {t : List (Nat × xi_F)} {x : Nat} {As : List Value} {m : xi_M} (h : Nat.beq q.1 x = false) : xi_calls (q :: t) x As m = xi_calls t x As m := by
  rw [xi_calls, h]
  rfl
theorem xi_wS_eq {n : Nat} {f : xi_F} {As : List Value} {m : xi_M} (h : Nat.beq As.length n = true) : xi_wS n f As m = f As m := by
  rw [xi_wS, h]
  rfl
theorem xi_wV_eq {S : xi_S} {k n b : Nat} {f : xi_F} {t : List Value} {m : xi_M} (h : Nat.beq t.length n = true) : xi_wV S k n f (.ref b :: t) m = if S.1 b = k then f (.ref b :: t) m else none := by
  show (bif Nat.beq t.length n then (if S.1 b = k then f (.ref b :: t) m else none) else none) = _
  rw [h]
  rfl
def xCx (E : xi_E) (S : xi_S) (tys : List (ClassId × FieldType)) : Prop := xi_Eok E S vwCl tys ∧ E.2.2.1 = xft
def F_arraycopy (S : xi_S) : xi_F := fun As m => match As with
  | [.ref a, .int sp, .ref b, .int dp, .int n] => if S.1 a = 0 ∧ S.1 b = 0 ∧ ¬ sp < 0 ∧ ¬ dp < 0 ∧ ¬ n < 0 ∧ sp.toNatClampNeg + n.toNatClampNeg ≤ S.2.1 a ∧ dp.toNatClampNeg + n.toNatClampNeg ≤ S.2.1 b then some (none, (fun c => if c = b then va_cpy (m.1 a) (m.1 b) sp.toNatClampNeg dp.toNatClampNeg n.toNatClampNeg else m.1 c, m.2)) else none
  | _ => none
theorem xc_X8_99 {l : Launch} {E : xi_E} {S : xi_S} {D : va_G} {tys : List (ClassId × FieldType)} {cc : ByteArray} {nL d : Nat} (hE : xi_Eok E S vwCl tys) (hd : 1 ≤ d) : ∀ As m1 r m2, xi_wS 5 (F_arraycopy S) As m1 = some (r, m2) → xi_Cal l E S D vwCl tys xNs RX8 xTs cc nL d (.invokestatic 99) As m1 r m2 := fun As m1 r m2 h => by
  obtain ⟨hl, h⟩ := xi_wS_some h
  unfold F_arraycopy at h
  split at h
  · obtain ⟨⟨h1, h2, h3, h4, h5, h6, h7⟩, h⟩ := xi_if_some h
    cases h
    exact xi_callA hE h1 h2 h3 h4 h5 h6 h7 (xw_in 331 (by decide +kernel) rfl) (xw_in 333 (by decide +kernel) rfl) (xw_in 332 (by decide +kernel) rfl) (xw_in 62 (by decide +kernel) rfl) hd
  · cases h
theorem xc_X6_61 {l : Launch} {E : xi_E} {S : xi_S} {D : va_G} {tys : List (ClassId × FieldType)} {cc : ByteArray} {nL d : Nat} (hE : xi_Eok E S vwCl tys) (hd : 1 ≤ d) : ∀ As m1 r m2, xi_wS 5 (F_arraycopy S) As m1 = some (r, m2) → xi_Cal l E S D vwCl tys xNs RX6 xTs cc nL d (.invokestatic 61) As m1 r m2 := fun As m1 r m2 h => by
  obtain ⟨hl, h⟩ := xi_wS_some h
  unfold F_arraycopy at h
  split at h
  · obtain ⟨⟨h1, h2, h3, h4, h5, h6, h7⟩, h⟩ := xi_if_some h
    cases h
    exact xi_callA hE h1 h2 h3 h4 h5 h6 h7 (xw_in 418 (by decide +kernel) rfl) (xw_in 333 (by decide +kernel) rfl) (xw_in 332 (by decide +kernel) rfl) (xw_in 62 (by decide +kernel) rfl) hd
  · cases h
theorem xc_X2_18 {l : Launch} {E : xi_E} {S : xi_S} {D : va_G} {tys : List (ClassId × FieldType)} {cc : ByteArray} {nL d : Nat} (hE : xi_Eok E S vwCl tys) (hd : 1 ≤ d) : ∀ As m1 r m2, xi_wS 5 (F_arraycopy S) As m1 = some (r, m2) → xi_Cal l E S D vwCl tys xNs RX2 xTs cc nL d (.invokestatic 18) As m1 r m2 := fun As m1 r m2 h => by
  obtain ⟨hl, h⟩ := xi_wS_some h
  unfold F_arraycopy at h
  split at h
  · obtain ⟨⟨h1, h2, h3, h4, h5, h6, h7⟩, h⟩ := xi_if_some h
    cases h
    exact xi_callA hE h1 h2 h3 h4 h5 h6 h7 (xw_in 739 (by decide +kernel) rfl) (xw_in 333 (by decide +kernel) rfl) (xw_in 332 (by decide +kernel) rfl) (xw_in 62 (by decide +kernel) rfl) hd
  · cases h
def E_J9_abs_0f7a4 (_ : xi_S) (v0 : Int32) (m : xi_M) : Option xi_R := some (some (.int (if 0 ≤ v0 then v0 else 0 - v0)), m)
def F_J9_abs_0f7a4 (S : xi_S) : xi_F := fun As m => match As with
  | [.int v0] => E_J9_abs_0f7a4 S v0 m
  | _ => none
theorem xm_X8_154 {l : Launch} {E : xi_E} {S : xi_S} {D : va_G} {tys : List (ClassId × FieldType)} {cc : ByteArray} {nL d : Nat} (hd : 1 ≤ d) : ∀ As m1 r m2, xi_wS 1 (F_J9_abs_0f7a4 S) As m1 = some (r, m2) → xi_Cal l E S D vwCl tys xNs RX8 xTs cc nL d (.invokestatic 154) As m1 r m2 := fun As m1 r m2 h => by
  obtain ⟨hl, h⟩ := xi_wS_some h
  unfold F_J9_abs_0f7a4 at h
  split at h
  · unfold E_J9_abs_0f7a4 at h
    cases h
    intro p e R s m args below meth c H locs Q pc ls rest hF hK hd1 hd2 hls hcs hdg hP hS kk
    obtain ⟨hx, hb, hml, hown, ht⟩ := hF
    unfold xi_cs at hcs
    exact va_mabs (rest := rest) hx hb (hml.trans hls.symm) hown (ht _ (xw_in 483 (by decide +kernel) rfl)) (ht _ (xw_in 484 (by decide +kernel) rfl)) (ht _ (xw_in 65 (by decide +kernel) rfl)) (ht _ (xw_in 485 (by decide +kernel) rfl)) (by omega) (by omega) (Nat.zero_le _) (Nat.zero_le _) hdg (kk H locs hP hS)
  · cases h
theorem xm_X6_119 {l : Launch} {E : xi_E} {S : xi_S} {D : va_G} {tys : List (ClassId × FieldType)} {cc : ByteArray} {nL d : Nat} (hd : 1 ≤ d) : ∀ As m1 r m2, xi_wS 1 (F_J9_abs_0f7a4 S) As m1 = some (r, m2) → xi_Cal l E S D vwCl tys xNs RX6 xTs cc nL d (.invokestatic 119) As m1 r m2 := fun As m1 r m2 h => by
  obtain ⟨hl, h⟩ := xi_wS_some h
  unfold F_J9_abs_0f7a4 at h
  split at h
  · unfold E_J9_abs_0f7a4 at h
    cases h
    intro p e R s m args below meth c H locs Q pc ls rest hF hK hd1 hd2 hls hcs hdg hP hS kk
    obtain ⟨hx, hb, hml, hown, ht⟩ := hF
    unfold xi_cs at hcs
    exact va_mabs (rest := rest) hx hb (hml.trans hls.symm) hown (ht _ (xw_in 538 (by decide +kernel) rfl)) (ht _ (xw_in 484 (by decide +kernel) rfl)) (ht _ (xw_in 65 (by decide +kernel) rfl)) (ht _ (xw_in 485 (by decide +kernel) rfl)) (by omega) (by omega) (Nat.zero_le _) (Nat.zero_le _) hdg (kk H locs hP hS)
  · cases h
theorem xm_X0_40 {l : Launch} {E : xi_E} {S : xi_S} {D : va_G} {tys : List (ClassId × FieldType)} {cc : ByteArray} {nL d : Nat} (hd : 1 ≤ d) : ∀ As m1 r m2, xi_wS 1 (F_J9_abs_0f7a4 S) As m1 = some (r, m2) → xi_Cal l E S D vwCl tys xNs RX0 xTs cc nL d (.invokestatic 40) As m1 r m2 := fun As m1 r m2 h => by
  obtain ⟨hl, h⟩ := xi_wS_some h
  unfold F_J9_abs_0f7a4 at h
  split at h
  · unfold E_J9_abs_0f7a4 at h
    cases h
    intro p e R s m args below meth c H locs Q pc ls rest hF hK hd1 hd2 hls hcs hdg hP hS kk
    obtain ⟨hx, hb, hml, hown, ht⟩ := hF
    unfold xi_cs at hcs
    exact va_mabs (rest := rest) hx hb (hml.trans hls.symm) hown (ht _ (xw_in 641 (by decide +kernel) rfl)) (ht _ (xw_in 484 (by decide +kernel) rfl)) (ht _ (xw_in 65 (by decide +kernel) rfl)) (ht _ (xw_in 485 (by decide +kernel) rfl)) (by omega) (by omega) (Nat.zero_le _) (Nat.zero_le _) hdg (kk H locs hP hS)
  · cases h
def E_J9_max_7cf53 (_ : xi_S) (v0 v1 : Int32) (m : xi_M) : Option xi_R := some (some (.int (if v0 < v1 then v1 else v0)), m)
def F_J9_max_7cf53 (S : xi_S) : xi_F := fun As m => match As with
  | [.int v0, .int v1] => E_J9_max_7cf53 S v0 v1 m
  | _ => none
theorem xm_X4_21 {l : Launch} {E : xi_E} {S : xi_S} {D : va_G} {tys : List (ClassId × FieldType)} {cc : ByteArray} {nL d : Nat} (hd : 1 ≤ d) : ∀ As m1 r m2, xi_wS 2 (F_J9_max_7cf53 S) As m1 = some (r, m2) → xi_Cal l E S D vwCl tys xNs RX4 xTs cc nL d (.invokestatic 21) As m1 r m2 := fun As m1 r m2 h => by
  obtain ⟨hl, h⟩ := xi_wS_some h
  unfold F_J9_max_7cf53 at h
  split at h
  · unfold E_J9_max_7cf53 at h
    cases h
    intro p e R s m args below meth c H locs Q pc ls rest hF hK hd1 hd2 hls hcs hdg hP hS kk
    obtain ⟨hx, hb, hml, hown, ht⟩ := hF
    unfold xi_cs at hcs
    exact va_mmax (rest := rest) hx hb (hml.trans hls.symm) hown (ht _ (xw_in 445 (by decide +kernel) rfl)) (ht _ (xw_in 446 (by decide +kernel) rfl)) (ht _ (xw_in 65 (by decide +kernel) rfl)) (ht _ (xw_in 447 (by decide +kernel) rfl)) (by omega) (by omega) (Nat.zero_le _) (Nat.zero_le _) hdg (kk H locs hP hS)
  · cases h
theorem xm_X6_85 {l : Launch} {E : xi_E} {S : xi_S} {D : va_G} {tys : List (ClassId × FieldType)} {cc : ByteArray} {nL d : Nat} (hd : 1 ≤ d) : ∀ As m1 r m2, xi_wS 2 (F_J9_max_7cf53 S) As m1 = some (r, m2) → xi_Cal l E S D vwCl tys xNs RX6 xTs cc nL d (.invokestatic 85) As m1 r m2 := fun As m1 r m2 h => by
  obtain ⟨hl, h⟩ := xi_wS_some h
  unfold F_J9_max_7cf53 at h
  split at h
  · unfold E_J9_max_7cf53 at h
    cases h
    intro p e R s m args below meth c H locs Q pc ls rest hF hK hd1 hd2 hls hcs hdg hP hS kk
    obtain ⟨hx, hb, hml, hown, ht⟩ := hF
    unfold xi_cs at hcs
    exact va_mmax (rest := rest) hx hb (hml.trans hls.symm) hown (ht _ (xw_in 475 (by decide +kernel) rfl)) (ht _ (xw_in 446 (by decide +kernel) rfl)) (ht _ (xw_in 65 (by decide +kernel) rfl)) (ht _ (xw_in 447 (by decide +kernel) rfl)) (by omega) (by omega) (Nat.zero_le _) (Nat.zero_le _) hdg (kk H locs hP hS)
  · cases h
theorem xm_X3_57 {l : Launch} {E : xi_E} {S : xi_S} {D : va_G} {tys : List (ClassId × FieldType)} {cc : ByteArray} {nL d : Nat} (hd : 1 ≤ d) : ∀ As m1 r m2, xi_wS 2 (F_J9_max_7cf53 S) As m1 = some (r, m2) → xi_Cal l E S D vwCl tys xNs RX3 xTs cc nL d (.invokestatic 57) As m1 r m2 := fun As m1 r m2 h => by
  obtain ⟨hl, h⟩ := xi_wS_some h
  unfold F_J9_max_7cf53 at h
  split at h
  · unfold E_J9_max_7cf53 at h
    cases h
    intro p e R s m args below meth c H locs Q pc ls rest hF hK hd1 hd2 hls hcs hdg hP hS kk
    obtain ⟨hx, hb, hml, hown, ht⟩ := hF
    unfold xi_cs at hcs
    exact va_mmax (rest := rest) hx hb (hml.trans hls.symm) hown (ht _ (xw_in 701 (by decide +kernel) rfl)) (ht _ (xw_in 446 (by decide +kernel) rfl)) (ht _ (xw_in 65 (by decide +kernel) rfl)) (ht _ (xw_in 447 (by decide +kernel) rfl)) (by omega) (by omega) (Nat.zero_le _) (Nat.zero_le _) hdg (kk H locs hP hS)
  · cases h
theorem xm_X2_44 {l : Launch} {E : xi_E} {S : xi_S} {D : va_G} {tys : List (ClassId × FieldType)} {cc : ByteArray} {nL d : Nat} (hd : 1 ≤ d) : ∀ As m1 r m2, xi_wS 2 (F_J9_max_7cf53 S) As m1 = some (r, m2) → xi_Cal l E S D vwCl tys xNs RX2 xTs cc nL d (.invokestatic 44) As m1 r m2 := fun As m1 r m2 h => by
  obtain ⟨hl, h⟩ := xi_wS_some h
  unfold F_J9_max_7cf53 at h
  split at h
  · unfold E_J9_max_7cf53 at h
    cases h
    intro p e R s m args below meth c H locs Q pc ls rest hF hK hd1 hd2 hls hcs hdg hP hS kk
    obtain ⟨hx, hb, hml, hown, ht⟩ := hF
    unfold xi_cs at hcs
    exact va_mmax (rest := rest) hx hb (hml.trans hls.symm) hown (ht _ (xw_in 746 (by decide +kernel) rfl)) (ht _ (xw_in 446 (by decide +kernel) rfl)) (ht _ (xw_in 65 (by decide +kernel) rfl)) (ht _ (xw_in 447 (by decide +kernel) rfl)) (by omega) (by omega) (Nat.zero_le _) (Nat.zero_le _) hdg (kk H locs hP hS)
  · cases h
def E_J9_min_7cf53 (_ : xi_S) (v0 v1 : Int32) (m : xi_M) : Option xi_R := some (some (.int (if v1 < v0 then v1 else v0)), m)
def F_J9_min_7cf53 (S : xi_S) : xi_F := fun As m => match As with
  | [.int v0, .int v1] => E_J9_min_7cf53 S v0 v1 m
  | _ => none
theorem xm_X4_15 {l : Launch} {E : xi_E} {S : xi_S} {D : va_G} {tys : List (ClassId × FieldType)} {cc : ByteArray} {nL d : Nat} (hd : 1 ≤ d) : ∀ As m1 r m2, xi_wS 2 (F_J9_min_7cf53 S) As m1 = some (r, m2) → xi_Cal l E S D vwCl tys xNs RX4 xTs cc nL d (.invokestatic 15) As m1 r m2 := fun As m1 r m2 h => by
  obtain ⟨hl, h⟩ := xi_wS_some h
  unfold F_J9_min_7cf53 at h
  split at h
  · unfold E_J9_min_7cf53 at h
    cases h
    intro p e R s m args below meth c H locs Q pc ls rest hF hK hd1 hd2 hls hcs hdg hP hS kk
    obtain ⟨hx, hb, hml, hown, ht⟩ := hF
    unfold xi_cs at hcs
    exact va_mmin (rest := rest) hx hb (hml.trans hls.symm) hown (ht _ (xw_in 442 (by decide +kernel) rfl)) (ht _ (xw_in 443 (by decide +kernel) rfl)) (ht _ (xw_in 65 (by decide +kernel) rfl)) (ht _ (xw_in 444 (by decide +kernel) rfl)) (by omega) (by omega) (Nat.zero_le _) (Nat.zero_le _) hdg (kk H locs hP hS)
  · cases h
theorem xm_X6_76 {l : Launch} {E : xi_E} {S : xi_S} {D : va_G} {tys : List (ClassId × FieldType)} {cc : ByteArray} {nL d : Nat} (hd : 1 ≤ d) : ∀ As m1 r m2, xi_wS 2 (F_J9_min_7cf53 S) As m1 = some (r, m2) → xi_Cal l E S D vwCl tys xNs RX6 xTs cc nL d (.invokestatic 76) As m1 r m2 := fun As m1 r m2 h => by
  obtain ⟨hl, h⟩ := xi_wS_some h
  unfold F_J9_min_7cf53 at h
  split at h
  · unfold E_J9_min_7cf53 at h
    cases h
    intro p e R s m args below meth c H locs Q pc ls rest hF hK hd1 hd2 hls hcs hdg hP hS kk
    obtain ⟨hx, hb, hml, hown, ht⟩ := hF
    unfold xi_cs at hcs
    exact va_mmin (rest := rest) hx hb (hml.trans hls.symm) hown (ht _ (xw_in 452 (by decide +kernel) rfl)) (ht _ (xw_in 443 (by decide +kernel) rfl)) (ht _ (xw_in 65 (by decide +kernel) rfl)) (ht _ (xw_in 444 (by decide +kernel) rfl)) (by omega) (by omega) (Nat.zero_le _) (Nat.zero_le _) hdg (kk H locs hP hS)
  · cases h
theorem xm_X2_24 {l : Launch} {E : xi_E} {S : xi_S} {D : va_G} {tys : List (ClassId × FieldType)} {cc : ByteArray} {nL d : Nat} (hd : 1 ≤ d) : ∀ As m1 r m2, xi_wS 2 (F_J9_min_7cf53 S) As m1 = some (r, m2) → xi_Cal l E S D vwCl tys xNs RX2 xTs cc nL d (.invokestatic 24) As m1 r m2 := fun As m1 r m2 h => by
  obtain ⟨hl, h⟩ := xi_wS_some h
  unfold F_J9_min_7cf53 at h
  split at h
  · unfold E_J9_min_7cf53 at h
    cases h
    intro p e R s m args below meth c H locs Q pc ls rest hF hK hd1 hd2 hls hcs hdg hP hS kk
    obtain ⟨hx, hb, hml, hown, ht⟩ := hF
    unfold xi_cs at hcs
    exact va_mmin (rest := rest) hx hb (hml.trans hls.symm) hown (ht _ (xw_in 740 (by decide +kernel) rfl)) (ht _ (xw_in 443 (by decide +kernel) rfl)) (ht _ (xw_in 65 (by decide +kernel) rfl)) (ht _ (xw_in 444 (by decide +kernel) rfl)) (by omega) (by omega) (Nat.zero_le _) (Nat.zero_le _) hdg (kk H locs hP hS)
  · cases h
