/-! Numbers: every int that the two programs count with is zi of a whole number; sums, products and compares go over to whole numbers. -/
def zi (a : Int) : Int32 := Int32.ofInt a
def zj (a : Int) : Int64 := Int64.ofInt a
theorem zi_f (a : Int) : Int32.ofInt a = zi a := rfl
theorem zj_f (a : Int) : Int64.ofInt a = zj a := rfl
theorem zi_0 : (0 : Int32) = zi 0 := rfl
theorem zi_1 : (1 : Int32) = zi 1 := rfl
theorem zi_31 : (31 : Int32) = zi 31 := rfl
theorem zi_all : (2097151 : Int32) = zi 2097151 := rfl
theorem zi_last : (2147483646 : Int32) = zi 2147483646 := rfl
theorem zj_0 : (0 : Int64) = zj 0 := rfl
theorem zj_n0 : Int64.ofNat (((0 : Fin 2)) : Nat) = zj 0 := by decide
theorem zj_n1 : Int64.ofNat (((1 : Fin 2)) : Nat) = zj 1 := by decide
theorem zi_8 {n : Int} (h1 : -128 ≤ n) (h2 : n < 128) : (Int8.ofInt n).toInt32 = zi n := by
  have e : (Int8.ofInt n).toInt = n := Int8.toInt_ofInt_of_le (by simpa using h1) (by simpa using h2)
  rw [← Int32.ofInt_int8ToInt, e]
  rfl
theorem zi_16 {n : Int} (h1 : -32768 ≤ n) (h2 : n < 32768) : (Int16.ofInt n).toInt32 = zi n := by
  have e : (Int16.ofInt n).toInt = n := Int16.toInt_ofInt_of_le (by simpa using h1) (by simpa using h2)
  rw [← Int32.ofInt_int16ToInt, e]
  rfl
theorem mx_32 : Int32.maxValue.toInt = 2147483647 := by decide
theorem mx_64 : Int64.maxValue.toInt = 9223372036854775807 := by decide
theorem zi_t {a : Int} (h1 : -2147483648 ≤ a) (h2 : a < 2147483648) : (zi a).toInt = a := Int32.toInt_ofInt_of_le (by simpa using h1) (by simpa using h2)
theorem zj_t {a : Int} (h1 : -9223372036854775808 ≤ a) (h2 : a < 9223372036854775808) : (zj a).toInt = a := Int64.toInt_ofInt_of_le (by simpa using h1) (by simpa using h2)
theorem zi_of (x : Int32) : ∃ a : Int, -2147483648 ≤ a ∧ a < 2147483648 ∧ x = zi a := ⟨x.toInt, by simpa using x.le_toInt, by simpa using x.toInt_lt, (Int32.ofInt_toInt x).symm⟩
theorem zi_add (a b : Int) : zi a + zi b = zi (a + b) := (Int32.ofInt_add a b).symm
theorem zi_sub (a b : Int) : zi a - zi b = zi (a - b) := (Int32.ofInt_sub a b).symm
theorem zi_mul (a b : Int) : zi a * zi b = zi (a * b) := (Int32.ofInt_mul a b).symm
theorem zi_neg (a : Int) : -zi a = zi (-a) := (Int32.ofInt_neg a).symm
theorem zj_add (a b : Int) : zj a + zj b = zj (a + b) := (Int64.ofInt_add a b).symm
theorem zj_sub (a b : Int) : zj a - zj b = zj (a - b) := (Int64.ofInt_sub a b).symm
theorem zj_mul (a b : Int) : zj a * zj b = zj (a * b) := (Int64.ofInt_mul a b).symm
theorem zi_lt {a b : Int} (h1 : -2147483648 ≤ a) (h2 : a < 2147483648) (h3 : -2147483648 ≤ b) (h4 : b < 2147483648) : (zi a < zi b) = (a < b) := by
  rw [Int32.lt_iff_toInt_lt, zi_t h1 h2, zi_t h3 h4]
theorem zi_le {a b : Int} (h1 : -2147483648 ≤ a) (h2 : a < 2147483648) (h3 : -2147483648 ≤ b) (h4 : b < 2147483648) : (zi a ≤ zi b) = (a ≤ b) := by
  rw [Int32.le_iff_toInt_le, zi_t h1 h2, zi_t h3 h4]
theorem zi_eq {a b : Int} (h1 : -2147483648 ≤ a) (h2 : a < 2147483648) (h3 : -2147483648 ≤ b) (h4 : b < 2147483648) : (zi a = zi b) = (a = b) := by
  apply propext
  constructor
  · intro h
    have h5 : (zi a).toInt = (zi b).toInt := by rw [h]
    rwa [zi_t h1 h2, zi_t h3 h4] at h5
  · intro h
    rw [h]
theorem zj_lt {a b : Int} (h1 : -9223372036854775808 ≤ a) (h2 : a < 9223372036854775808) (h3 : -9223372036854775808 ≤ b) (h4 : b < 9223372036854775808) : (zj a < zj b) = (a < b) := by
  rw [Int64.lt_iff_toInt_lt, zj_t h1 h2, zj_t h3 h4]
theorem zj_eq {a b : Int} (h1 : -9223372036854775808 ≤ a) (h2 : a < 9223372036854775808) (h3 : -9223372036854775808 ≤ b) (h4 : b < 9223372036854775808) : (zj a = zj b) = (a = b) := by
  apply propext
  constructor
  · intro h
    have h5 : (zj a).toInt = (zj b).toInt := by rw [h]
    rwa [zj_t h1 h2, zj_t h3 h4] at h5
  · intro h
    rw [h]
theorem zi_div {a b : Int} (h1 : 0 ≤ a) (h2 : a < 2147483648) (h3 : 0 < b) (h4 : b < 2147483648) : zi a / zi b = zi (a / b) := by
  rw [← Int.tdiv_eq_ediv_of_nonneg h1]
  exact (Int32.ofInt_tdiv (by simpa using (show (-2147483648 : Int) ≤ a by omega)) (by rw [mx_32]; omega) (by simpa using (show (-2147483648 : Int) ≤ b by omega)) (by rw [mx_32]; omega)).symm
theorem zj_div {a b : Int} (h1 : 0 ≤ a) (h2 : a < 9223372036854775808) (h3 : 0 < b) (h4 : b < 9223372036854775808) : zj a / zj b = zj (a / b) := by
  rw [← Int.tdiv_eq_ediv_of_nonneg h1]
  exact (Int64.ofInt_tdiv (by simpa using (show (-9223372036854775808 : Int) ≤ a by omega)) (by rw [mx_64]; omega) (by simpa using (show (-9223372036854775808 : Int) ≤ b by omega)) (by rw [mx_64]; omega)).symm
theorem zi_rem {a b : Int} (h1 : 0 ≤ a) (h2 : a < 2147483648) (h3 : 0 < b) (h4 : b < 2147483648) : zi a - zi a / zi b * zi b = zi (a % b) := by
  rw [zi_div h1 h2 h3 h4, zi_mul, zi_sub, Int.emod_def, Int.mul_comm b]
theorem zj_rem {a b : Int} (h1 : 0 ≤ a) (h2 : a < 9223372036854775808) (h3 : 0 < b) (h4 : b < 9223372036854775808) : zj a - zj a / zj b * zj b = zj (a % b) := by
  rw [zj_div h1 h2 h3 h4, zj_mul, zj_sub, Int.emod_def, Int.mul_comm b]
theorem zi_n {a : Int} (h1 : 0 ≤ a) (h2 : a < 2147483648) : (zi a).toNatClampNeg = a.toNat := Int32.toNatClampNeg_ofInt_of_le (by simpa using (show (-2147483648 : Int) ≤ a by omega)) (by simpa using h2)
theorem zi_l {a : Int} (h1 : -2147483648 ≤ a) (h2 : a < 2147483648) : (zi a).toInt64 = zj a := Int32.toInt64_ofInt (by simpa using h1) (by rw [mx_32]; omega)
theorem zj_i (a : Int) : (zj a).toInt32 = zi a := by
  show (Int64.ofInt a).toInt32 = Int32.ofInt a
  simp
theorem zi_nat (n : Nat) : Int32.ofNat n = zi n := Int32.ofInt_eq_ofNat.symm
/-- a place of a row: it is there -/
theorem zi_ix {a : Int} {n : Nat} (h1 : 0 ≤ a) (h2 : a < 2147483648) (h3 : a < n) : ¬ (zi a < 0 ∨ n ≤ (zi a).toNatClampNeg) := by
  rw [zi_n h1 h2, zi_0, zi_lt (by omega) (by omega) (by omega) (by omega)]
  omega
theorem zi_bad {a : Int} {n : Nat} (h1 : -2147483648 ≤ a) (h2 : a < 2147483648) (h3 : ¬ (0 ≤ a ∧ a < n)) : (zi a < 0 ∨ n ≤ (zi a).toNatClampNeg) := by
  rw [zi_0, zi_lt (by omega) (by omega) (by omega) (by omega)]
  by_cases h : a < 0
  · exact Or.inl h
  · rw [zi_n (by omega) (by omega)]
    omega
/-! the interpreter's answers -/
theorem xb_I {v : Int32} {m : xi_M} {k : Int32 → xi_M → Option xi_R} : xi_bI (some (some (.int v), m)) k = k v m := rfl
theorem xb_J {v : Int64} {m : xi_M} {k : Int64 → xi_M → Option xi_R} : xi_bJ (some (some (.long v), m)) k = k v m := rfl
theorem xb_V {m : xi_M} {k : xi_M → Option xi_R} : xi_bV (some (none, m)) k = k m := rfl
theorem xb_s {b : Nat} {k : Nat → Option xi_R} : (some b).bind k = k b := rfl
/-- a truth as an int -/
def zb (b : Bool) : Int32 := if b then zi 1 else zi 0
theorem zb_z (b : Bool) : (zb b = zi 0) = (b = false) := by cases b <;> decide
theorem zb_o (b : Bool) : (zb b = zi 1) = (b = true) := by cases b <;> decide
theorem zb_ft (b : Bool) : (b = false ∨ b = true) = True := by cases b <;> decide
theorem zb_t : zb true = zi 1 := rfl
theorem zb_f : zb false = zi 0 := rfl
theorem zb_if {c : Prop} [Decidable c] {m : xi_M} : (if c then some (some (Value.int (zi 1)), m) else some (some (Value.int (zi 0)), m)) = (some (some (.int (zb (decide c))), m) : Option xi_R) := by
  by_cases h : c
  · rw [if_pos h, decide_eq_true h, zb_t]
  · rw [if_neg h, decide_eq_false h, zb_f]
theorem zs_c {a b : Int} {m : xi_M} (h : a = b) : (some (some (.int (zi a)), m) : Option xi_R) = some (some (.int (zi b)), m) := by rw [h]
theorem zs_b {a b : Bool} {m : xi_M} (h : a = b) : (some (some (.int (zb a)), m) : Option xi_R) = some (some (.int (zb b)), m) := by rw [h]
theorem zs_i {c : Prop} [Decidable c] {a b : Int} {m : xi_M} : (if c then some (some (Value.int (zi a)), m) else some (some (Value.int (zi b)), m)) = (some (some (.int (zi (if c then a else b))), m) : Option xi_R) := by
  by_cases h : c
  · rw [if_pos h, if_pos h]
  · rw [if_neg h, if_neg h]
theorem tn_c (n : Nat) : ((n : Int)).toNat = n := Int.toNat_natCast n
theorem tn_0 (i : Nat) : (10 + 4 * (i : Int)).toNat = 10 + 4 * i := by omega
theorem tn_1 (i : Nat) : (10 + 4 * (i : Int) + 1).toNat = 11 + 4 * i := by omega
theorem tn_2 (i : Nat) : (10 + 4 * (i : Int) + 2).toNat = 12 + 4 * i := by omega
theorem tn_3 (i : Nat) : (10 + 4 * (i : Int) + 3).toNat = 13 + 4 * i := by omega
/-! memory -/
theorem mw_eq (m : xi_M) (a k : Nat) (v : Int32) : (xi_wI m a k v).1 a k = v := by simp [xi_wI, xi_up, upd]
theorem mw_ne {m : xi_M} {a k b j : Nat} {v : Int32} (h : ¬ (b = a ∧ j = k)) : (xi_wI m a k v).1 b j = m.1 b j := by
  show xi_up m.1 a k v b j = _
  unfold xi_up upd
  by_cases h1 : b = a
  · subst h1
    by_cases h2 : j = k
    · exact absurd ⟨rfl, h2⟩ h
    · rw [if_pos rfl, if_neg h2]
  · rw [if_neg h1]
theorem mw_if (m : xi_M) (a k b j : Nat) (v : Int32) : (xi_wI m a k v).1 b j = if b = a ∧ j = k then v else m.1 b j := by
  by_cases h : b = a ∧ j = k
  · rw [if_pos h, h.1, h.2, mw_eq]
  · rw [if_neg h, mw_ne h]
theorem mw_l (m : xi_M) (a k : Nat) (v : Int32) : (xi_wI m a k v).2 = m.2 := rfl
theorem mj_i (m : xi_M) (a k : Nat) (v : Int64) : (xi_wJ m a k v).1 = m.1 := rfl
theorem mj_if (m : xi_M) (a k b j : Nat) (v : Int64) : (xi_wJ m a k v).2 b j = if b = a ∧ j = k then v else m.2 b j := by
  show xi_upL m.2 a k v b j = _
  unfold xi_upL vp_updL
  by_cases h1 : b = a
  · subst h1
    by_cases h2 : j = k
    · rw [if_pos rfl, if_pos h2, if_pos ⟨rfl, h2⟩]
    · rw [if_pos rfl, if_neg h2, if_neg (fun h => h2 h.2)]
  · rw [if_neg h1, if_neg (fun h => h1 h.1)]
/-! loops -/
theorem lp_run {β : Type} (g : Nat → Nat → β) (e : Nat) (h : ∀ j n, j < e → g (n + 1) j = g n (j + 1)) : ∀ (k F : Nat), k ≤ e → e ≤ F → g F 0 = g (F - k) k := by
  intro k
  induction k with
  | zero => intro F _ _; rfl
  | succ k ih =>
    intro F hk hF
    rw [ih F (by omega) hF, show F - k = (F - (k + 1)) + 1 by omega, h k _ (by omega)]
theorem lp_all {β : Type} (g : Nat → Nat → β) (e F : Nat) {r : β} (h : ∀ j n, j < e → g (n + 1) j = g n (j + 1)) (hr : ∀ n, g (n + 1) e = r) (hF : e < F) : g F 0 = r := by
  rw [lp_run g e h e F (Nat.le_refl e) (by omega), show F - e = (F - e - 1) + 1 by omega, hr]
/-- e rounds from a start -/
def fo {α : Type} (f : Nat → α → α) (a : α) : Nat → α
  | 0 => a
  | n + 1 => f n (fo f a n)
theorem fo_s {α : Type} (f : Nat → α → α) (a : α) (n : Nat) : fo f a (n + 1) = f n (fo f a n) := rfl
theorem fo_cong {α : Type} {f g : Nat → α → α} {a : α} : ∀ {n : Nat}, (∀ k x, k < n → f k x = g k x) → fo f a n = fo g a n
  | 0, _ => rfl
  | n + 1, h => by rw [fo_s, fo_s, fo_cong (fun k x hk => h k x (by omega)), h n _ (by omega)]
theorem fo_ind {α : Type} {f : Nat → α → α} {a : α} {P : Nat → α → Prop} (h0 : P 0 a) (hs : ∀ k x, P k x → P (k + 1) (f k x)) : ∀ n, P n (fo f a n)
  | 0 => h0
  | n + 1 => hs n _ (fo_ind h0 hs n)
theorem fo_rel {α β : Type} {f : Nat → α → α} {g : Nat → β → β} {a : α} {b : β} {P : Nat → α → β → Prop} (h0 : P 0 a b) : ∀ n, (∀ k x y, k < n → P k x y → P (k + 1) (f k x) (g k y)) → P n (fo f a n) (fo g b n)
  | 0, _ => h0
  | n + 1, hs => hs n _ _ (by omega) (fo_rel h0 n fun k x y hk h => hs k x y (by omega) h)
theorem te_0 (e : Nat) : (6 + 2 * (e : Int)).toNat = 6 + 2 * e := by omega
theorem te_1 (e : Nat) : (6 + 2 * (e : Int) + 1).toNat = 7 + 2 * e := by omega
theorem tk_0 (k : Nat) : (6 + (k : Int)).toNat = 6 + k := by omega
theorem tk_1 (k : Nat) : (6 + (k : Int) + 1).toNat = 6 + (k + 1) := by omega
theorem tk_m {k : Nat} (h : 1 ≤ k) : (6 + (k : Int) - 1).toNat = 6 + (k - 1) := by omega
theorem ts_1 (j : Nat) : ((j + 1 : Nat) : Int) = (j : Int) + 1 := by omega
def bitP (i : Nat) : Int32 := zi 1 <<< (zi i &&& zi 31)
theorem bp_f (i : Nat) : zi 1 <<< (zi i &&& zi 31) = bitP i := rfl
theorem or_0 (x : Int32) : x ||| zi 0 = x := by
  show x ||| 0 = x
  exact Int32.or_zero
