/-! Bits of ints. -/
def bt (x : Int32) (p : Nat) : Bool := x.toBitVec.getLsbD p
theorem bt_and (x y : Int32) (p : Nat) : bt (x &&& y) p = (bt x p && bt y p) := by
  show (x.toBitVec &&& y.toBitVec).getLsbD p = _
  rw [BitVec.getLsbD_and]
  rfl
theorem bt_or (x y : Int32) (p : Nat) : bt (x ||| y) p = (bt x p || bt y p) := by
  show (x.toBitVec ||| y.toBitVec).getLsbD p = _
  rw [BitVec.getLsbD_or]
  rfl
theorem bt_xor (x y : Int32) (p : Nat) : bt (x ^^^ y) p = (bt x p ^^ bt y p) := by
  show (x.toBitVec ^^^ y.toBitVec).getLsbD p = _
  rw [BitVec.getLsbD_xor]
  rfl
theorem bt_m1 : ∀ p, p < 32 → bt (zi (-1)) p = true := by decide +kernel
theorem bt_not (x : Int32) {p : Nat} (h : p < 32) : bt (x ^^^ zi (-1)) p = !bt x p := by
  rw [bt_xor, bt_m1 p h, Bool.xor_true]
theorem bt_0 (p : Nat) : bt (zi 0) p = false := by
  show (BitVec.ofInt 32 0).getLsbD p = false
  rw [show BitVec.ofInt 32 0 = 0#32 by decide, BitVec.getLsbD_zero]
theorem bt_ext {x y : Int32} (h : ∀ p, p < 32 → bt x p = bt y p) : x = y := by
  apply Int32.toBitVec.inj
  apply BitVec.eq_of_getLsbD_eq
  intro i hi
  exact h i hi
theorem bt_bit1 : ∀ j, j < 32 → ∀ p, p < 32 → bt (bitP j) p = decide (p = j) := by decide +kernel
theorem bt_bit {j p : Nat} (hj : j < 32) (hp : p < 32) : bt (bitP j) p = decide (p = j) := bt_bit1 j hj p hp
theorem bt_all1 : ∀ p, p < 32 → bt (zi 2097151) p = decide (p < 21) := by decide +kernel
theorem bt_and0 {x : Int32} {j : Nat} (hj : j < 32) : (bitP j &&& x = zi 0) = (bt x j = false) := by
  apply propext
  constructor
  · intro h
    have h2 : bt (bitP j &&& x) j = false := by rw [h, bt_0]
    rwa [bt_and, bt_bit hj hj, decide_eq_true rfl, Bool.true_and] at h2
  · intro h
    apply bt_ext
    intro p hp
    rw [bt_and, bt_bit hj hp, bt_0]
    by_cases e : p = j
    · rw [e, h, Bool.and_false]
    · rw [decide_eq_false e, Bool.false_and]
theorem sh_n : ∀ j, j < 32 → ((zi (j : Nat) &&& zi 31).toBitVec.smod 32#32).toNat = j := by decide +kernel
theorem bt_shr {x : Int32} {j : Nat} (hj : j < 32) : (x >>> (zi j &&& zi 31)) &&& zi 1 = zb (bt x j) := by
  apply bt_ext
  intro p hp
  have h1 : bt (zi 1) p = decide (p = 0) := by
    have := (show ∀ p, p < 32 → bt (zi 1) p = decide (p = 0) by decide +kernel) p hp
    exact this
  rw [bt_and, h1]
  by_cases e : p = 0
  · subst e
    have h2 : bt (x >>> (zi j &&& zi 31)) 0 = bt x j := by
      show (x.toBitVec.sshiftRight' ((zi j &&& zi 31).toBitVec.smod 32#32)).getLsbD 0 = _
      rw [BitVec.getLsbD_sshiftRight', sh_n j hj]
      simp [bt, hj]
    rw [h2, decide_eq_true rfl, Bool.and_true]
    cases bt x j <;> decide
  · rw [decide_eq_false e, Bool.and_false]
    have h3 : ∀ b : Bool, ∀ p, p < 32 → p ≠ 0 → bt (zb b) p = false := by
      intro b
      cases b
      · intro p _ _; exact bt_0 p
      · exact (show ∀ p, p < 32 → p ≠ 0 → bt (zb true) p = false by decide +kernel)
    exact (h3 _ p hp e).symm
/-! sets of players -/
theorem bt_set (f : Nat → Bool) : ∀ n, n ≤ 32 → ∀ p, p < 32 → bt (setP f n) p = (decide (p < n) && f p) := by
  intro n
  induction n with
  | zero => intro _ p _; rw [show setP f 0 = zi 0 from rfl, bt_0, decide_eq_false (by omega), Bool.false_and]
  | succ n ih =>
    intro hn p hp
    rw [show setP f (n + 1) = (if f n then setP f n ||| bitP n else setP f n) from rfl]
    by_cases e : p = n
    · subst e
      cases hf : f p
      · rw [if_neg (by decide), ih (by omega) p hp, hf, Bool.and_false, Bool.and_false]
      · rw [if_pos rfl, bt_or, bt_bit hp hp, decide_eq_true rfl, Bool.or_true, decide_eq_true (by omega), Bool.true_and]
    · have h1 : decide (p < n + 1) = decide (p < n) := decide_eq_decide.mpr (by omega)
      cases hf : f n
      · rw [if_neg (by decide), ih (by omega) p hp, h1]
      · rw [if_pos rfl, bt_or, bt_bit (by omega) hp, decide_eq_false e, Bool.or_false, ih (by omega) p hp, h1]
theorem set_and (f g : Nat → Bool) {n : Nat} (hn : n ≤ 32) : setP f n &&& setP g n = setP (fun i => f i && g i) n := by
  apply bt_ext
  intro p hp
  rw [bt_and, bt_set f n hn p hp, bt_set g n hn p hp, bt_set _ n hn p hp]
  cases decide (p < n) <;> cases f p <;> cases g p <;> rfl
theorem set_andn (f g : Nat → Bool) {n : Nat} (hn : n ≤ 32) : setP f n &&& (setP g n ^^^ zi (-1)) = setP (fun i => f i && !g i) n := by
  apply bt_ext
  intro p hp
  rw [bt_and, bt_not _ hp, bt_set f n hn p hp, bt_set g n hn p hp, bt_set _ n hn p hp]
  cases decide (p < n) <;> cases f p <;> cases g p <;> rfl
theorem set_cong {f g : Nat → Bool} {n : Nat} (h : ∀ i, i < n → f i = g i) : setP f n = setP g n := fo_cong fun k x hk => by rw [h k hk]
def cntP (f : Nat → Bool) : Nat → Int := fo (fun i a => if f i then a + 1 else a) 0
theorem cnt_b (f : Nat → Bool) (n : Nat) : 0 ≤ cntP f n ∧ cntP f n ≤ n := fo_ind (P := fun k x => 0 ≤ x ∧ x ≤ (k : Int)) ⟨by omega, by omega⟩ (fun k x h => by
  show 0 ≤ (if f k then x + 1 else x) ∧ _ ≤ _
  split <;> omega) n
theorem cnt_cong {f g : Nat → Bool} {n : Nat} (h : ∀ i, i < n → f i = g i) : cntP f n = cntP g n := fo_cong fun k x hk => by rw [h k hk]
def sN (f : Nat → Bool) : Nat → Nat := fo (fun i a => if f i then a + 2 ^ i else a) 0
theorem sN_b (f : Nat → Bool) (n : Nat) : sN f n < 2 ^ n := fo_ind (P := fun k x => x < 2 ^ k) (by decide) (fun k x h => by
  show (if f k then x + 2 ^ k else x) < _
  rw [Nat.pow_succ]
  split <;> omega) n
theorem sN_or : ∀ n, n < 6 → ∀ x, x < 2 ^ n → zi (x : Nat) ||| bitP n = zi ((x + 2 ^ n : Nat)) := by decide +kernel
theorem set_sN (f : Nat → Bool) : ∀ n, n ≤ 6 → setP f n = zi (sN f n : Nat) := by
  intro n
  induction n with
  | zero => intro _; rfl
  | succ n ih =>
    intro hn
    rw [show setP f (n + 1) = (if f n then setP f n ||| bitP n else setP f n) from rfl, show sN f (n + 1) = (if f n then sN f n + 2 ^ n else sN f n) from rfl, ih (by omega)]
    cases f n
    · rfl
    · exact sN_or n (by omega) _ (sN_b f n)
def bcV (x : Int32) : Int32 := match E_J6_bitCount_0f7a4 ((fun _ => 0), (fun _ => 0), fun _ _ => none) x ((fun _ _ => 0), fun _ _ => 0) with
  | some (some (.int v), _) => v
  | _ => 0
theorem C_bc (S : xi_S) (x : Int32) (m : xi_M) : E_J6_bitCount_0f7a4 S x m = some (some (.int (bcV x)), m) := rfl
theorem bc_0 : bcV (zi 0) = zi 0 := by decide +kernel
theorem bc_s : ∀ n, n < 6 → ∀ x, x < 2 ^ n → bcV (zi ((x + 2 ^ n : Nat))) = bcV (zi (x : Nat)) + zi 1 := by decide +kernel
theorem bc_set (f : Nat → Bool) : ∀ n, n ≤ 6 → bcV (setP f n) = zi (cntP f n) := by
  intro n
  induction n with
  | zero => intro _; exact bc_0
  | succ n ih =>
    intro hn
    have h := ih (by omega)
    rw [set_sN f n (by omega)] at h
    rw [set_sN f (n + 1) hn, show sN f (n + 1) = (if f n then sN f n + 2 ^ n else sN f n) from rfl, show cntP f (n + 1) = (if f n then cntP f n + 1 else cntP f n) from rfl]
    cases f n
    · exact h
    · show bcV (zi ((sN f n + 2 ^ n : Nat))) = zi (cntP f n + 1)
      rw [bc_s n (by omega) _ (sN_b f n), h, zi_add]
/-! spans of places -/
def spV (a b : Int) : Int32 := if a ≤ b then ((zi 1 <<< (zi (b - a + 1) &&& zi 31)) - zi 1) <<< (zi a &&& zi 31) else zi 0
theorem bt_span1 : ∀ a, a < 21 → ∀ b, b < 21 → ∀ p, p < 32 → bt (spV (a : Nat) (b : Nat)) p = decide (a ≤ p ∧ p ≤ b) := by decide +kernel
theorem bt_span {a b : Int} (ha : 0 ≤ a ∧ a ≤ 20) (hb : 0 ≤ b ∧ b ≤ 20) {p : Nat} (hp : p < 32) : bt (spV a b) p = decide (a ≤ p ∧ (p : Int) ≤ b) := by
  have h := bt_span1 a.toNat (by omega) b.toNat (by omega) p hp
  rw [show ((a.toNat : Nat) : Int) = a by omega, show ((b.toNat : Nat) : Int) = b by omega] at h
  rw [h]
  exact decide_eq_decide.mpr (by omega)
