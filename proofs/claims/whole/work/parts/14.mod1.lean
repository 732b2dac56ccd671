/-! The reference's reading methods over its rows of 34 ints. -/
def Row (S : xi_S) (m : xi_M) (c : Nat) (w : Nat → Int) : Prop := S.1 c = 0 ∧ S.2.1 c = 34 ∧ ∀ k, k < 34 → m.1 c k = zi (w k)
/-- ranges of a row: who plays, of which kind, where; coats may be off the common while they are tried -/
def Bd (w : Nat → Int) : Prop := (0 ≤ w 0 ∧ w 0 ≤ 1) ∧ (0 ≤ w 1 ∧ w 1 ≤ 6) ∧ (0 ≤ w 3 ∧ w 3 ≤ 1) ∧ (∀ k, k < 4 → -100 ≤ w (6 + k) ∧ w (6 + k) ≤ 100) ∧ ∀ i, i < 6 → (0 ≤ w (10 + 4 * i) ∧ w (10 + 4 * i) ≤ 5) ∧ (0 ≤ w (11 + 4 * i) ∧ w (11 + 4 * i) ≤ 1) ∧ (0 ≤ w (12 + 4 * i) ∧ w (12 + 4 * i) ≤ 20) ∧ (0 ≤ w (13 + 4 * i) ∧ w (13 + 4 * i) ≤ 9)
def pN (w : Nat → Int) : Nat := (w 1).toNat
theorem Bd.n {w : Nat → Int} (h : Bd w) : w 1 = (pN w : Int) ∧ pN w ≤ 6 := by
  obtain ⟨-, h1, -⟩ := h
  unfold pN
  omega
def isK (k : Int) : Bool := decide (k = 2 ∨ k = 5)
def capP (t : Int) : Int := if t < 0 then 0 else if 20 < t then 20 else t
def landP (k s f r : Int) : Int :=
  if k = 2 ∨ k = 5 then -9 else capP (if k = 1 then f + s else if k = 3 then (if r = 1 then f - 2 else f) else if k = 4 then (if r = 1 then f + s else f + s / 2) else f)
def ballP (w : Nat → Int) (i : Nat) : Int := landP (w (10 + 4 * i)) (w (13 + 4 * i)) (w (12 + 4 * i)) (w 3)
def reachP (k s : Int) : Int := if k = 2 then s / 3 else if k = 5 then s / 3 + 1 else -9
def apP (a b : Int) : Int := if b ≤ a then a - b else b - a
def rcP (w : Nat → Int) (i : Nat) (p : Int) : Bool := isK (w (10 + 4 * i)) && decide (apP (w (12 + 4 * i)) p ≤ reachP (w (10 + 4 * i)) (w (13 + 4 * i)))
def kpP (w : Nat → Int) (e : Int) (p : Int) : Nat → Bool := fo (fun i b => b || (decide (w (11 + 4 * i) = e) && rcP w i p)) false
def wiP (s lo hi p : Int) : Bool := if s = 1 then decide (lo ≤ p ∧ p ≤ hi) else decide (lo + 1 ≤ p ∧ p ≤ hi - 1)
def inP (w : Nat → Int) (e : Nat) (p : Int) : Bool := wiP (w 0) (w (6 + 2 * e)) (w (7 + 2 * e)) p && !kpP w e p (pN w)
def oe (x : Int) : Nat := (1 - x).toNat
def scP (w : Nat → Int) (i : Nat) : Bool := decide (ballP w i ≠ -9) && inP w (oe (w (11 + 4 * i))) (ballP w i)
def setP (f : Nat → Bool) : Nat → Int32 := fo (fun i x => if f i then x ||| bitP i else x) (zi 0)
section
variable {S : xi_S} {m : xi_M} {c : Nat} {w : Nat → Int} {i : Nat}
theorem M_in0 {a b d : Int} (h1 : -2147483648 ≤ a) (h2 : a < 2147483648) (h3 : -2147483648 ≤ b) (h4 : b < 2147483648) (h5 : -2147483648 ≤ d) (h6 : d < 2147483648) : E_X9_in0 S (zi a) (zi b) (zi d) m = some (some (.int (zb (decide (b ≤ a ∧ a ≤ d)))), m) := by
  unfold E_X9_in0
  simp (disch := omega) only [zi_f, zi_0, zi_1, zi_31, zi_all, zi_8, zi_16, zi_add, zi_sub, zi_mul, zi_neg, zi_lt, zi_le, zi_eq, zi_div, zi_t, zi_n, xb_I, xb_J, xb_V, xb_s, if_pos, if_neg, if_true, if_false, true_and, and_true, true_or, or_true, false_or, or_false, not_true, not_false_iff, zb_z, zb_o, zb_ft, tn_0, tn_1, tn_2, tn_3, tn_c, Int.reduceToNat, te_0, te_1, tk_0, tk_1, tk_m, ts_1, or_0, bp_f]
  by_cases h : a < b
  · rw [if_pos h, decide_eq_false (by omega), zb_f]
  · rw [if_neg h]
    by_cases h2 : d < a
    · rw [if_pos h2, decide_eq_false (by omega), zb_f]
    · rw [if_neg h2, decide_eq_true (by omega), zb_t]
theorem M_apart {a b : Int} (h1 : -2147483648 ≤ a) (h2 : a < 2147483648) (h3 : -2147483648 ≤ b) (h4 : b < 2147483648) : E_X9_apart S (zi a) (zi b) m = some (some (.int (zi (apP a b))), m) := by
  unfold E_X9_apart
  simp (disch := omega) only [zi_f, zi_0, zi_1, zi_31, zi_all, zi_8, zi_16, zi_add, zi_sub, zi_mul, zi_neg, zi_lt, zi_le, zi_eq, zi_div, zi_t, zi_n, xb_I, xb_J, xb_V, xb_s, if_pos, if_neg, if_true, if_false, true_and, and_true, true_or, or_true, false_or, or_false, not_true, not_false_iff, zb_z, zb_o, zb_ft, tn_0, tn_1, tn_2, tn_3, tn_c, Int.reduceToNat, te_0, te_1, tk_0, tk_1, tk_m, ts_1, or_0, bp_f]
  exact zs_i
theorem M_isKeeper (hr : Row S m c w) (hb : Bd w) (hi : i < 6) : E_X9_isKeeper S c (zi i) m = some (some (.int (zb (isK (w (10 + 4 * i))))), m) := by
  obtain ⟨r1, r2, r3⟩ := hr
  have hp := hb.2.2.2.2 i hi
  unfold E_X9_isKeeper
  simp (disch := omega) only [zi_f, zi_0, zi_1, zi_31, zi_all, zi_8, zi_16, zi_add, zi_sub, zi_mul, zi_neg, zi_lt, zi_le, zi_eq, zi_div, zi_t, zi_n, xb_I, xb_J, xb_V, xb_s, if_pos, if_neg, if_true, if_false, true_and, and_true, true_or, or_true, false_or, or_false, not_true, not_false_iff, zb_z, zb_o, zb_ft, tn_0, tn_1, tn_2, tn_3, tn_c, Int.reduceToNat, te_0, te_1, tk_0, tk_1, tk_m, ts_1, or_0, bp_f, r1, r2, r3]
  unfold isK
  by_cases h : w (10 + 4 * i) = 2
  · rw [if_pos h, decide_eq_true (by omega), zb_t]
  · rw [if_neg h]
    by_cases h2 : w (10 + 4 * i) = 5
    · rw [if_pos h2, decide_eq_true (by omega), zb_t]
    · rw [if_neg h2, decide_eq_false (by omega), zb_f]
theorem M_landing {k s f r : Int} (h1 : -1000 ≤ k ∧ k ≤ 1000) (h2 : 0 ≤ s ∧ s ≤ 1000) (h3 : -1000 ≤ f ∧ f ≤ 1000) (h4 : -1000 ≤ r ∧ r ≤ 1000) : E_X9_landing S (zi k) (zi s) (zi f) (zi r) m = some (some (.int (zi (landP k s f r))), m) := by
  unfold E_X9_landing
  simp (disch := omega) only [zi_f, zi_0, zi_1, zi_31, zi_all, zi_8, zi_16, zi_add, zi_sub, zi_mul, zi_neg, zi_lt, zi_le, zi_eq, zi_div, zi_t, zi_n, xb_I, xb_J, xb_V, xb_s, if_pos, if_neg, if_true, if_false, true_and, and_true, true_or, or_true, false_or, or_false, not_true, not_false_iff, zb_z, zb_o, zb_ft, tn_0, tn_1, tn_2, tn_3, tn_c, Int.reduceToNat, te_0, te_1, tk_0, tk_1, tk_m, ts_1, or_0, bp_f, zs_i]
  refine zs_c ?_
  unfold landP capP
  repeat' split
  all_goals omega
theorem M_ball (hr : Row S m c w) (hb : Bd w) (hi : i < 6) : E_X9_ball S c (zi i) m = some (some (.int (zi (ballP w i))), m) := by
  obtain ⟨r1, r2, r3⟩ := hr
  have hp := hb.2.2.2.2 i hi
  have hr := hb.2.2.1
  unfold E_X9_ball
  simp (disch := omega) only [zi_f, zi_0, zi_1, zi_31, zi_all, zi_8, zi_16, zi_add, zi_sub, zi_mul, zi_neg, zi_lt, zi_le, zi_eq, zi_div, zi_t, zi_n, xb_I, xb_J, xb_V, xb_s, if_pos, if_neg, if_true, if_false, true_and, and_true, true_or, or_true, false_or, or_false, not_true, not_false_iff, zb_z, zb_o, zb_ft, tn_0, tn_1, tn_2, tn_3, tn_c, Int.reduceToNat, te_0, te_1, tk_0, tk_1, tk_m, ts_1, or_0, bp_f, r1, r2, r3, M_landing]
  rfl
theorem landP_b (k s f r : Int) : landP k s f r = -9 ∨ (0 ≤ landP k s f r ∧ landP k s f r ≤ 20) := by
  unfold landP capP
  repeat' split
  all_goals omega
theorem ballP_b (w : Nat → Int) (i : Nat) : ballP w i = -9 ∨ (0 ≤ ballP w i ∧ ballP w i ≤ 20) := landP_b _ _ _ _
theorem reachP_b {k s : Int} (h : 0 ≤ s ∧ s ≤ 1000) : -9 ≤ reachP k s ∧ reachP k s ≤ 1000 := by
  unfold reachP
  repeat' split
  all_goals omega
theorem apP_b {a b : Int} (h : -1000 ≤ a ∧ a ≤ 1000) (h2 : -1000 ≤ b ∧ b ≤ 1000) : 0 ≤ apP a b ∧ apP a b ≤ 2000 := by
  unfold apP
  split
  all_goals omega
theorem M_reach (hr : Row S m c w) (hb : Bd w) (hi : i < 6) : E_X9_reach S c (zi i) m = some (some (.int (zi (reachP (w (10 + 4 * i)) (w (13 + 4 * i))))), m) := by
  have hk := M_isKeeper hr hb hi
  obtain ⟨r1, r2, r3⟩ := hr
  have hp := hb.2.2.2.2 i hi
  unfold E_X9_reach
  rw [hk]
  simp (disch := omega) only [zi_f, zi_0, zi_1, zi_31, zi_all, zi_8, zi_16, zi_add, zi_sub, zi_mul, zi_neg, zi_lt, zi_le, zi_eq, zi_div, zi_t, zi_n, xb_I, xb_J, xb_V, xb_s, if_pos, if_neg, if_true, if_false, true_and, and_true, true_or, or_true, false_or, or_false, not_true, not_false_iff, zb_z, zb_o, zb_ft, tn_0, tn_1, tn_2, tn_3, tn_c, Int.reduceToNat, te_0, te_1, tk_0, tk_1, tk_m, ts_1, or_0, bp_f, r1, r2, r3]
  unfold isK reachP
  by_cases h : w (10 + 4 * i) = 2
  · rw [decide_eq_true (by omega), if_neg (by decide), if_neg (by omega), if_pos h]
    exact zs_c (by omega)
  · by_cases h2 : w (10 + 4 * i) = 5
    · rw [decide_eq_true (by omega), if_neg (by decide), if_pos h2, if_neg h, if_pos h2]
    · rw [decide_eq_false (by omega), if_pos rfl, if_neg h, if_neg h2]
theorem M_isReached (hr : Row S m c w) (hb : Bd w) (hi : i < 6) {p : Int} (hp : -1000 ≤ p ∧ p ≤ 1000) : E_X9_isReached S c (zi i) (zi p) m = some (some (.int (zb (rcP w i p))), m) := by
  have hk := M_isKeeper hr hb hi
  have he := M_reach hr hb hi
  obtain ⟨r1, r2, r3⟩ := hr
  have hq := hb.2.2.2.2 i hi
  have ha := apP_b (a := w (12 + 4 * i)) (b := p) (by omega) hp
  have hc := reachP_b (k := w (10 + 4 * i)) (s := w (13 + 4 * i)) (by omega)
  unfold E_X9_isReached
  rw [hk]
  simp (disch := omega) only [zi_f, zi_0, zi_1, zi_31, zi_all, zi_8, zi_16, zi_add, zi_sub, zi_mul, zi_neg, zi_lt, zi_le, zi_eq, zi_div, zi_t, zi_n, xb_I, xb_J, xb_V, xb_s, if_pos, if_neg, if_true, if_false, true_and, and_true, true_or, or_true, false_or, or_false, not_true, not_false_iff, zb_z, zb_o, zb_ft, tn_0, tn_1, tn_2, tn_3, tn_c, Int.reduceToNat, te_0, te_1, tk_0, tk_1, tk_m, ts_1, or_0, bp_f, r1, r2, r3, M_apart, he]
  unfold rcP
  cases isK (w (10 + 4 * i))
  · rfl
  · by_cases h : reachP (w (10 + 4 * i)) (w (13 + 4 * i)) < apP (w (12 + 4 * i)) p
    · rw [if_neg (by decide), if_pos h, decide_eq_false (by omega)]
      rfl
    · rw [if_neg (by decide), if_neg h, decide_eq_true (by omega)]
      rfl
theorem M_isKept (hr : Row S m c w) (hb : Bd w) {e p : Int} (he : -1000 ≤ e ∧ e ≤ 1000) (hp : -1000 ≤ p ∧ p ≤ 1000) : E_X9_isKept S c (zi e) (zi p) m = some (some (.int (zb (kpP w e p (pN w)))), m) := by
  have hn := hb.n
  have hre := fun (j : Nat) (hj : j < 6) => M_isReached hr hb hj hp
  obtain ⟨r1, r2, r3⟩ := hr
  unfold E_X9_isKept
  refine lp_all (fun n j => G_X9_isKept_5 S n c (zi e) (zi p) (zb (kpP w e p j)) (zi j) m) (pN w) 10000 (fun j n hj => ?_) (fun n => ?_) (by omega)
  · have hq := hb.2.2.2.2 j (by omega)
    simp only [G_X9_isKept_5]
    simp (disch := omega) only [zi_f, zi_0, zi_1, zi_31, zi_all, zi_8, zi_16, zi_add, zi_sub, zi_mul, zi_neg, zi_lt, zi_le, zi_eq, zi_div, zi_t, zi_n, xb_I, xb_J, xb_V, xb_s, if_pos, if_neg, if_true, if_false, true_and, and_true, true_or, or_true, false_or, or_false, not_true, not_false_iff, zb_z, zb_o, zb_ft, tn_0, tn_1, tn_2, tn_3, tn_c, Int.reduceToNat, te_0, te_1, tk_0, tk_1, tk_m, ts_1, or_0, bp_f, r1, r2, r3, hre]
    rw [show kpP w e p (j + 1) = (kpP w e p j || (decide (w (11 + 4 * j) = e) && rcP w j p)) from rfl]
    cases kpP w e p j
    · by_cases h : w (11 + 4 * j) = e
      · rw [if_pos rfl, if_pos h, decide_eq_true h]
        cases rcP w j p
        · rfl
        · rfl
      · rw [if_pos rfl, if_neg h, decide_eq_false h]
        rfl
    · rfl
  · simp only [G_X9_isKept_5]
    simp (disch := omega) only [zi_f, zi_0, zi_1, zi_31, zi_all, zi_8, zi_16, zi_add, zi_sub, zi_mul, zi_neg, zi_lt, zi_le, zi_eq, zi_div, zi_t, zi_n, xb_I, xb_J, xb_V, xb_s, if_pos, if_neg, if_true, if_false, true_and, and_true, true_or, or_true, false_or, or_false, not_true, not_false_iff, zb_z, zb_o, zb_ft, tn_0, tn_1, tn_2, tn_3, tn_c, Int.reduceToNat, te_0, te_1, tk_0, tk_1, tk_m, ts_1, or_0, bp_f, r1, r2, r3, hn.1]
end
