/-! The class's reading methods over a Republic whose fields say a row w. -/
def ShR (S : xi_S) (c : Nat) : Prop := S.1 c = 8 ∧ S.2.2 c 5 = some (c + 1) ∧ S.2.2 c 6 = some (c + 2) ∧ S.2.2 c 7 = some (c + 3) ∧ S.2.2 c 8 = some (c + 4) ∧ S.2.2 c 9 = some (c + 5) ∧ S.2.2 c 10 = some (c + 6) ∧ S.2.2 c 11 = some (c + 7) ∧ S.2.2 c 12 = some (c + 8) ∧ S.2.2 c 13 = some (c + 9)
  ∧ S.1 (c + 1) = 0 ∧ S.1 (c + 2) = 0 ∧ S.1 (c + 3) = 0 ∧ S.1 (c + 4) = 0 ∧ S.1 (c + 5) = 0 ∧ S.1 (c + 6) = 0 ∧ S.1 (c + 7) = 0 ∧ S.1 (c + 8) = 0 ∧ S.1 (c + 9) = 0
  ∧ S.2.1 (c + 1) = 4 ∧ S.2.1 (c + 2) = 2 ∧ S.2.1 (c + 3) = 6 ∧ S.2.1 (c + 4) = 6 ∧ S.2.1 (c + 5) = 6 ∧ S.2.1 (c + 6) = 6 ∧ S.2.1 (c + 7) = 40 ∧ S.2.1 (c + 8) = 40 ∧ S.2.1 (c + 9) = 40
def RF (m : xi_M) (c : Nat) (w : Nat → Int) : Prop := m.1 c 0 = zi (w 0) ∧ m.1 c 1 = zi (w 1) ∧ m.1 c 2 = zi (w 2) ∧ m.1 c 3 = zi (w 3) ∧ (∀ k, k < 4 → m.1 (c + 1) k = zi (w (6 + k))) ∧ (∀ k, k < 2 → m.1 (c + 2) k = zi (w (4 + k)))
  ∧ (∀ i, i < pN w → m.1 (c + 3) i = zi (w (10 + 4 * i))) ∧ (∀ i, i < pN w → m.1 (c + 4) i = zi (w (11 + 4 * i))) ∧ (∀ i, i < pN w → m.1 (c + 5) i = zi (w (12 + 4 * i))) ∧ (∀ i, i < pN w → m.1 (c + 6) i = zi (w (13 + 4 * i)))
/-- the coats stand in order on the common -/
def Cd (w : Nat → Int) : Prop := ∀ e, e < 2 → 0 ≤ w (6 + 2 * e) ∧ w (6 + 2 * e) < w (7 + 2 * e) ∧ w (7 + 2 * e) ≤ 20
def ofP (k o : Int) : Bool := decide (k = o ∨ o = 0 ∨ (k = 4 ∧ o = 1) ∨ (k = 5 ∧ o = 2))
def beV (s lo hi : Int) : Int32 := if s = 1 then spV lo hi else spV (lo + 1) (hi - 1)
def maxP (a b : Int) : Int := if a < b then b else a
def minP (a b : Int) : Int := if b < a then b else a
def rmV (w : Nat → Int) (i : Nat) : Int32 := if reachP (w (10 + 4 * i)) (w (13 + 4 * i)) = -9 then zi 0 else spV (maxP 0 (w (12 + 4 * i) - reachP (w (10 + 4 * i)) (w (13 + 4 * i)))) (minP 20 (w (12 + 4 * i) + reachP (w (10 + 4 * i)) (w (13 + 4 * i))))
def opV (w : Nat → Int) (e : Int) : Nat → Int32 := fo (fun i x => if w (11 + 4 * i) = e then x &&& (rmV w i ^^^ zi (-1)) else x) (zi 2097151)
def inV (w : Nat → Int) (e : Nat) : Int32 := beV (w 0) (w (6 + 2 * e)) (w (7 + 2 * e)) &&& opV w e (pN w)
def bbV (w : Nat → Int) (i : Nat) (f : Int) : Int32 := if 0 ≤ ballP w i then bitP (minP 20 (ballP w i + f)).toNat else zi 0
/-- whether a ball is in that lands so much further -/
def scF (w : Nat → Int) (f : Nat → Int) (i : Nat) : Bool := decide (ballP w i ≠ -9) && inP w (oe (w (11 + 4 * i))) (minP 20 (ballP w i + f i))
def sdP (w : Nat → Int) (s : Int) (i : Nat) : Bool := decide (w (11 + 4 * i) = s)
def advP (w : Nat → Int) (s : Int) (f : Nat → Int) : Nat → Int := fo (fun i a => if scF w f i then (if w (11 + 4 * i) = s then a + 1 else a + -1) else a) 0
def wbP (x : Int32) (i : Nat) : Int := if bt x i then 1 else 0
theorem zb_zi (b : Bool) : zb b = zi (if b then 1 else 0) := by cases b <;> rfl
theorem C_max (S : xi_S) (a b : Int) (m : xi_M) (h1 : -2147483648 ≤ a) (h2 : a < 2147483648) (h3 : -2147483648 ≤ b) (h4 : b < 2147483648) : E_J9_max_7cf53 S (zi a) (zi b) m = some (some (.int (zi (maxP a b))), m) := by
  unfold E_J9_max_7cf53 maxP
  simp only [zi_lt h1 h2 h3 h4]
  split <;> rfl
theorem C_min (S : xi_S) (a b : Int) (m : xi_M) (h1 : -2147483648 ≤ a) (h2 : a < 2147483648) (h3 : -2147483648 ≤ b) (h4 : b < 2147483648) : E_J9_min_7cf53 S (zi a) (zi b) m = some (some (.int (zi (minP a b))), m) := by
  unfold E_J9_min_7cf53 minP
  simp only [zi_lt h3 h4 h1 h2]
  split <;> rfl
def abP (a : Int) : Int := if 0 ≤ a then a else 0 - a
theorem C_abs (S : xi_S) (a : Int) (m : xi_M) (h1 : -2147483648 ≤ a) (h2 : a < 2147483648) : E_J9_abs_0f7a4 S (zi a) m = some (some (.int (zi (abP a))), m) := by
  unfold E_J9_abs_0f7a4 abP
  simp (disch := omega) only [zi_0, zi_le, zi_sub]
  split <;> rfl
theorem ab_ap (a b : Int) : abP (a - b) = apP a b := by
  unfold abP apP
  repeat' split
  all_goals omega
theorem ap_comm (a b : Int) : apP a b = apP b a := by
  unfold apP
  repeat' split
  all_goals omega
theorem maxP_b (a b : Int) : (maxP a b = a ∨ maxP a b = b) ∧ a ≤ maxP a b ∧ b ≤ maxP a b := by
  unfold maxP
  split <;> omega
theorem minP_b (a b : Int) : (minP a b = a ∨ minP a b = b) ∧ minP a b ≤ a ∧ minP a b ≤ b := by
  unfold minP
  split <;> omega
theorem reachP_b2 {k s : Int} (h : 0 ≤ s ∧ s ≤ 9) : (reachP k s = -9 ∨ 0 ≤ reachP k s) ∧ reachP k s ≤ 4 := by
  unfold reachP
  repeat' split
  all_goals omega
section
variable {S : xi_S} {m : xi_M} {c : Nat} {w : Nat → Int} {i : Nat}
theorem C_within {a b : Int} (h1 : -2147483648 ≤ a) (h2 : a < 2147483648) (h3 : -2147483648 ≤ b) (h4 : b < 2147483648) : E_X8_within S (zi a) (zi b) m = some (some (.int (zb (decide (0 ≤ a ∧ a ≤ b)))), m) := by
  unfold E_X8_within
  simp (disch := omega) only [zi_f, zi_0, zi_1, zi_31, zi_all, zi_8, zi_16, zi_add, zi_sub, zi_mul, zi_neg, zi_lt, zi_le, zi_eq, zi_div, zi_t, zi_n, xb_I, xb_J, xb_V, xb_s, if_pos, if_neg, if_true, if_false, true_and, and_true, true_or, or_true, false_or, or_false, not_true, not_false_iff, zb_z, zb_o, zb_ft, tn_0, tn_1, tn_2, tn_3, tn_c, Int.reduceToNat, te_0, te_1, tk_0, tk_1, tk_m, ts_1, or_0, bp_f]
  by_cases h : a < 0
  · rw [if_pos h, decide_eq_false (by omega), zb_f]
  · rw [if_neg h]
    by_cases h2 : b < a
    · rw [if_pos h2, decide_eq_false (by omega), zb_f]
    · rw [if_neg h2, decide_eq_true (by omega), zb_t]
theorem C_isOf {a b : Int} (h1 : -1000 ≤ a ∧ a ≤ 1000) (h2 : -1000 ≤ b ∧ b ≤ 1000) : E_X4_isOf S (zi a) (zi b) m = some (some (.int (zb (ofP a b))), m) := by
  unfold E_X4_isOf ofP
  simp (disch := omega) only [zi_f, zi_0, zi_1, zi_31, zi_all, zi_8, zi_16, zi_add, zi_sub, zi_mul, zi_neg, zi_lt, zi_le, zi_eq, zi_div, zi_t, zi_n, xb_I, xb_J, xb_V, xb_s, if_pos, if_neg, if_true, if_false, true_and, and_true, true_or, or_true, false_or, or_false, not_true, not_false_iff, zb_z, zb_o, zb_ft, tn_0, tn_1, tn_2, tn_3, tn_c, Int.reduceToNat, te_0, te_1, tk_0, tk_1, tk_m, ts_1, or_0, bp_f]
  by_cases h : a = b ∨ b = 0 ∨ (a = 4 ∧ b = 1) ∨ (a = 5 ∧ b = 2)
  · rw [decide_eq_true h, zb_t]
    repeat' split
    all_goals first | rfl | (exfalso; omega)
  · rw [decide_eq_false h, zb_f]
    repeat' split
    all_goals first | rfl | (exfalso; omega)
theorem C_land4 {k s f r : Int} (h1 : -1000 ≤ k ∧ k ≤ 1000) (h2 : 0 ≤ s ∧ s ≤ 1000) (h3 : -1000 ≤ f ∧ f ≤ 1000) (h4 : -1000 ≤ r ∧ r ≤ 1000) : E_X4_landing S (zi k) (zi f) (zi s) (zi r) m = some (some (.int (zi (landP k s f r))), m) := by
  unfold E_X4_landing
  rw [show Int32.ofInt 2 = zi 2 from rfl, C_isOf h1 (by omega)]
  have a1 := minP_b 20 (f + s)
  have a2 := minP_b 20 (f + s / 2)
  have a3 := minP_b 20 (f + -2)
  have a4 := minP_b 20 (f + 0)
  simp (disch := omega) only [zi_f, zi_0, zi_1, zi_31, zi_all, zi_8, zi_16, zi_add, zi_sub, zi_mul, zi_neg, zi_lt, zi_le, zi_eq, zi_div, zi_t, zi_n, xb_I, xb_J, xb_V, xb_s, if_pos, if_neg, if_true, if_false, true_and, and_true, true_or, or_true, false_or, or_false, not_true, not_false_iff, zb_z, zb_o, zb_ft, tn_0, tn_1, tn_2, tn_3, tn_c, Int.reduceToNat, te_0, te_1, tk_0, tk_1, tk_m, ts_1, or_0, bp_f, C_min, C_max]
  unfold ofP landP capP
  by_cases h : k = 2 ∨ k = 5
  · rw [decide_eq_true (by omega), if_neg (by decide), if_pos h]
  · rw [decide_eq_false (by omega), if_pos rfl, if_neg h]
    unfold maxP minP
    repeat' split
    all_goals first | exact zs_c (by omega) | (exfalso; omega)
theorem C_reach4 {k s : Int} (h1 : -1000 ≤ k ∧ k ≤ 1000) (h2 : 0 ≤ s ∧ s ≤ 1000) : E_X4_reach S (zi k) (zi s) m = some (some (.int (zi (reachP k s))), m) := by
  unfold E_X4_reach
  simp (disch := omega) only [zi_f, zi_0, zi_1, zi_31, zi_all, zi_8, zi_16, zi_add, zi_sub, zi_mul, zi_neg, zi_lt, zi_le, zi_eq, zi_div, zi_t, zi_n, xb_I, xb_J, xb_V, xb_s, if_pos, if_neg, if_true, if_false, true_and, and_true, true_or, or_true, false_or, or_false, not_true, not_false_iff, zb_z, zb_o, zb_ft, tn_0, tn_1, tn_2, tn_3, tn_c, Int.reduceToNat, te_0, te_1, tk_0, tk_1, tk_m, ts_1, or_0, bp_f]
  unfold reachP
  repeat' split
  all_goals first | exact zs_c (by omega) | (exfalso; omega)
theorem C_landing (hs : ShR S c) (hf : RF m c w) (hb : Bd w) (hi : i < pN w) : E_X6_landing S c (zi i) m = some (some (.int (zi (ballP w i))), m) := by
  have hn := hb.n
  have hq := hb.2.2.2.2 i (by omega)
  have hr := hb.2.2.1
  obtain ⟨s0, s5, s6, s7, s8, s9, s10, s11, s12, s13, k1, k2, k3, k4, k5, k6, k7, k8, k9, l1, l2, l3, l4, l5, l6, l7, l8, l9⟩ := hs
  obtain ⟨f0, f1, f2, f3, fc, fg, fk, fs, fp, ft⟩ := hf
  unfold E_X6_landing
  simp (disch := omega) only [zi_f, zi_0, zi_1, zi_31, zi_all, zi_8, zi_16, zi_add, zi_sub, zi_mul, zi_neg, zi_lt, zi_le, zi_eq, zi_div, zi_t, zi_n, xb_I, xb_J, xb_V, xb_s, if_pos, if_neg, if_true, if_false, true_and, and_true, true_or, or_true, false_or, or_false, not_true, not_false_iff, zb_z, zb_o, zb_ft, tn_0, tn_1, tn_2, tn_3, tn_c, Int.reduceToNat, te_0, te_1, tk_0, tk_1, tk_m, ts_1, or_0, bp_f, s0, s5, s6, s7, s8, s9, s10, s11, s12, s13, k1, k2, k3, k4, k5, k6, k7, k8, k9, l1, l2, l3, l4, l5, l6, l7, l8, l9, f0, f1, f2, f3, fc, fg, fk, fs, fp, ft, C_land4]
  rfl
theorem C_landingFrom (hs : ShR S c) (hf : RF m c w) (hb : Bd w) (hi : i < pN w) {f r : Int} (h3 : -1000 ≤ f ∧ f ≤ 1000) (h4 : -1000 ≤ r ∧ r ≤ 1000) : E_X6_landingFrom S c (zi i) (zi f) (zi r) m = some (some (.int (zi (landP (w (10 + 4 * i)) (w (13 + 4 * i)) f r))), m) := by
  have hn := hb.n
  have hq := hb.2.2.2.2 i (by omega)
  obtain ⟨s0, s5, s6, s7, s8, s9, s10, s11, s12, s13, k1, k2, k3, k4, k5, k6, k7, k8, k9, l1, l2, l3, l4, l5, l6, l7, l8, l9⟩ := hs
  obtain ⟨f0, f1, f2, f3, fc, fg, fk, fs, fp, ft⟩ := hf
  unfold E_X6_landingFrom
  simp (disch := omega) only [zi_f, zi_0, zi_1, zi_31, zi_all, zi_8, zi_16, zi_add, zi_sub, zi_mul, zi_neg, zi_lt, zi_le, zi_eq, zi_div, zi_t, zi_n, xb_I, xb_J, xb_V, xb_s, if_pos, if_neg, if_true, if_false, true_and, and_true, true_or, or_true, false_or, or_false, not_true, not_false_iff, zb_z, zb_o, zb_ft, tn_0, tn_1, tn_2, tn_3, tn_c, Int.reduceToNat, te_0, te_1, tk_0, tk_1, tk_m, ts_1, or_0, bp_f, s0, s5, s6, s7, s8, s9, s10, s11, s12, s13, k1, k2, k3, k4, k5, k6, k7, k8, k9, l1, l2, l3, l4, l5, l6, l7, l8, l9, f0, f1, f2, f3, fc, fg, fk, fs, fp, ft, C_land4]
theorem C_span {a b : Int} (h1 : -1000 ≤ a ∧ a ≤ 1000) (h2 : -1000 ≤ b ∧ b ≤ 1000) : E_X8_span S (zi a) (zi b) m = some (some (.int (spV a b)), m) := by
  unfold E_X8_span spV
  simp (disch := omega) only [zi_f, zi_0, zi_1, zi_31, zi_all, zi_8, zi_16, zi_add, zi_sub, zi_mul, zi_neg, zi_lt, zi_le, zi_eq, zi_div, zi_t, zi_n, xb_I, xb_J, xb_V, xb_s, if_pos, if_neg, if_true, if_false, true_and, and_true, true_or, or_true, false_or, or_false, not_true, not_false_iff, zb_z, zb_o, zb_ft, tn_0, tn_1, tn_2, tn_3, tn_c, Int.reduceToNat, te_0, te_1, tk_0, tk_1, tk_m, ts_1, or_0, bp_f]
  split <;> rfl
theorem C_between {s a b : Int} (h0 : -1000 ≤ s ∧ s ≤ 1000) (h1 : -900 ≤ a ∧ a ≤ 900) (h2 : -900 ≤ b ∧ b ≤ 900) : E_X8_between S (zi s) (zi a) (zi b) m = some (some (.int (beV s a b)), m) := by
  unfold E_X8_between beV
  simp (disch := omega) only [zi_f, zi_0, zi_1, zi_31, zi_all, zi_8, zi_16, zi_add, zi_sub, zi_mul, zi_neg, zi_lt, zi_le, zi_eq, zi_div, zi_t, zi_n, xb_I, xb_J, xb_V, xb_s, if_pos, if_neg, if_true, if_false, true_and, and_true, true_or, or_true, false_or, or_false, not_true, not_false_iff, zb_z, zb_o, zb_ft, tn_0, tn_1, tn_2, tn_3, tn_c, Int.reduceToNat, te_0, te_1, tk_0, tk_1, tk_m, ts_1, or_0, bp_f, C_span]
  split <;> rfl
theorem C_reached (hs : ShR S c) (hf : RF m c w) (hb : Bd w) (hi : i < pN w) : E_X6_reached S c (zi i) m = some (some (.int (rmV w i)), m) := by
  have hn := hb.n
  have hq := hb.2.2.2.2 i (by omega)
  have hc2 := reachP_b2 (k := w (10 + 4 * i)) (s := w (13 + 4 * i)) (by omega)
  have hx := C_reach4 (S := S) (m := m) (k := w (10 + 4 * i)) (s := w (13 + 4 * i)) (by omega) (by omega)
  unfold rmV
  generalize reachP (w (10 + 4 * i)) (w (13 + 4 * i)) = r at *
  have a1 := maxP_b 0 (w (12 + 4 * i) - r)
  have a2 := minP_b 20 (w (12 + 4 * i) + r)
  obtain ⟨s0, s5, s6, s7, s8, s9, s10, s11, s12, s13, k1, k2, k3, k4, k5, k6, k7, k8, k9, l1, l2, l3, l4, l5, l6, l7, l8, l9⟩ := hs
  obtain ⟨f0, f1, f2, f3, fc, fg, fk, fs, fp, ft⟩ := hf
  unfold E_X6_reached
  simp (disch := omega) only [zi_f, zi_0, zi_1, zi_31, zi_all, zi_8, zi_16, zi_add, zi_sub, zi_mul, zi_neg, zi_lt, zi_le, zi_eq, zi_div, zi_t, zi_n, xb_I, xb_J, xb_V, xb_s, if_pos, if_neg, if_true, if_false, true_and, and_true, true_or, or_true, false_or, or_false, not_true, not_false_iff, zb_z, zb_o, zb_ft, tn_0, tn_1, tn_2, tn_3, tn_c, Int.reduceToNat, te_0, te_1, tk_0, tk_1, tk_m, ts_1, or_0, bp_f, s0, s5, s6, s7, s8, s9, s10, s11, s12, s13, k1, k2, k3, k4, k5, k6, k7, k8, k9, l1, l2, l3, l4, l5, l6, l7, l8, l9, f0, f1, f2, f3, fc, fg, fk, fs, fp, ft, hx]
  by_cases h : r = -9
  · rw [if_pos h, if_pos h]
  · have e1 := C_max S 0 (w (12 + 4 * i) - r) m (by omega) (by omega) (by omega) (by omega)
    have e2 := C_min S 20 (w (12 + 4 * i) + r) m (by omega) (by omega) (by omega) (by omega)
    have e3 := C_span (S := S) (m := m) (a := maxP 0 (w (12 + 4 * i) - r)) (b := minP 20 (w (12 + 4 * i) + r)) (by omega) (by omega)
    rw [if_neg h, if_neg h, e1, xb_I, fp i hi, zi_add, e2, xb_I, e3, xb_I]
theorem C_openPlaces (hs : ShR S c) (hf : RF m c w) (hb : Bd w) {e : Int} (he : -1000 ≤ e ∧ e ≤ 1000) : E_X6_openPlaces S c (zi e) m = some (some (.int (opV w e (pN w))), m) := by
  have hn := hb.n
  have hre := fun (j : Nat) (hj : j < pN w) => C_reached hs hf hb hj
  obtain ⟨s0, s5, s6, s7, s8, s9, s10, s11, s12, s13, k1, k2, k3, k4, k5, k6, k7, k8, k9, l1, l2, l3, l4, l5, l6, l7, l8, l9⟩ := hs
  obtain ⟨f0, f1, f2, f3, fc, fg, fk, fs, fp, ft⟩ := hf
  unfold E_X6_openPlaces
  refine lp_all (fun n j => G_X6_openPlaces_5 S n c (zi e) (opV w e j) (zi j) m) (pN w) 10000 (fun j n hj => ?_) (fun n => ?_) (by omega)
  · have hq := hb.2.2.2.2 j (by omega)
    simp only [G_X6_openPlaces_5]
    simp (disch := omega) only [zi_f, zi_0, zi_1, zi_31, zi_all, zi_8, zi_16, zi_add, zi_sub, zi_mul, zi_neg, zi_lt, zi_le, zi_eq, zi_div, zi_t, zi_n, xb_I, xb_J, xb_V, xb_s, if_pos, if_neg, if_true, if_false, true_and, and_true, true_or, or_true, false_or, or_false, not_true, not_false_iff, zb_z, zb_o, zb_ft, tn_0, tn_1, tn_2, tn_3, tn_c, Int.reduceToNat, te_0, te_1, tk_0, tk_1, tk_m, ts_1, or_0, bp_f, s0, s5, s6, s7, s8, s9, s10, s11, s12, s13, k1, k2, k3, k4, k5, k6, k7, k8, k9, l1, l2, l3, l4, l5, l6, l7, l8, l9, f0, f1, f2, f3, fc, fg, fk, fs, fp, ft, hre, hn.1]
    rw [show opV w e (j + 1) = (if w (11 + 4 * j) = e then opV w e j &&& (rmV w j ^^^ zi (-1)) else opV w e j) from rfl]
    split <;> rfl
  · simp only [G_X6_openPlaces_5]
    simp (disch := omega) only [zi_f, zi_0, zi_1, zi_31, zi_all, zi_8, zi_16, zi_add, zi_sub, zi_mul, zi_neg, zi_lt, zi_le, zi_eq, zi_div, zi_t, zi_n, xb_I, xb_J, xb_V, xb_s, if_pos, if_neg, if_true, if_false, true_and, and_true, true_or, or_true, false_or, or_false, not_true, not_false_iff, zb_z, zb_o, zb_ft, tn_0, tn_1, tn_2, tn_3, tn_c, Int.reduceToNat, te_0, te_1, tk_0, tk_1, tk_m, ts_1, or_0, bp_f, s0, s5, s6, s7, s8, s9, s10, s11, s12, s13, k1, k2, k3, k4, k5, k6, k7, k8, k9, l1, l2, l3, l4, l5, l6, l7, l8, l9, f0, f1, f2, f3, fc, fg, fk, fs, fp, ft, hn.1]
theorem C_inPlaces (hs : ShR S c) (hf : RF m c w) (hb : Bd w) (hc : Cd w) {e : Nat} (he : e < 2) : E_X6_inPlaces S c (zi e) m = some (some (.int (inV w e)), m) := by
  have ho := C_openPlaces hs hf hb (e := (e : Int)) (by omega)
  have h0 := hb.1
  have h1 := hc e he
  have hB := C_between (S := S) (m := m) (s := w 0) (a := w (6 + 2 * e)) (b := w (7 + 2 * e)) (by omega) (by omega) (by omega)
  obtain ⟨s0, s5, s6, s7, s8, s9, s10, s11, s12, s13, k1, k2, k3, k4, k5, k6, k7, k8, k9, l1, l2, l3, l4, l5, l6, l7, l8, l9⟩ := hs
  obtain ⟨f0, f1, f2, f3, fc, fg, fk, fs, fp, ft⟩ := hf
  have e1 : m.1 (c + 1) (2 * (e : Int)).toNat = zi (w (6 + 2 * e)) := by rw [show (2 * (e : Int)).toNat = 2 * e by omega]; exact fc (2 * e) (by omega)
  have e2 : m.1 (c + 1) (2 * (e : Int) + 1).toNat = zi (w (7 + 2 * e)) := by rw [show (2 * (e : Int) + 1).toNat = 2 * e + 1 by omega, fc (2 * e + 1) (by omega), show 6 + (2 * e + 1) = 7 + 2 * e by omega]
  unfold E_X6_inPlaces
  simp (disch := omega) only [zi_f, zi_0, zi_1, zi_31, zi_all, zi_8, zi_16, zi_add, zi_sub, zi_mul, zi_neg, zi_lt, zi_le, zi_eq, zi_div, zi_t, zi_n, xb_I, xb_J, xb_V, xb_s, if_pos, if_neg, if_true, if_false, true_and, and_true, true_or, or_true, false_or, or_false, not_true, not_false_iff, zb_z, zb_o, zb_ft, tn_0, tn_1, tn_2, tn_3, tn_c, Int.reduceToNat, te_0, te_1, tk_0, tk_1, tk_m, ts_1, or_0, bp_f, s0, s5, s6, s7, s8, s9, s10, s11, s12, s13, k1, k2, k3, k4, k5, k6, k7, k8, k9, l1, l2, l3, l4, l5, l6, l7, l8, l9, f0, e1, e2, hB, ho]
  rfl
theorem C_ballBit (hs : ShR S c) (hf : RF m c w) (hb : Bd w) (hi : i < pN w) {f : Int} (h3 : 0 ≤ f ∧ f ≤ 100) : E_X6_ballBit S c (zi i) (zi f) m = some (some (.int (bbV w i f)), m) := by
  have hx := C_landing hs hf hb hi
  have hB := ballP_b w i
  have a1 := minP_b 20 (ballP w i + f)
  have hg := hs.1
  unfold E_X6_ballBit
  simp (disch := omega) only [zi_f, zi_0, zi_1, zi_31, zi_all, zi_8, zi_16, zi_add, zi_sub, zi_mul, zi_neg, zi_lt, zi_le, zi_eq, zi_div, zi_t, zi_n, xb_I, xb_J, xb_V, xb_s, if_pos, if_neg, if_true, if_false, true_and, and_true, true_or, or_true, false_or, or_false, not_true, not_false_iff, zb_z, zb_o, zb_ft, tn_0, tn_1, tn_2, tn_3, tn_c, Int.reduceToNat, te_0, te_1, tk_0, tk_1, tk_m, ts_1, or_0, bp_f, hg, hx, C_min]
  unfold bbV bitP
  split
  · rw [show ((minP 20 (ballP w i + f)).toNat : Int) = minP 20 (ballP w i + f) by omega]
  · rfl
end
