/-! The reference's reading methods, further. -/
def ahP (w : Nat → Int) : Nat → Int := fo (fun i a => if scP w i then (if w (11 + 4 * i) = 0 then a + 1 else a + -1) else a) 0
def mvP (v : Nat → Int) (k : Nat) (n : Int) : Bool := decide (0 ≤ v k + n ∧ v k + n ≤ 20) && (if k % 2 = 0 then decide (v k + n < v (k + 1)) else decide (v (k - 1) < v k + n))
def seP (w : Nat → Int) (k i : Nat) : Bool := decide (w (11 + 4 * i) = (k / 2 : Int)) && decide (apP (w (12 + 4 * i)) (w (6 + k)) ≤ 3)
def coP (w : Nat → Int) : Nat → Int := fun k => w (6 + k)
theorem ah_b (w : Nat → Int) (n : Nat) : -(n : Int) ≤ ahP w n ∧ ahP w n ≤ n := fo_ind (P := fun k x => -(k : Int) ≤ x ∧ x ≤ (k : Int)) ⟨by omega, by omega⟩ (fun k x h => by
  show _ ≤ (if scP w k then (if w (11 + 4 * k) = 0 then x + 1 else x + -1) else x) ∧ _
  repeat' split
  all_goals omega) n
section
variable {S : xi_S} {m : xi_M} {c : Nat} {w : Nat → Int} {i : Nat}
theorem M_isWithin {s a b p : Int} (hs : -1000 ≤ s ∧ s ≤ 1000) (ha : -1000 ≤ a ∧ a ≤ 1000) (hb : -1000 ≤ b ∧ b ≤ 1000) (hp : -1000 ≤ p ∧ p ≤ 1000) : E_X9_isWithin S (zi s) (zi a) (zi b) (zi p) m = some (some (.int (zb (wiP s a b p))), m) := by
  unfold E_X9_isWithin
  simp (disch := omega) only [zi_f, zi_0, zi_1, zi_31, zi_all, zi_8, zi_16, zi_add, zi_sub, zi_mul, zi_neg, zi_lt, zi_le, zi_eq, zi_div, zi_t, zi_n, xb_I, xb_J, xb_V, xb_s, if_pos, if_neg, if_true, if_false, true_and, and_true, true_or, or_true, false_or, or_false, not_true, not_false_iff, zb_z, zb_o, zb_ft, tn_0, tn_1, tn_2, tn_3, tn_c, Int.reduceToNat, te_0, te_1, tk_0, tk_1, tk_m, ts_1, or_0, bp_f, M_in0]
  unfold wiP
  split <;> rfl
theorem M_isIn (hr : Row S m c w) (hb : Bd w) {e : Nat} (he : e < 2) {p : Int} (hp : -1000 ≤ p ∧ p ≤ 1000) : E_X9_isIn S c (zi e) (zi p) m = some (some (.int (zb (inP w e p))), m) := by
  have hk := M_isKept hr hb (e := (e : Int)) (p := p) (by omega) hp
  obtain ⟨r1, r2, r3⟩ := hr
  have h0 := hb.1
  have h1 := hb.2.2.2.1 (2 * e) (by omega)
  have h2 := hb.2.2.2.1 (2 * e + 1) (by omega)
  rw [show 6 + (2 * e + 1) = 7 + 2 * e by omega] at h2
  unfold E_X9_isIn
  simp (disch := omega) only [zi_f, zi_0, zi_1, zi_31, zi_all, zi_8, zi_16, zi_add, zi_sub, zi_mul, zi_neg, zi_lt, zi_le, zi_eq, zi_div, zi_t, zi_n, xb_I, xb_J, xb_V, xb_s, if_pos, if_neg, if_true, if_false, true_and, and_true, true_or, or_true, false_or, or_false, not_true, not_false_iff, zb_z, zb_o, zb_ft, tn_0, tn_1, tn_2, tn_3, tn_c, Int.reduceToNat, te_0, te_1, tk_0, tk_1, tk_m, ts_1, or_0, bp_f, r1, r2, r3, M_isWithin, hk]
  unfold inP
  cases wiP (w 0) (w (6 + 2 * e)) (w (7 + 2 * e)) p
  · rfl
  · cases kpP w e p (pN w)
    · rfl
    · rfl
theorem oe_i {x : Int} (h : 0 ≤ x ∧ x ≤ 1) : (oe x : Int) = 1 - x ∧ oe x < 2 := by
  unfold oe
  omega
theorem M_isScored (hr : Row S m c w) (hb : Bd w) (hi : i < 6) : E_X9_isScored S c (zi i) m = some (some (.int (zb (scP w i))), m) := by
  have hq := hb.2.2.2.2 i hi
  have ho := oe_i hq.2.1
  have hB := M_ball hr hb hi
  have hx := ballP_b w i
  have hI := M_isIn hr hb ho.2 (p := ballP w i) (by omega)
  obtain ⟨r1, r2, r3⟩ := hr
  unfold E_X9_isScored
  rw [hB]
  simp (disch := omega) only [zi_f, zi_0, zi_1, zi_31, zi_all, zi_8, zi_16, zi_add, zi_sub, zi_mul, zi_neg, zi_lt, zi_le, zi_eq, zi_div, zi_t, zi_n, xb_I, xb_J, xb_V, xb_s, if_pos, if_neg, if_true, if_false, true_and, and_true, true_or, or_true, false_or, or_false, not_true, not_false_iff, zb_z, zb_o, zb_ft, tn_0, tn_1, tn_2, tn_3, tn_c, Int.reduceToNat, te_0, te_1, tk_0, tk_1, tk_m, ts_1, or_0, bp_f, r1, r2, r3]
  rw [← ho.1, hI]
  simp (disch := omega) only [zi_f, zi_0, zi_1, zi_31, zi_all, zi_8, zi_16, zi_add, zi_sub, zi_mul, zi_neg, zi_lt, zi_le, zi_eq, zi_div, zi_t, zi_n, xb_I, xb_J, xb_V, xb_s, if_pos, if_neg, if_true, if_false, true_and, and_true, true_or, or_true, false_or, or_false, not_true, not_false_iff, zb_z, zb_o, zb_ft, tn_0, tn_1, tn_2, tn_3, tn_c, Int.reduceToNat, te_0, te_1, tk_0, tk_1, tk_m, ts_1, or_0, bp_f]
  unfold scP
  by_cases h : ballP w i = -9
  · rw [if_pos h, decide_eq_false (by omega)]
    rfl
  · rw [if_neg h, decide_eq_true (by omega)]
    cases inP w (oe (w (11 + 4 * i))) (ballP w i)
    · rfl
    · rfl
theorem M_scored (hr : Row S m c w) (hb : Bd w) : E_X9_scored S c m = some (some (.int (setP (scP w) (pN w))), m) := by
  have hn := hb.n
  have hre := fun (j : Nat) (hj : j < 6) => M_isScored hr hb hj
  obtain ⟨r1, r2, r3⟩ := hr
  unfold E_X9_scored
  refine lp_all (fun n j => G_X9_scored_4 S n c (setP (scP w) j) (zi j) m) (pN w) 10000 (fun j n hj => ?_) (fun n => ?_) (by omega)
  · simp only [G_X9_scored_4]
    simp (disch := omega) only [zi_f, zi_0, zi_1, zi_31, zi_all, zi_8, zi_16, zi_add, zi_sub, zi_mul, zi_neg, zi_lt, zi_le, zi_eq, zi_div, zi_t, zi_n, xb_I, xb_J, xb_V, xb_s, if_pos, if_neg, if_true, if_false, true_and, and_true, true_or, or_true, false_or, or_false, not_true, not_false_iff, zb_z, zb_o, zb_ft, tn_0, tn_1, tn_2, tn_3, tn_c, Int.reduceToNat, te_0, te_1, tk_0, tk_1, tk_m, ts_1, or_0, bp_f, r1, r2, r3, hre]
    rw [show setP (scP w) (j + 1) = (if scP w j then setP (scP w) j ||| bitP j else setP (scP w) j) from rfl]
    cases scP w j <;> rfl
  · simp only [G_X9_scored_4]
    simp (disch := omega) only [zi_f, zi_0, zi_1, zi_31, zi_all, zi_8, zi_16, zi_add, zi_sub, zi_mul, zi_neg, zi_lt, zi_le, zi_eq, zi_div, zi_t, zi_n, xb_I, xb_J, xb_V, xb_s, if_pos, if_neg, if_true, if_false, true_and, and_true, true_or, or_true, false_or, or_false, not_true, not_false_iff, zb_z, zb_o, zb_ft, tn_0, tn_1, tn_2, tn_3, tn_c, Int.reduceToNat, te_0, te_1, tk_0, tk_1, tk_m, ts_1, or_0, bp_f, r1, r2, r3, hn.1]
theorem M_ahead (hr : Row S m c w) (hb : Bd w) : E_X9_ahead S c m = some (some (.int (zi (ahP w (pN w)))), m) := by
  have hn := hb.n
  have hre := fun (j : Nat) (hj : j < 6) => M_isScored hr hb hj
  obtain ⟨r1, r2, r3⟩ := hr
  unfold E_X9_ahead
  refine lp_all (fun n j => G_X9_ahead_4 S n c (zi (ahP w j)) (zi j) m) (pN w) 10000 (fun j n hj => ?_) (fun n => ?_) (by omega)
  · have hq := hb.2.2.2.2 j (by omega)
    simp only [G_X9_ahead_4]
    simp (disch := omega) only [zi_f, zi_0, zi_1, zi_31, zi_all, zi_8, zi_16, zi_add, zi_sub, zi_mul, zi_neg, zi_lt, zi_le, zi_eq, zi_div, zi_t, zi_n, xb_I, xb_J, xb_V, xb_s, if_pos, if_neg, if_true, if_false, true_and, and_true, true_or, or_true, false_or, or_false, not_true, not_false_iff, zb_z, zb_o, zb_ft, tn_0, tn_1, tn_2, tn_3, tn_c, Int.reduceToNat, te_0, te_1, tk_0, tk_1, tk_m, ts_1, or_0, bp_f, r1, r2, r3, hre]
    rw [show ahP w (j + 1) = (if scP w j then (if w (11 + 4 * j) = 0 then ahP w j + 1 else ahP w j + -1) else ahP w j) from rfl, Int.add_zero]
    cases scP w j
    · rfl
    · by_cases h : w (11 + 4 * j) = 0
      · rw [if_neg (by decide), if_pos h, if_pos rfl, if_pos h]
      · rw [if_neg (by decide), if_neg h, if_pos rfl, if_neg h]
  · simp only [G_X9_ahead_4]
    simp (disch := omega) only [zi_f, zi_0, zi_1, zi_31, zi_all, zi_8, zi_16, zi_add, zi_sub, zi_mul, zi_neg, zi_lt, zi_le, zi_eq, zi_div, zi_t, zi_n, xb_I, xb_J, xb_V, xb_s, if_pos, if_neg, if_true, if_false, true_and, and_true, true_or, or_true, false_or, or_false, not_true, not_false_iff, zb_z, zb_o, zb_ft, tn_0, tn_1, tn_2, tn_3, tn_c, Int.reduceToNat, te_0, te_1, tk_0, tk_1, tk_m, ts_1, or_0, bp_f, r1, r2, r3, hn.1]
theorem M_mayMove (hr : Row S m c w) (hb : Bd w) {k : Nat} (hk : k < 4) {n : Int} (hn : -1000 ≤ n ∧ n ≤ 1000) : E_X9_mayMove S c (zi k) (zi n) m = some (some (.int (zb (mvP (coP w) k n))), m) := by
  obtain ⟨r1, r2, r3⟩ := hr
  have h1 := hb.2.2.2.1 k hk
  unfold E_X9_mayMove mvP coP
  by_cases hc : k % 2 = 0
  · have h2 := hb.2.2.2.1 (k + 1) (by omega)
    rw [if_pos hc]
    simp (disch := omega) only [zi_f, zi_0, zi_1, zi_31, zi_all, zi_8, zi_16, zi_add, zi_sub, zi_mul, zi_neg, zi_lt, zi_le, zi_eq, zi_div, zi_t, zi_n, xb_I, xb_J, xb_V, xb_s, if_pos, if_neg, if_true, if_false, true_and, and_true, true_or, or_true, false_or, or_false, not_true, not_false_iff, zb_z, zb_o, zb_ft, tn_0, tn_1, tn_2, tn_3, tn_c, Int.reduceToNat, te_0, te_1, tk_0, tk_1, tk_m, ts_1, or_0, bp_f, r1, r2, r3, M_in0]
    by_cases h3 : 0 ≤ w (6 + k) + n ∧ w (6 + k) + n ≤ 20
    · rw [decide_eq_true h3, if_neg (by decide)]
      by_cases h4 : w (6 + (k + 1)) ≤ w (6 + k) + n
      · rw [if_pos h4, decide_eq_false (by omega)]; rfl
      · rw [if_neg h4, decide_eq_true (by omega)]; rfl
    · rw [decide_eq_false h3, if_pos rfl]; rfl
  · have h2 := hb.2.2.2.1 (k - 1) (by omega)
    rw [if_neg hc]
    simp (disch := omega) only [zi_f, zi_0, zi_1, zi_31, zi_all, zi_8, zi_16, zi_add, zi_sub, zi_mul, zi_neg, zi_lt, zi_le, zi_eq, zi_div, zi_t, zi_n, xb_I, xb_J, xb_V, xb_s, if_pos, if_neg, if_true, if_false, true_and, and_true, true_or, or_true, false_or, or_false, not_true, not_false_iff, zb_z, zb_o, zb_ft, tn_0, tn_1, tn_2, tn_3, tn_c, Int.reduceToNat, te_0, te_1, tk_0, tk_1, tk_m, ts_1, or_0, bp_f, r1, r2, r3, M_in0]
    by_cases h3 : 0 ≤ w (6 + k) + n ∧ w (6 + k) + n ≤ 20
    · rw [decide_eq_true h3, if_neg (by decide)]
      by_cases h4 : w (6 + k) + n ≤ w (6 + (k - 1))
      · rw [if_pos h4, decide_eq_false (by omega)]; rfl
      · rw [if_neg h4, decide_eq_true (by omega)]; rfl
    · rw [decide_eq_false h3, if_pos rfl]; rfl
theorem M_seenBy (hr : Row S m c w) (hb : Bd w) {k : Nat} (hk : k < 4) : E_X9_seenBy S c (zi k) m = some (some (.int (setP (seP w k) (pN w))), m) := by
  have hn := hb.n
  obtain ⟨r1, r2, r3⟩ := hr
  have hc := hb.2.2.2.1 k hk
  unfold E_X9_seenBy
  refine lp_all (fun n j => G_X9_seenBy_4 S n c (zi k) (setP (seP w k) j) (zi j) m) (pN w) 10000 (fun j n hj => ?_) (fun n => ?_) (by omega)
  · have hq := hb.2.2.2.2 j (by omega)
    have ha := apP_b (a := w (12 + 4 * j)) (b := w (6 + k)) (by omega) (by omega)
    simp only [G_X9_seenBy_4]
    simp (disch := omega) only [zi_f, zi_0, zi_1, zi_31, zi_all, zi_8, zi_16, zi_add, zi_sub, zi_mul, zi_neg, zi_lt, zi_le, zi_eq, zi_div, zi_t, zi_n, xb_I, xb_J, xb_V, xb_s, if_pos, if_neg, if_true, if_false, true_and, and_true, true_or, or_true, false_or, or_false, not_true, not_false_iff, zb_z, zb_o, zb_ft, tn_0, tn_1, tn_2, tn_3, tn_c, Int.reduceToNat, te_0, te_1, tk_0, tk_1, tk_m, ts_1, or_0, bp_f, r1, r2, r3, M_apart]
    rw [show setP (seP w k) (j + 1) = (if seP w k j then setP (seP w k) j ||| bitP j else setP (seP w k) j) from rfl]
    unfold seP
    by_cases h : w (11 + 4 * j) = (k : Int) / 2
    · rw [if_pos h, decide_eq_true h]
      by_cases h2 : 3 < apP (w (12 + 4 * j)) (w (6 + k))
      · rw [if_pos h2, decide_eq_false (by omega)]; rfl
      · rw [if_neg h2, decide_eq_true (by omega)]; rfl
    · rw [if_neg h, decide_eq_false h]; rfl
  · simp only [G_X9_seenBy_4]
    simp (disch := omega) only [zi_f, zi_0, zi_1, zi_31, zi_all, zi_8, zi_16, zi_add, zi_sub, zi_mul, zi_neg, zi_lt, zi_le, zi_eq, zi_div, zi_t, zi_n, xb_I, xb_J, xb_V, xb_s, if_pos, if_neg, if_true, if_false, true_and, and_true, true_or, or_true, false_or, or_false, not_true, not_false_iff, zb_z, zb_o, zb_ft, tn_0, tn_1, tn_2, tn_3, tn_c, Int.reduceToNat, te_0, te_1, tk_0, tk_1, tk_m, ts_1, or_0, bp_f, r1, r2, r3, hn.1]
end
