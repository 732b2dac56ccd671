/-! told fractions; sets, surely -/
theorem fo_f {α : Type} (g : α → α) (a : α) : ∀ n, fo (fun _ x => g x) a (n + 1) = fo (fun _ x => g x) (g a) n := by
  intro n
  induction n with
  | zero => rfl
  | succ n ih => rw [fo_s, ih]; rfl
def euS (a b : Int) : Nat → Int × Int := fo (fun _ s => (s.2, s.1 % s.2)) (a, b)
theorem eu_f (a b : Int) (n : Nat) : euS a b (n + 1) = euS b (a % b) n := fo_f (fun s : Int × Int => (s.2, s.1 % s.2)) (a, b) n
theorem eu_s (a b : Int) (n : Nat) : euS a b (n + 1) = ((euS a b n).2, (euS a b n).1 % (euS a b n).2) := rfl
/-- Euclid's way ends soon -/
theorem eu_end : ∀ k : Nat, ∀ a b : Int, 0 ≤ a → 0 ≤ b → b < 2 ^ k → ∃ e, e ≤ 2 * k ∧ (euS a b e).2 = 0 ∧ ∀ j, j < e → (euS a b j).2 ≠ 0 := by
  intro k
  induction k with
  | zero =>
    intro a b h0 h1 h2
    refine ⟨0, by omega, ?_, fun j hj => absurd hj (by omega)⟩
    show b = 0
    have : (2 : Int) ^ 0 = 1 := rfl
    omega
  | succ k ih =>
    intro a b h0 h1 h2
    by_cases hb : b = 0
    · exact ⟨0, by omega, hb, fun j hj => absurd hj (by omega)⟩
    · have m0 := Int.emod_nonneg a hb
      have m1 := Int.emod_lt_of_pos a (show 0 < b by omega)
      by_cases hc : a % b = 0
      · refine ⟨1, by omega, hc, fun j hj => ?_⟩
        have : j = 0 := by omega
        subst this
        exact hb
      · have n0 := Int.emod_nonneg b hc
        have n1 := Int.emod_lt_of_pos b (show 0 < a % b by omega)
        have n2 : 2 * (b % (a % b)) < b := by
          have hd := Int.mul_ediv_add_emod b (a % b)
          have hq : 1 ≤ b / (a % b) := by
            rcases Int.lt_or_le (b / (a % b)) 1 with h | h
            · have h5 : (a % b) * (b / (a % b)) ≤ 0 := by
                have : b / (a % b) ≤ 0 := by omega
                exact Int.mul_nonpos_of_nonneg_of_nonpos (by omega) this
              omega
            · exact h
          have h6 : (a % b) * 1 ≤ (a % b) * (b / (a % b)) := Int.mul_le_mul_of_nonneg_left hq (by omega)
          omega
        have hp : (2 : Int) ^ (k + 1) = 2 * 2 ^ k := by rw [Int.pow_succ, Int.mul_comm]
        obtain ⟨e, e1, e2, e3⟩ := ih (a % b) (b % (a % b)) (by omega) n0 (by omega)
        refine ⟨e + 2, by omega, by rw [eu_f, eu_f]; exact e2, fun j hj => ?_⟩
        match j, hj with
        | 0, _ => exact hb
        | 1, _ => exact hc
        | j + 2, hj => rw [eu_f, eu_f]; exact e3 j (by omega)
theorem eu_b {a b : Int} (h0 : 0 ≤ a) (h1 : 0 ≤ b) {M : Int} (ha : a < M) (hb : b < M) : ∀ n, (∀ j, j < n → (euS a b j).2 ≠ 0) → 0 ≤ (euS a b n).1 ∧ (euS a b n).1 < M ∧ 0 ≤ (euS a b n).2 ∧ (euS a b n).2 < M := by
  intro n
  induction n with
  | zero => exact fun _ => ⟨h0, ha, h1, hb⟩
  | succ n ih =>
    intro h
    have q := ih (fun j hj => h j (by omega))
    have hn := h n (by omega)
    rw [eu_s]
    have m0 := Int.emod_nonneg (euS a b n).1 hn
    have m1 := Int.emod_lt_of_pos (euS a b n).1 (show 0 < (euS a b n).2 by omega)
    exact ⟨q.2.2.1, q.2.2.2, m0, by omega⟩
theorem cmp_0 {a : Int} (h1 : 0 < a) (h2 : a < 9223372036854775808) : lg_cmp (zj a) (zj 0) = zi 1 := by
  unfold lg_cmp
  simp (disch := omega) only [gt_iff_lt, zj_lt, if_pos]
  rfl
theorem cmp_1 : lg_cmp (zj 0) (zj 0) = zi 0 := by decide
/-- where a fraction's greatest common part is found -/
theorem eu_g (u l : Int) (hu : 0 ≤ u) (hl : 0 < l) (hu2 : u < 2 ^ 60) (hl2 : l < 2 ^ 60) : ∃ e, e ≤ 120 ∧ 1 ≤ e ∧ (euS u l e).2 = 0 ∧ (∀ j, j < e → (euS u l j).2 ≠ 0) ∧ 0 < (euS u l e).1 ∧ (euS u l e).1 < 2 ^ 60 ∧ ∀ j, j ≤ e → 0 ≤ (euS u l j).1 ∧ (euS u l j).1 < 2 ^ 60 ∧ 0 ≤ (euS u l j).2 ∧ (euS u l j).2 < 2 ^ 60 := by
  obtain ⟨e, e1, e2, e3⟩ := eu_end 60 u l hu (by omega) hl2
  have hb := fun j (hj : j ≤ e) => eu_b hu (show 0 ≤ l by omega) hu2 hl2 j (fun i hi => e3 i (by omega))
  have he : 1 ≤ e := by
    rcases Nat.eq_zero_or_pos e with h | h
    · subst h; exact absurd e2 (show l ≠ 0 by omega)
    · exact h
  have hbe := hb e (Nat.le_refl e)
  refine ⟨e, by omega, he, e2, e3, ?_, hbe.2.1, hb⟩
  obtain ⟨d, rfl⟩ : ∃ d, e = d + 1 := ⟨e - 1, by omega⟩
  have hd := e3 d (by omega)
  have hq := (hb d (by omega)).2.2.1
  rw [eu_s]
  show 0 < (euS u l d).2
  omega
section
variable {S : xi_S} {m : xi_M} {w : Nat → Int}
theorem C_tell (hT : ShT S) {u l : Int} {e : Nat} (he : e ≤ 120) (e2 : (euS u l e).2 = 0) (e3 : ∀ j, j < e → (euS u l j).2 ≠ 0) (hg : 0 < (euS u l e).1) (hg2 : (euS u l e).1 < 2 ^ 60) (hb : ∀ j, j ≤ e → 0 ≤ (euS u l j).1 ∧ (euS u l j).1 < 2 ^ 60 ∧ 0 ≤ (euS u l j).2 ∧ (euS u l j).2 < 2 ^ 60) (hu : 0 ≤ u) (hl : 0 ≤ l) (hu2 : u < 2 ^ 60) (hl2 : l < 2 ^ 60) : E_X8_tell S 0 (zj u) (zj l) m = some (none, xi_wJ (xi_wJ m 0 12 (zj (u / (euS u l e).1))) 0 13 (zj (l / (euS u l e).1))) := by
  have p60 : (2 : Int) ^ 60 = 1152921504606846976 := by decide
  rw [p60] at *
  unfold E_X8_tell
  refine lp_all (fun q j => G_X8_tell_9 S q 0 (zj u) (zj l) (zj (euS u l j).1) (zj (euS u l j).2) (zi j) m) e 10000 (fun j q hj => ?_) (fun q => ?_) (by omega)
  · have h1 := e3 j hj
    have h2 := hb j (by omega)
    have hc := cmp_0 (a := (euS u l j).2) (by omega) (by omega)
    simp only [G_X8_tell_9]
    rw [eu_s]
    generalize (euS u l j).1 = x at *
    generalize (euS u l j).2 = y at *
    repeat (first | (with_reducible refine (if_pos ?_).trans ?_; focus (simp (disch := omega) only [zi_f, zi_0, zi_1, zi_31, zi_all, zi_8, zi_16, zi_add, zi_sub, zi_mul, zi_neg, zi_lt, zi_le, zi_eq, zi_div, zi_t, zi_n, xb_I, xb_J, xb_V, xb_s, if_pos, if_neg, if_true, if_false, true_and, and_true, true_or, or_true, false_or, or_false, not_true, not_false_iff, zb_z, zb_o, zb_ft, tn_0, tn_1, tn_2, tn_3, tn_c, Int.reduceToNat, te_0, te_1, tk_0, tk_1, tk_m, ts_1, or_0, bp_f, zj_n0, zj_0, zj_eq, zj_div, zj_mul, zj_sub, ed_m, hc] <;> omega)) | (with_reducible refine (if_neg ?_).trans ?_; focus (simp (disch := omega) only [zi_f, zi_0, zi_1, zi_31, zi_all, zi_8, zi_16, zi_add, zi_sub, zi_mul, zi_neg, zi_lt, zi_le, zi_eq, zi_div, zi_t, zi_n, xb_I, xb_J, xb_V, xb_s, if_pos, if_neg, if_true, if_false, true_and, and_true, true_or, or_true, false_or, or_false, not_true, not_false_iff, zb_z, zb_o, zb_ft, tn_0, tn_1, tn_2, tn_3, tn_c, Int.reduceToNat, te_0, te_1, tk_0, tk_1, tk_m, ts_1, or_0, bp_f, zj_n0, zj_0, zj_eq, zj_div, zj_mul, zj_sub, ed_m, hc] <;> omega)) | ((conv => lhs; arg 1; simp (disch := omega) only [zi_f, zi_0, zi_1, zi_31, zi_all, zi_8, zi_16, zi_add, zi_sub, zi_mul, zi_neg, zi_lt, zi_le, zi_eq, zi_div, zi_t, zi_n, xb_I, xb_J, xb_V, xb_s, if_pos, if_neg, if_true, if_false, true_and, and_true, true_or, or_true, false_or, or_false, not_true, not_false_iff, zb_z, zb_o, zb_ft, tn_0, tn_1, tn_2, tn_3, tn_c, Int.reduceToNat, te_0, te_1, tk_0, tk_1, tk_m, ts_1, or_0, bp_f, zj_n0, zj_0, zj_eq, zj_div, zj_mul, zj_sub, ed_m, hc]); first | with_reducible refine xb_I.trans ?_ | with_reducible refine xb_V.trans ?_ | with_reducible refine xb_J.trans ?_ | with_reducible refine xb_s.trans ?_))
    first | (simp (disch := omega) only [zi_f, zi_0, zi_1, zi_31, zi_all, zi_8, zi_16, zi_add, zi_sub, zi_mul, zi_neg, zi_lt, zi_le, zi_eq, zi_div, zi_t, zi_n, xb_I, xb_J, xb_V, xb_s, if_pos, if_neg, if_true, if_false, true_and, and_true, true_or, or_true, false_or, or_false, not_true, not_false_iff, zb_z, zb_o, zb_ft, tn_0, tn_1, tn_2, tn_3, tn_c, Int.reduceToNat, te_0, te_1, tk_0, tk_1, tk_m, ts_1, or_0, bp_f, vI, zj_n0, zj_0, zj_eq, zj_div, zj_mul, zj_sub, ed_m, hc]; done) | rfl | (simp (disch := omega) only [zi_f, zi_0, zi_1, zi_31, zi_all, zi_8, zi_16, zi_add, zi_sub, zi_mul, zi_neg, zi_lt, zi_le, zi_eq, zi_div, zi_t, zi_n, xb_I, xb_J, xb_V, xb_s, if_pos, if_neg, if_true, if_false, true_and, and_true, true_or, or_true, false_or, or_false, not_true, not_false_iff, zb_z, zb_o, zb_ft, tn_0, tn_1, tn_2, tn_3, tn_c, Int.reduceToNat, te_0, te_1, tk_0, tk_1, tk_m, ts_1, or_0, bp_f, vI, zj_n0, zj_0, zj_eq, zj_div, zj_mul, zj_sub, ed_m, hc]; rfl)
  · have hc := cmp_0 (a := (euS u l e).1) (by omega) (by omega)
    simp only [G_X8_tell_9]
    rw [e2]
    generalize (euS u l e).1 = x at *
    repeat (first | (with_reducible refine (if_pos ?_).trans ?_; focus (simp (disch := omega) only [zi_f, zi_0, zi_1, zi_31, zi_all, zi_8, zi_16, zi_add, zi_sub, zi_mul, zi_neg, zi_lt, zi_le, zi_eq, zi_div, zi_t, zi_n, xb_I, xb_J, xb_V, xb_s, if_pos, if_neg, if_true, if_false, true_and, and_true, true_or, or_true, false_or, or_false, not_true, not_false_iff, zb_z, zb_o, zb_ft, tn_0, tn_1, tn_2, tn_3, tn_c, Int.reduceToNat, te_0, te_1, tk_0, tk_1, tk_m, ts_1, or_0, bp_f, zj_n0, zj_0, zj_eq, zj_div, zj_mul, zj_sub, ed_m, hc, cmp_1, sT_t0 hT] <;> omega)) | (with_reducible refine (if_neg ?_).trans ?_; focus (simp (disch := omega) only [zi_f, zi_0, zi_1, zi_31, zi_all, zi_8, zi_16, zi_add, zi_sub, zi_mul, zi_neg, zi_lt, zi_le, zi_eq, zi_div, zi_t, zi_n, xb_I, xb_J, xb_V, xb_s, if_pos, if_neg, if_true, if_false, true_and, and_true, true_or, or_true, false_or, or_false, not_true, not_false_iff, zb_z, zb_o, zb_ft, tn_0, tn_1, tn_2, tn_3, tn_c, Int.reduceToNat, te_0, te_1, tk_0, tk_1, tk_m, ts_1, or_0, bp_f, zj_n0, zj_0, zj_eq, zj_div, zj_mul, zj_sub, ed_m, hc, cmp_1, sT_t0 hT] <;> omega)) | ((conv => lhs; arg 1; simp (disch := omega) only [zi_f, zi_0, zi_1, zi_31, zi_all, zi_8, zi_16, zi_add, zi_sub, zi_mul, zi_neg, zi_lt, zi_le, zi_eq, zi_div, zi_t, zi_n, xb_I, xb_J, xb_V, xb_s, if_pos, if_neg, if_true, if_false, true_and, and_true, true_or, or_true, false_or, or_false, not_true, not_false_iff, zb_z, zb_o, zb_ft, tn_0, tn_1, tn_2, tn_3, tn_c, Int.reduceToNat, te_0, te_1, tk_0, tk_1, tk_m, ts_1, or_0, bp_f, zj_n0, zj_0, zj_eq, zj_div, zj_mul, zj_sub, ed_m, hc, cmp_1, sT_t0 hT]); first | with_reducible refine xb_I.trans ?_ | with_reducible refine xb_V.trans ?_ | with_reducible refine xb_J.trans ?_ | with_reducible refine xb_s.trans ?_))
    first | (simp (disch := omega) only [zi_f, zi_0, zi_1, zi_31, zi_all, zi_8, zi_16, zi_add, zi_sub, zi_mul, zi_neg, zi_lt, zi_le, zi_eq, zi_div, zi_t, zi_n, xb_I, xb_J, xb_V, xb_s, if_pos, if_neg, if_true, if_false, true_and, and_true, true_or, or_true, false_or, or_false, not_true, not_false_iff, zb_z, zb_o, zb_ft, tn_0, tn_1, tn_2, tn_3, tn_c, Int.reduceToNat, te_0, te_1, tk_0, tk_1, tk_m, ts_1, or_0, bp_f, vI, zj_n0, zj_0, zj_eq, zj_div, zj_mul, zj_sub, ed_m, hc, cmp_1, sT_t0 hT]; done) | rfl | (simp (disch := omega) only [zi_f, zi_0, zi_1, zi_31, zi_all, zi_8, zi_16, zi_add, zi_sub, zi_mul, zi_neg, zi_lt, zi_le, zi_eq, zi_div, zi_t, zi_n, xb_I, xb_J, xb_V, xb_s, if_pos, if_neg, if_true, if_false, true_and, and_true, true_or, or_true, false_or, or_false, not_true, not_false_iff, zb_z, zb_o, zb_ft, tn_0, tn_1, tn_2, tn_3, tn_c, Int.reduceToNat, te_0, te_1, tk_0, tk_1, tk_m, ts_1, or_0, bp_f, vI, zj_n0, zj_0, zj_eq, zj_div, zj_mul, zj_sub, ed_m, hc, cmp_1, sT_t0 hT]; rfl)
theorem M_told (hX : ShX S) {u l : Int} {e : Nat} (he : e ≤ 120) (e2 : (euS u l e).2 = 0) (e3 : ∀ j, j < e → (euS u l j).2 ≠ 0) (hg : 0 < (euS u l e).1) (hg2 : (euS u l e).1 < 2 ^ 60) (hb : ∀ j, j ≤ e → 0 ≤ (euS u l j).1 ∧ (euS u l j).1 < 2 ^ 60 ∧ 0 ≤ (euS u l j).2 ∧ (euS u l j).2 < 2 ^ 60) (hu : 0 ≤ u) (hl : 0 ≤ l) (hu2 : u < 2 ^ 60) (hl2 : l < 2 ^ 60) : E_X9_told S 15 (zj u) (zj l) m = some (some (.int (zi 1)), xi_wJ (xi_wJ m 15 16 (zj (u / (euS u l e).1))) 15 17 (zj (l / (euS u l e).1))) := by
  have p60 : (2 : Int) ^ 60 = 1152921504606846976 := by decide
  rw [p60] at *
  unfold E_X9_told
  refine lp_all (fun q j => G_X9_told_6 S q 15 (zj u) (zj l) (zj (euS u l j).1) (zj (euS u l j).2) m) e 10000 (fun j q hj => ?_) (fun q => ?_) (by omega)
  · have h1 := e3 j hj
    have h2 := hb j (by omega)
    have hc := cmp_0 (a := (euS u l j).2) (by omega) (by omega)
    simp only [G_X9_told_6]
    rw [eu_s]
    generalize (euS u l j).1 = x at *
    generalize (euS u l j).2 = y at *
    repeat (first | (with_reducible refine (if_pos ?_).trans ?_; focus (simp (disch := omega) only [zi_f, zi_0, zi_1, zi_31, zi_all, zi_8, zi_16, zi_add, zi_sub, zi_mul, zi_neg, zi_lt, zi_le, zi_eq, zi_div, zi_t, zi_n, xb_I, xb_J, xb_V, xb_s, if_pos, if_neg, if_true, if_false, true_and, and_true, true_or, or_true, false_or, or_false, not_true, not_false_iff, zb_z, zb_o, zb_ft, tn_0, tn_1, tn_2, tn_3, tn_c, Int.reduceToNat, te_0, te_1, tk_0, tk_1, tk_m, ts_1, or_0, bp_f, zj_n0, zj_0, zj_eq, zj_div, zj_mul, zj_sub, ed_m, hc] <;> omega)) | (with_reducible refine (if_neg ?_).trans ?_; focus (simp (disch := omega) only [zi_f, zi_0, zi_1, zi_31, zi_all, zi_8, zi_16, zi_add, zi_sub, zi_mul, zi_neg, zi_lt, zi_le, zi_eq, zi_div, zi_t, zi_n, xb_I, xb_J, xb_V, xb_s, if_pos, if_neg, if_true, if_false, true_and, and_true, true_or, or_true, false_or, or_false, not_true, not_false_iff, zb_z, zb_o, zb_ft, tn_0, tn_1, tn_2, tn_3, tn_c, Int.reduceToNat, te_0, te_1, tk_0, tk_1, tk_m, ts_1, or_0, bp_f, zj_n0, zj_0, zj_eq, zj_div, zj_mul, zj_sub, ed_m, hc] <;> omega)) | ((conv => lhs; arg 1; simp (disch := omega) only [zi_f, zi_0, zi_1, zi_31, zi_all, zi_8, zi_16, zi_add, zi_sub, zi_mul, zi_neg, zi_lt, zi_le, zi_eq, zi_div, zi_t, zi_n, xb_I, xb_J, xb_V, xb_s, if_pos, if_neg, if_true, if_false, true_and, and_true, true_or, or_true, false_or, or_false, not_true, not_false_iff, zb_z, zb_o, zb_ft, tn_0, tn_1, tn_2, tn_3, tn_c, Int.reduceToNat, te_0, te_1, tk_0, tk_1, tk_m, ts_1, or_0, bp_f, zj_n0, zj_0, zj_eq, zj_div, zj_mul, zj_sub, ed_m, hc]); first | with_reducible refine xb_I.trans ?_ | with_reducible refine xb_V.trans ?_ | with_reducible refine xb_J.trans ?_ | with_reducible refine xb_s.trans ?_))
    first | (simp (disch := omega) only [zi_f, zi_0, zi_1, zi_31, zi_all, zi_8, zi_16, zi_add, zi_sub, zi_mul, zi_neg, zi_lt, zi_le, zi_eq, zi_div, zi_t, zi_n, xb_I, xb_J, xb_V, xb_s, if_pos, if_neg, if_true, if_false, true_and, and_true, true_or, or_true, false_or, or_false, not_true, not_false_iff, zb_z, zb_o, zb_ft, tn_0, tn_1, tn_2, tn_3, tn_c, Int.reduceToNat, te_0, te_1, tk_0, tk_1, tk_m, ts_1, or_0, bp_f, vI, zj_n0, zj_0, zj_eq, zj_div, zj_mul, zj_sub, ed_m, hc]; done) | rfl | (simp (disch := omega) only [zi_f, zi_0, zi_1, zi_31, zi_all, zi_8, zi_16, zi_add, zi_sub, zi_mul, zi_neg, zi_lt, zi_le, zi_eq, zi_div, zi_t, zi_n, xb_I, xb_J, xb_V, xb_s, if_pos, if_neg, if_true, if_false, true_and, and_true, true_or, or_true, false_or, or_false, not_true, not_false_iff, zb_z, zb_o, zb_ft, tn_0, tn_1, tn_2, tn_3, tn_c, Int.reduceToNat, te_0, te_1, tk_0, tk_1, tk_m, ts_1, or_0, bp_f, vI, zj_n0, zj_0, zj_eq, zj_div, zj_mul, zj_sub, ed_m, hc]; rfl)
  · have hc := cmp_0 (a := (euS u l e).1) (by omega) (by omega)
    simp only [G_X9_told_6]
    rw [e2]
    generalize (euS u l e).1 = x at *
    repeat (first | (with_reducible refine (if_pos ?_).trans ?_; focus (simp (disch := omega) only [zi_f, zi_0, zi_1, zi_31, zi_all, zi_8, zi_16, zi_add, zi_sub, zi_mul, zi_neg, zi_lt, zi_le, zi_eq, zi_div, zi_t, zi_n, xb_I, xb_J, xb_V, xb_s, if_pos, if_neg, if_true, if_false, true_and, and_true, true_or, or_true, false_or, or_false, not_true, not_false_iff, zb_z, zb_o, zb_ft, tn_0, tn_1, tn_2, tn_3, tn_c, Int.reduceToNat, te_0, te_1, tk_0, tk_1, tk_m, ts_1, or_0, bp_f, zj_n0, zj_0, zj_eq, zj_div, zj_mul, zj_sub, ed_m, hc, cmp_1, sX_x0 hX] <;> omega)) | (with_reducible refine (if_neg ?_).trans ?_; focus (simp (disch := omega) only [zi_f, zi_0, zi_1, zi_31, zi_all, zi_8, zi_16, zi_add, zi_sub, zi_mul, zi_neg, zi_lt, zi_le, zi_eq, zi_div, zi_t, zi_n, xb_I, xb_J, xb_V, xb_s, if_pos, if_neg, if_true, if_false, true_and, and_true, true_or, or_true, false_or, or_false, not_true, not_false_iff, zb_z, zb_o, zb_ft, tn_0, tn_1, tn_2, tn_3, tn_c, Int.reduceToNat, te_0, te_1, tk_0, tk_1, tk_m, ts_1, or_0, bp_f, zj_n0, zj_0, zj_eq, zj_div, zj_mul, zj_sub, ed_m, hc, cmp_1, sX_x0 hX] <;> omega)) | ((conv => lhs; arg 1; simp (disch := omega) only [zi_f, zi_0, zi_1, zi_31, zi_all, zi_8, zi_16, zi_add, zi_sub, zi_mul, zi_neg, zi_lt, zi_le, zi_eq, zi_div, zi_t, zi_n, xb_I, xb_J, xb_V, xb_s, if_pos, if_neg, if_true, if_false, true_and, and_true, true_or, or_true, false_or, or_false, not_true, not_false_iff, zb_z, zb_o, zb_ft, tn_0, tn_1, tn_2, tn_3, tn_c, Int.reduceToNat, te_0, te_1, tk_0, tk_1, tk_m, ts_1, or_0, bp_f, zj_n0, zj_0, zj_eq, zj_div, zj_mul, zj_sub, ed_m, hc, cmp_1, sX_x0 hX]); first | with_reducible refine xb_I.trans ?_ | with_reducible refine xb_V.trans ?_ | with_reducible refine xb_J.trans ?_ | with_reducible refine xb_s.trans ?_))
    first | (simp (disch := omega) only [zi_f, zi_0, zi_1, zi_31, zi_all, zi_8, zi_16, zi_add, zi_sub, zi_mul, zi_neg, zi_lt, zi_le, zi_eq, zi_div, zi_t, zi_n, xb_I, xb_J, xb_V, xb_s, if_pos, if_neg, if_true, if_false, true_and, and_true, true_or, or_true, false_or, or_false, not_true, not_false_iff, zb_z, zb_o, zb_ft, tn_0, tn_1, tn_2, tn_3, tn_c, Int.reduceToNat, te_0, te_1, tk_0, tk_1, tk_m, ts_1, or_0, bp_f, vI, zj_n0, zj_0, zj_eq, zj_div, zj_mul, zj_sub, ed_m, hc, cmp_1, sX_x0 hX]; done) | rfl | (simp (disch := omega) only [zi_f, zi_0, zi_1, zi_31, zi_all, zi_8, zi_16, zi_add, zi_sub, zi_mul, zi_neg, zi_lt, zi_le, zi_eq, zi_div, zi_t, zi_n, xb_I, xb_J, xb_V, xb_s, if_pos, if_neg, if_true, if_false, true_and, and_true, true_or, or_true, false_or, or_false, not_true, not_false_iff, zb_z, zb_o, zb_ft, tn_0, tn_1, tn_2, tn_3, tn_c, Int.reduceToNat, te_0, te_1, tk_0, tk_1, tk_m, ts_1, or_0, bp_f, vI, zj_n0, zj_0, zj_eq, zj_div, zj_mul, zj_sub, ed_m, hc, cmp_1, sX_x0 hX]; rfl)
theorem C_tell1 (hT : ShT S) {u : Int} (hu : 0 ≤ u) (hu2 : u < 1000000) : E_X8_tell S 0 (zj u) (zj 1) m = some (none, xi_wJ (xi_wJ m 0 12 (zj u)) 0 13 (zj 1)) := by
  have e1 : euS u 1 1 = (1, u % 1) := rfl
  have h0 : u % 1 = 0 := by omega
  have p60 : (2 : Int) ^ 60 = 1152921504606846976 := by decide
  have k0 : ∀ j, j < 1 → (euS u 1 j).2 ≠ 0 := fun j hj => by
    have h9 : j = 0 := by omega
    subst h9
    exact (show (1 : Int) ≠ 0 by omega)
  have k1 : ∀ j, j ≤ 1 → 0 ≤ (euS u 1 j).1 ∧ (euS u 1 j).1 < 2 ^ 60 ∧ 0 ≤ (euS u 1 j).2 ∧ (euS u 1 j).2 < 2 ^ 60 := fun j hj => by
    rw [p60]
    have hj2 : j = 0 ∨ j = 1 := by omega
    rcases hj2 with r | r <;> subst r
    · exact (show 0 ≤ u ∧ u < 1152921504606846976 ∧ (0 : Int) ≤ 1 ∧ (1 : Int) < 1152921504606846976 by omega)
    · rw [e1]; exact (show (0 : Int) ≤ 1 ∧ (1 : Int) < 1152921504606846976 ∧ 0 ≤ u % 1 ∧ u % 1 < 1152921504606846976 by omega)
  have k2 : 0 < (euS u 1 1).1 := by rw [e1]; exact (show (0 : Int) < 1 by omega)
  have k3 : (euS u 1 1).1 < 2 ^ 60 := by rw [e1, p60]; exact (show (1 : Int) < 1152921504606846976 by omega)
  have h := C_tell (S := S) (m := m) hT (u := u) (l := 1) (e := 1) (by omega) (by rw [e1]; exact h0) k0 k2 k3 k1 hu (by omega) (by rw [p60]; omega) (by rw [p60]; omega)
  rw [e1] at h
  rw [h, show u / (1, u % 1).1 = u from Int.ediv_one u, show (1 : Int) / (1, u % 1).1 = 1 from rfl]
end
