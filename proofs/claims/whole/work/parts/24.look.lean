/-! Calls that look at the republic. -/
theorem z_0 {w : Nat → Int} (h : ∀ k, k < 34 → w k = 0) : Bd w := by
  have h0 := h 0 (by omega)
  have h1 := h 1 (by omega)
  have h3 := h 3 (by omega)
  refine ⟨by omega, by omega, by omega, fun k hk => ?_, fun i hi => ?_⟩
  · have := h (6 + k) (by omega); omega
  · have q1 := h (10 + 4 * i) (by omega)
    have q2 := h (11 + 4 * i) (by omega)
    have q3 := h (12 + 4 * i) (by omega)
    have q4 := h (13 + 4 * i) (by omega)
    omega
theorem OR_b {r : RR} (h : OR r) : Bd (r.2 r.1) := by
  rcases h.2 with ⟨e, h0⟩ | h1
  · rw [e]; exact z_0 h0
  · exact (h1 r.1 (Nat.le_refl _)).1
theorem OR_w {r : RR} (h : OR r) : (r.2 r.1 1 = 0 ∧ r.1 = 0 ∧ ∀ k, k < 34 → r.2 r.1 k = 0) ∨ Wk (r.2 r.1) := by
  rcases h.2 with ⟨e, h0⟩ | h1
  · rw [e]; exact Or.inl ⟨h0 1 (by omega), rfl, h0⟩
  · exact Or.inr (h1 r.1 (Nat.le_refl _))
theorem Wk.c {w : Nat → Int} {P : Prop} (h : (w 1 = 0 ∧ P) ∨ Wk w) (h1 : ¬ w 1 = 0) : Cd w := by
  rcases h with h | h
  · exact absurd h.1 h1
  · exact h.2.1
section
variable {S : xi_S} {m : xi_M} {w : Nat → Int}
theorem M_pt (hX : ShX S) {n i : Int} (g : m.1 21 1 = zi n) (h0 : 0 ≤ i) (h1 : i < n) (h2 : n ≤ 1000) : E_X9_isPlayer S 15 (zi i) m = some (some (.int (zi 1)), m) := by
  unfold E_X9_isPlayer
  simp (disch := omega) only [zi_f, zi_0, zi_1, zi_31, zi_all, zi_8, zi_16, zi_add, zi_sub, zi_mul, zi_neg, zi_lt, zi_le, zi_eq, zi_div, zi_t, zi_n, xb_I, xb_J, xb_V, xb_s, if_pos, if_neg, if_true, if_false, true_and, and_true, true_or, or_true, false_or, or_false, not_true, not_false_iff, zb_z, zb_o, zb_ft, tn_0, tn_1, tn_2, tn_3, tn_c, Int.reduceToNat, te_0, te_1, tk_0, tk_1, tk_m, ts_1, or_0, bp_f, sX_x0 hX, sX_xr0 hX, sX_xr1 hX, sX_xr2 hX, sX_xr3 hX, sX_xr4 hX, sX_xr5 hX, sX_xr6 hX, sX_xr7 hX, sX_xr8 hX, sX_xr9 hX, sX_xr10 hX, sX_xr11 hX, sX_xr12 hX, sX_xr13 hX, sX_xk0 hX, sX_xk1 hX, sX_xk2 hX, sX_xk3 hX, sX_xk4 hX, sX_xk5 hX, sX_xk6 hX, sX_xk7 hX, sX_xk8 hX, sX_xk9 hX, sX_xk10 hX, sX_xk11 hX, sX_xk12 hX, sX_xk13 hX, sX_xl0 hX, sX_xl1 hX, sX_xl2 hX, sX_xl3 hX, sX_xl4 hX, sX_xl5 hX, sX_xl6 hX, sX_xl7 hX, sX_xl8 hX, sX_xl9 hX, sX_xl10 hX, sX_xl11 hX, sX_xl12 hX, sX_xl13 hX, g, M_it]
theorem M_pf (hX : ShX S) {n i : Int} (g : m.1 21 1 = zi n) (h : ¬ (0 ≤ i ∧ i < n)) (h1 : -2147483648 ≤ i) (h2 : i < 2147483648) (h3 : 0 ≤ n) (h4 : n ≤ 1000) : E_X9_isPlayer S 15 (zi i) m = some (some (.int (zi 0)), m) := by
  unfold E_X9_isPlayer
  simp (disch := omega) only [zi_f, zi_0, zi_1, zi_31, zi_all, zi_8, zi_16, zi_add, zi_sub, zi_mul, zi_neg, zi_lt, zi_le, zi_eq, zi_div, zi_t, zi_n, xb_I, xb_J, xb_V, xb_s, if_pos, if_neg, if_true, if_false, true_and, and_true, true_or, or_true, false_or, or_false, not_true, not_false_iff, zb_z, zb_o, zb_ft, tn_0, tn_1, tn_2, tn_3, tn_c, Int.reduceToNat, te_0, te_1, tk_0, tk_1, tk_m, ts_1, or_0, bp_f, sX_x0 hX, sX_xr0 hX, sX_xr1 hX, sX_xr2 hX, sX_xr3 hX, sX_xr4 hX, sX_xr5 hX, sX_xr6 hX, sX_xr7 hX, sX_xr8 hX, sX_xr9 hX, sX_xr10 hX, sX_xr11 hX, sX_xr12 hX, sX_xr13 hX, sX_xk0 hX, sX_xk1 hX, sX_xk2 hX, sX_xk3 hX, sX_xk4 hX, sX_xk5 hX, sX_xk6 hX, sX_xk7 hX, sX_xk8 hX, sX_xk9 hX, sX_xk10 hX, sX_xk11 hX, sX_xk12 hX, sX_xk13 hX, sX_xl0 hX, sX_xl1 hX, sX_xl2 hX, sX_xl3 hX, sX_xl4 hX, sX_xl5 hX, sX_xl6 hX, sX_xl7 hX, sX_xl8 hX, sX_xl9 hX, sX_xl10 hX, sX_xl11 hX, sX_xl12 hX, sX_xl13 hX, g, M_if]
theorem M_yt (hX : ShX S) {n : Int} (g : m.1 21 1 = zi n) (h1 : 0 < n) (h2 : n ≤ 1000) : E_X9_isAny S 15 m = some (some (.int (zi 1)), m) := by
  unfold E_X9_isAny
  simp (disch := omega) only [zi_f, zi_0, zi_1, zi_31, zi_all, zi_8, zi_16, zi_add, zi_sub, zi_mul, zi_neg, zi_lt, zi_le, zi_eq, zi_div, zi_t, zi_n, xb_I, xb_J, xb_V, xb_s, if_pos, if_neg, if_true, if_false, true_and, and_true, true_or, or_true, false_or, or_false, not_true, not_false_iff, zb_z, zb_o, zb_ft, tn_0, tn_1, tn_2, tn_3, tn_c, Int.reduceToNat, te_0, te_1, tk_0, tk_1, tk_m, ts_1, or_0, bp_f, sX_x0 hX, sX_xr0 hX, sX_xr1 hX, sX_xr2 hX, sX_xr3 hX, sX_xr4 hX, sX_xr5 hX, sX_xr6 hX, sX_xr7 hX, sX_xr8 hX, sX_xr9 hX, sX_xr10 hX, sX_xr11 hX, sX_xr12 hX, sX_xr13 hX, sX_xk0 hX, sX_xk1 hX, sX_xk2 hX, sX_xk3 hX, sX_xk4 hX, sX_xk5 hX, sX_xk6 hX, sX_xk7 hX, sX_xk8 hX, sX_xk9 hX, sX_xk10 hX, sX_xk11 hX, sX_xk12 hX, sX_xk13 hX, sX_xl0 hX, sX_xl1 hX, sX_xl2 hX, sX_xl3 hX, sX_xl4 hX, sX_xl5 hX, sX_xl6 hX, sX_xl7 hX, sX_xl8 hX, sX_xl9 hX, sX_xl10 hX, sX_xl11 hX, sX_xl12 hX, sX_xl13 hX, g]
theorem M_yf (hX : ShX S) {n : Int} (g : m.1 21 1 = zi n) (h1 : n = 0) : E_X9_isAny S 15 m = some (some (.int (zi 0)), m) := by
  unfold E_X9_isAny
  simp (disch := omega) only [zi_f, zi_0, zi_1, zi_31, zi_all, zi_8, zi_16, zi_add, zi_sub, zi_mul, zi_neg, zi_lt, zi_le, zi_eq, zi_div, zi_t, zi_n, xb_I, xb_J, xb_V, xb_s, if_pos, if_neg, if_true, if_false, true_and, and_true, true_or, or_true, false_or, or_false, not_true, not_false_iff, zb_z, zb_o, zb_ft, tn_0, tn_1, tn_2, tn_3, tn_c, Int.reduceToNat, te_0, te_1, tk_0, tk_1, tk_m, ts_1, or_0, bp_f, sX_x0 hX, sX_xr0 hX, sX_xr1 hX, sX_xr2 hX, sX_xr3 hX, sX_xr4 hX, sX_xr5 hX, sX_xr6 hX, sX_xr7 hX, sX_xr8 hX, sX_xr9 hX, sX_xr10 hX, sX_xr11 hX, sX_xr12 hX, sX_xr13 hX, sX_xk0 hX, sX_xk1 hX, sX_xk2 hX, sX_xk3 hX, sX_xk4 hX, sX_xk5 hX, sX_xk6 hX, sX_xk7 hX, sX_xk8 hX, sX_xk9 hX, sX_xk10 hX, sX_xk11 hX, sX_xk12 hX, sX_xk13 hX, sX_xl0 hX, sX_xl1 hX, sX_xl2 hX, sX_xl3 hX, sX_xl4 hX, sX_xl5 hX, sX_xl6 hX, sX_xl7 hX, sX_xl8 hX, sX_xl9 hX, sX_xl10 hX, sX_xl11 hX, sX_xl12 hX, sX_xl13 hX, g]
theorem C_pt (hs : ShR S 50) {n i : Int} (g : m.1 50 1 = zi n) (h0 : 0 ≤ i) (h1 : i < n) (h2 : n ≤ 1000) : E_X6_hasPlayer S 50 (zi i) m = some (some (.int (zi 1)), m) := by
  unfold E_X6_hasPlayer
  simp (disch := omega) only [zi_f, zi_0, zi_1, zi_31, zi_all, zi_8, zi_16, zi_add, zi_sub, zi_mul, zi_neg, zi_lt, zi_le, zi_eq, zi_div, zi_t, zi_n, xb_I, xb_J, xb_V, xb_s, if_pos, if_neg, if_true, if_false, true_and, and_true, true_or, or_true, false_or, or_false, not_true, not_false_iff, zb_z, zb_o, zb_ft, tn_0, tn_1, tn_2, tn_3, tn_c, Int.reduceToNat, te_0, te_1, tk_0, tk_1, tk_m, ts_1, or_0, bp_f, sR_s0 hs, g]
theorem C_pf (hs : ShR S 50) {n i : Int} (g : m.1 50 1 = zi n) (h : ¬ (0 ≤ i ∧ i < n)) (h1 : -2147483648 ≤ i) (h2 : i < 2147483648) (h3 : 0 ≤ n) (h4 : n ≤ 1000) : E_X6_hasPlayer S 50 (zi i) m = some (some (.int (zi 0)), m) := by
  unfold E_X6_hasPlayer
  by_cases h5 : i < 0
  · simp (disch := omega) only [zi_f, zi_0, zi_1, zi_31, zi_all, zi_8, zi_16, zi_add, zi_sub, zi_mul, zi_neg, zi_lt, zi_le, zi_eq, zi_div, zi_t, zi_n, xb_I, xb_J, xb_V, xb_s, if_pos, if_neg, if_true, if_false, true_and, and_true, true_or, or_true, false_or, or_false, not_true, not_false_iff, zb_z, zb_o, zb_ft, tn_0, tn_1, tn_2, tn_3, tn_c, Int.reduceToNat, te_0, te_1, tk_0, tk_1, tk_m, ts_1, or_0, bp_f, sR_s0 hs, g]
  · simp (disch := omega) only [zi_f, zi_0, zi_1, zi_31, zi_all, zi_8, zi_16, zi_add, zi_sub, zi_mul, zi_neg, zi_lt, zi_le, zi_eq, zi_div, zi_t, zi_n, xb_I, xb_J, xb_V, xb_s, if_pos, if_neg, if_true, if_false, true_and, and_true, true_or, or_true, false_or, or_false, not_true, not_false_iff, zb_z, zb_o, zb_ft, tn_0, tn_1, tn_2, tn_3, tn_c, Int.reduceToNat, te_0, te_1, tk_0, tk_1, tk_m, ts_1, or_0, bp_f, sR_s0 hs, g]
def faP (w : Nat → Int) (i : Nat) (a : Int) : Int := if a = 4 then ballP w i else if a = 5 then (if scP w i then 1 else 0) else if a = 6 then reachP (w (10 + 4 * i)) (w (13 + 4 * i)) else w (10 + 4 * i + a.toNat)
theorem C_fact (hs : ShR S 50) (hf : RF m 50 w) (hb : Bd w) (hc : Cd w) {i : Nat} (hi : i < pN w) {a : Int} (h0 : 0 ≤ a) (h1 : a ≤ 6) : E_X6_fact S 50 (zi i) (zi a) m = some (some (.int (zi (faP w i a))), m) := by
  have hn := hb.n
  have hq := hb.2.2.2.2 i (by omega)
  have ho := oe_i hq.2.1
  have hl := C_landing hs hf hb hi
  have hbb := C_ballBit hs hf hb hi (f := 0) (by omega)
  have hre := C_reach4 (S := S) (m := m) (k := w (10 + 4 * i)) (s := w (13 + 4 * i)) (by omega) (by omega)
  have hin := C_inPlaces hs hf hb hc ho.2
  obtain ⟨f0, f1, f2, f3, fc, fg, fk, fs, fp, ft⟩ := hf
  have hE : a = 0 ∨ a = 1 ∨ a = 2 ∨ a = 3 ∨ a = 4 ∨ a = 5 ∨ a = 6 := by omega
  unfold E_X6_fact faP
  rcases hE with e | e | e | e | e | e | e <;> subst e
  · simp (disch := omega) only [zi_f, zi_0, zi_1, zi_31, zi_all, zi_8, zi_16, zi_add, zi_sub, zi_mul, zi_neg, zi_lt, zi_le, zi_eq, zi_div, zi_t, zi_n, xb_I, xb_J, xb_V, xb_s, if_pos, if_neg, if_true, if_false, true_and, and_true, true_or, or_true, false_or, or_false, not_true, not_false_iff, zb_z, zb_o, zb_ft, tn_0, tn_1, tn_2, tn_3, tn_c, Int.reduceToNat, te_0, te_1, tk_0, tk_1, tk_m, ts_1, or_0, bp_f, sR_s0 hs, sR_s5 hs, sR_s6 hs, sR_s7 hs, sR_s8 hs, sR_s9 hs, sR_s10 hs, sR_s11 hs, sR_s12 hs, sR_s13 hs, sR_k1 hs, sR_k2 hs, sR_k3 hs, sR_k4 hs, sR_k5 hs, sR_k6 hs, sR_k7 hs, sR_k8 hs, sR_k9 hs, sR_l1 hs, sR_l2 hs, sR_l3 hs, sR_l4 hs, sR_l5 hs, sR_l6 hs, sR_l7 hs, sR_l8 hs, sR_l9 hs, fk, fs, fp, ft]
    exact zs_c rfl
  · simp (disch := omega) only [zi_f, zi_0, zi_1, zi_31, zi_all, zi_8, zi_16, zi_add, zi_sub, zi_mul, zi_neg, zi_lt, zi_le, zi_eq, zi_div, zi_t, zi_n, xb_I, xb_J, xb_V, xb_s, if_pos, if_neg, if_true, if_false, true_and, and_true, true_or, or_true, false_or, or_false, not_true, not_false_iff, zb_z, zb_o, zb_ft, tn_0, tn_1, tn_2, tn_3, tn_c, Int.reduceToNat, te_0, te_1, tk_0, tk_1, tk_m, ts_1, or_0, bp_f, sR_s0 hs, sR_s5 hs, sR_s6 hs, sR_s7 hs, sR_s8 hs, sR_s9 hs, sR_s10 hs, sR_s11 hs, sR_s12 hs, sR_s13 hs, sR_k1 hs, sR_k2 hs, sR_k3 hs, sR_k4 hs, sR_k5 hs, sR_k6 hs, sR_k7 hs, sR_k8 hs, sR_k9 hs, sR_l1 hs, sR_l2 hs, sR_l3 hs, sR_l4 hs, sR_l5 hs, sR_l6 hs, sR_l7 hs, sR_l8 hs, sR_l9 hs, fk, fs, fp, ft]
    exact zs_c (by rw [show 10 + 4 * i + 1 = 11 + 4 * i by omega])
  · simp (disch := omega) only [zi_f, zi_0, zi_1, zi_31, zi_all, zi_8, zi_16, zi_add, zi_sub, zi_mul, zi_neg, zi_lt, zi_le, zi_eq, zi_div, zi_t, zi_n, xb_I, xb_J, xb_V, xb_s, if_pos, if_neg, if_true, if_false, true_and, and_true, true_or, or_true, false_or, or_false, not_true, not_false_iff, zb_z, zb_o, zb_ft, tn_0, tn_1, tn_2, tn_3, tn_c, Int.reduceToNat, te_0, te_1, tk_0, tk_1, tk_m, ts_1, or_0, bp_f, sR_s0 hs, sR_s5 hs, sR_s6 hs, sR_s7 hs, sR_s8 hs, sR_s9 hs, sR_s10 hs, sR_s11 hs, sR_s12 hs, sR_s13 hs, sR_k1 hs, sR_k2 hs, sR_k3 hs, sR_k4 hs, sR_k5 hs, sR_k6 hs, sR_k7 hs, sR_k8 hs, sR_k9 hs, sR_l1 hs, sR_l2 hs, sR_l3 hs, sR_l4 hs, sR_l5 hs, sR_l6 hs, sR_l7 hs, sR_l8 hs, sR_l9 hs, fk, fs, fp, ft]
    exact zs_c (by rw [show 10 + 4 * i + 2 = 12 + 4 * i by omega])
  · simp (disch := omega) only [zi_f, zi_0, zi_1, zi_31, zi_all, zi_8, zi_16, zi_add, zi_sub, zi_mul, zi_neg, zi_lt, zi_le, zi_eq, zi_div, zi_t, zi_n, xb_I, xb_J, xb_V, xb_s, if_pos, if_neg, if_true, if_false, true_and, and_true, true_or, or_true, false_or, or_false, not_true, not_false_iff, zb_z, zb_o, zb_ft, tn_0, tn_1, tn_2, tn_3, tn_c, Int.reduceToNat, te_0, te_1, tk_0, tk_1, tk_m, ts_1, or_0, bp_f, sR_s0 hs, sR_s5 hs, sR_s6 hs, sR_s7 hs, sR_s8 hs, sR_s9 hs, sR_s10 hs, sR_s11 hs, sR_s12 hs, sR_s13 hs, sR_k1 hs, sR_k2 hs, sR_k3 hs, sR_k4 hs, sR_k5 hs, sR_k6 hs, sR_k7 hs, sR_k8 hs, sR_k9 hs, sR_l1 hs, sR_l2 hs, sR_l3 hs, sR_l4 hs, sR_l5 hs, sR_l6 hs, sR_l7 hs, sR_l8 hs, sR_l9 hs, fk, fs, fp, ft]
    exact zs_c (by rw [show 10 + 4 * i + 3 = 13 + 4 * i by omega])
  · simp (disch := omega) only [zi_f, zi_0, zi_1, zi_31, zi_all, zi_8, zi_16, zi_add, zi_sub, zi_mul, zi_neg, zi_lt, zi_le, zi_eq, zi_div, zi_t, zi_n, xb_I, xb_J, xb_V, xb_s, if_pos, if_neg, if_true, if_false, true_and, and_true, true_or, or_true, false_or, or_false, not_true, not_false_iff, zb_z, zb_o, zb_ft, tn_0, tn_1, tn_2, tn_3, tn_c, Int.reduceToNat, te_0, te_1, tk_0, tk_1, tk_m, ts_1, or_0, bp_f, sR_s0 hs, sR_s5 hs, sR_s6 hs, sR_s7 hs, sR_s8 hs, sR_s9 hs, sR_s10 hs, sR_s11 hs, sR_s12 hs, sR_s13 hs, sR_k1 hs, sR_k2 hs, sR_k3 hs, sR_k4 hs, sR_k5 hs, sR_k6 hs, sR_k7 hs, sR_k8 hs, sR_k9 hs, sR_l1 hs, sR_l2 hs, sR_l3 hs, sR_l4 hs, sR_l5 hs, sR_l6 hs, sR_l7 hs, sR_l8 hs, sR_l9 hs, hl]
  · simp (disch := omega) only [zi_f, zi_0, zi_1, zi_31, zi_all, zi_8, zi_16, zi_add, zi_sub, zi_mul, zi_neg, zi_lt, zi_le, zi_eq, zi_div, zi_t, zi_n, xb_I, xb_J, xb_V, xb_s, if_pos, if_neg, if_true, if_false, true_and, and_true, true_or, or_true, false_or, or_false, not_true, not_false_iff, zb_z, zb_o, zb_ft, tn_0, tn_1, tn_2, tn_3, tn_c, Int.reduceToNat, te_0, te_1, tk_0, tk_1, tk_m, ts_1, or_0, bp_f, sR_s0 hs, sR_s5 hs, sR_s6 hs, sR_s7 hs, sR_s8 hs, sR_s9 hs, sR_s10 hs, sR_s11 hs, sR_s12 hs, sR_s13 hs, sR_k1 hs, sR_k2 hs, sR_k3 hs, sR_k4 hs, sR_k5 hs, sR_k6 hs, sR_k7 hs, sR_k8 hs, sR_k9 hs, sR_l1 hs, sR_l2 hs, sR_l3 hs, sR_l4 hs, sR_l5 hs, sR_l6 hs, sR_l7 hs, sR_l8 hs, sR_l9 hs, hbb, fs]
    rw [← ho.1, hin]
    simp (disch := omega) only [zi_f, zi_0, zi_1, zi_31, zi_all, zi_8, zi_16, zi_add, zi_sub, zi_mul, zi_neg, zi_lt, zi_le, zi_eq, zi_div, zi_t, zi_n, xb_I, xb_J, xb_V, xb_s, if_pos, if_neg, if_true, if_false, true_and, and_true, true_or, or_true, false_or, or_false, not_true, not_false_iff, zb_z, zb_o, zb_ft, tn_0, tn_1, tn_2, tn_3, tn_c, Int.reduceToNat, te_0, te_1, tk_0, tk_1, tk_m, ts_1, or_0, bp_f, bb_in hb hc]
    have e2 : (decide (ballP w i ≠ -9) && inP w (oe (w (11 + 4 * i))) (minP 20 (ballP w i + 0))) = scP w i := sc_F (f := fun _ => 0) rfl
    rw [e2]
    cases scP w i <;> rfl
  · simp (disch := omega) only [zi_f, zi_0, zi_1, zi_31, zi_all, zi_8, zi_16, zi_add, zi_sub, zi_mul, zi_neg, zi_lt, zi_le, zi_eq, zi_div, zi_t, zi_n, xb_I, xb_J, xb_V, xb_s, if_pos, if_neg, if_true, if_false, true_and, and_true, true_or, or_true, false_or, or_false, not_true, not_false_iff, zb_z, zb_o, zb_ft, tn_0, tn_1, tn_2, tn_3, tn_c, Int.reduceToNat, te_0, te_1, tk_0, tk_1, tk_m, ts_1, or_0, bp_f, sR_s0 hs, sR_s5 hs, sR_s6 hs, sR_s7 hs, sR_s8 hs, sR_s9 hs, sR_s10 hs, sR_s11 hs, sR_s12 hs, sR_s13 hs, sR_k1 hs, sR_k2 hs, sR_k3 hs, sR_k4 hs, sR_k5 hs, sR_k6 hs, sR_k7 hs, sR_k8 hs, sR_k9 hs, sR_l1 hs, sR_l2 hs, sR_l3 hs, sR_l4 hs, sR_l5 hs, sR_l6 hs, sR_l7 hs, sR_l8 hs, sR_l9 hs, fk, ft, hre]
theorem M_tellsOf (hX : ShX S) (hr : Row S m 21 w) (hb : Bd w) {i : Nat} (hi : i < 6) {a : Int} (h0 : 0 ≤ a) (h1 : a ≤ 6) : E_X9_tellsOf S 15 (zi i) (zi a) m = some (some (.int (zi (faP w i a))), m) := by
  have hB := M_ball hr hb hi
  have hsc := M_isScored hr hb hi
  have hre := M_reach hr hb hi
  obtain ⟨r1, r2, r3⟩ := hr
  have hE : (a = 0 ∨ a = 1 ∨ a = 2 ∨ a = 3) ∨ a = 4 ∨ a = 5 ∨ a = 6 := by omega
  unfold E_X9_tellsOf faP
  rcases hE with e | e | e | e
  · have e1 : (10 + 4 * (i : Int) + a).toNat = 10 + 4 * i + a.toNat := by omega
    simp (disch := omega) only [zi_f, zi_0, zi_1, zi_31, zi_all, zi_8, zi_16, zi_add, zi_sub, zi_mul, zi_neg, zi_lt, zi_le, zi_eq, zi_div, zi_t, zi_n, xb_I, xb_J, xb_V, xb_s, if_pos, if_neg, if_true, if_false, true_and, and_true, true_or, or_true, false_or, or_false, not_true, not_false_iff, zb_z, zb_o, zb_ft, tn_0, tn_1, tn_2, tn_3, tn_c, Int.reduceToNat, te_0, te_1, tk_0, tk_1, tk_m, ts_1, or_0, bp_f, sX_x0 hX, sX_xr0 hX, sX_xr1 hX, sX_xr2 hX, sX_xr3 hX, sX_xr4 hX, sX_xr5 hX, sX_xr6 hX, sX_xr7 hX, sX_xr8 hX, sX_xr9 hX, sX_xr10 hX, sX_xr11 hX, sX_xr12 hX, sX_xr13 hX, sX_xk0 hX, sX_xk1 hX, sX_xk2 hX, sX_xk3 hX, sX_xk4 hX, sX_xk5 hX, sX_xk6 hX, sX_xk7 hX, sX_xk8 hX, sX_xk9 hX, sX_xk10 hX, sX_xk11 hX, sX_xk12 hX, sX_xk13 hX, sX_xl0 hX, sX_xl1 hX, sX_xl2 hX, sX_xl3 hX, sX_xl4 hX, sX_xl5 hX, sX_xl6 hX, sX_xl7 hX, sX_xl8 hX, sX_xl9 hX, sX_xl10 hX, sX_xl11 hX, sX_xl12 hX, sX_xl13 hX, r3, e1]
  · subst e
    simp (disch := omega) only [zi_f, zi_0, zi_1, zi_31, zi_all, zi_8, zi_16, zi_add, zi_sub, zi_mul, zi_neg, zi_lt, zi_le, zi_eq, zi_div, zi_t, zi_n, xb_I, xb_J, xb_V, xb_s, if_pos, if_neg, if_true, if_false, true_and, and_true, true_or, or_true, false_or, or_false, not_true, not_false_iff, zb_z, zb_o, zb_ft, tn_0, tn_1, tn_2, tn_3, tn_c, Int.reduceToNat, te_0, te_1, tk_0, tk_1, tk_m, ts_1, or_0, bp_f, sX_x0 hX, sX_xr0 hX, sX_xr1 hX, sX_xr2 hX, sX_xr3 hX, sX_xr4 hX, sX_xr5 hX, sX_xr6 hX, sX_xr7 hX, sX_xr8 hX, sX_xr9 hX, sX_xr10 hX, sX_xr11 hX, sX_xr12 hX, sX_xr13 hX, sX_xk0 hX, sX_xk1 hX, sX_xk2 hX, sX_xk3 hX, sX_xk4 hX, sX_xk5 hX, sX_xk6 hX, sX_xk7 hX, sX_xk8 hX, sX_xk9 hX, sX_xk10 hX, sX_xk11 hX, sX_xk12 hX, sX_xk13 hX, sX_xl0 hX, sX_xl1 hX, sX_xl2 hX, sX_xl3 hX, sX_xl4 hX, sX_xl5 hX, sX_xl6 hX, sX_xl7 hX, sX_xl8 hX, sX_xl9 hX, sX_xl10 hX, sX_xl11 hX, sX_xl12 hX, sX_xl13 hX, hB]
  · subst e
    simp (disch := omega) only [zi_f, zi_0, zi_1, zi_31, zi_all, zi_8, zi_16, zi_add, zi_sub, zi_mul, zi_neg, zi_lt, zi_le, zi_eq, zi_div, zi_t, zi_n, xb_I, xb_J, xb_V, xb_s, if_pos, if_neg, if_true, if_false, true_and, and_true, true_or, or_true, false_or, or_false, not_true, not_false_iff, zb_z, zb_o, zb_ft, tn_0, tn_1, tn_2, tn_3, tn_c, Int.reduceToNat, te_0, te_1, tk_0, tk_1, tk_m, ts_1, or_0, bp_f, sX_x0 hX, sX_xr0 hX, sX_xr1 hX, sX_xr2 hX, sX_xr3 hX, sX_xr4 hX, sX_xr5 hX, sX_xr6 hX, sX_xr7 hX, sX_xr8 hX, sX_xr9 hX, sX_xr10 hX, sX_xr11 hX, sX_xr12 hX, sX_xr13 hX, sX_xk0 hX, sX_xk1 hX, sX_xk2 hX, sX_xk3 hX, sX_xk4 hX, sX_xk5 hX, sX_xk6 hX, sX_xk7 hX, sX_xk8 hX, sX_xk9 hX, sX_xk10 hX, sX_xk11 hX, sX_xk12 hX, sX_xk13 hX, sX_xl0 hX, sX_xl1 hX, sX_xl2 hX, sX_xl3 hX, sX_xl4 hX, sX_xl5 hX, sX_xl6 hX, sX_xl7 hX, sX_xl8 hX, sX_xl9 hX, sX_xl10 hX, sX_xl11 hX, sX_xl12 hX, sX_xl13 hX, hsc]
    cases scP w i <;> rfl
  · subst e
    simp (disch := omega) only [zi_f, zi_0, zi_1, zi_31, zi_all, zi_8, zi_16, zi_add, zi_sub, zi_mul, zi_neg, zi_lt, zi_le, zi_eq, zi_div, zi_t, zi_n, xb_I, xb_J, xb_V, xb_s, if_pos, if_neg, if_true, if_false, true_and, and_true, true_or, or_true, false_or, or_false, not_true, not_false_iff, zb_z, zb_o, zb_ft, tn_0, tn_1, tn_2, tn_3, tn_c, Int.reduceToNat, te_0, te_1, tk_0, tk_1, tk_m, ts_1, or_0, bp_f, sX_x0 hX, sX_xr0 hX, sX_xr1 hX, sX_xr2 hX, sX_xr3 hX, sX_xr4 hX, sX_xr5 hX, sX_xr6 hX, sX_xr7 hX, sX_xr8 hX, sX_xr9 hX, sX_xr10 hX, sX_xr11 hX, sX_xr12 hX, sX_xr13 hX, sX_xk0 hX, sX_xk1 hX, sX_xk2 hX, sX_xk3 hX, sX_xk4 hX, sX_xk5 hX, sX_xk6 hX, sX_xk7 hX, sX_xk8 hX, sX_xk9 hX, sX_xk10 hX, sX_xk11 hX, sX_xk12 hX, sX_xk13 hX, sX_xl0 hX, sX_xl1 hX, sX_xl2 hX, sX_xl3 hX, sX_xl4 hX, sX_xl5 hX, sX_xl6 hX, sX_xl7 hX, sX_xl8 hX, sX_xl9 hX, sX_xl10 hX, sX_xl11 hX, sX_xl12 hX, sX_xl13 hX, hre]
def sp_player (i a : Int) (q : Sg) : Option Value × Sg := if (0 ≤ i ∧ i < q.2.1.2 q.2.1.1 1) ∧ (0 ≤ a ∧ a ≤ 6) then (vI 1, anQ (zi (faP (q.2.1.2 q.2.1.1) i.toNat a)) q) else (vI (-1), q)
theorem c_player (hS : Sh S) (i : Int) (i1 : -2147483648 ≤ i) (i2 : i < 2147483648) (a : Int) (a1 : -2147483648 ≤ a) (a2 : a < 2147483648)  : Cim S (fun m => E_X8_player S 0 (zi i) (zi a) m) (sp_player i a) := by
  rintro ⟨t, rr, k, f⟩ m hO hC
  have hT := hS.1
  have hO1 : OT t := hO.1
  have hC1 : CS m t := hC.1
  have hs : ShR S 50 := hS.2.2.2 0 (by omega)
  have hf : RF m 50 (rr.2 rr.1) := hC.2.1.1
  have hN : m.1 50 4 = zi (rr.1 : Nat) := hC.2.1.2.1
  have hb : Bd (rr.2 rr.1) := OR_b hO.2.1
  have hw := OR_w hO.2.1
  have hn40 : rr.1 ≤ 40 := hO.2.1.1
  have hn := hb.n
  unfold sp_player
  dsimp only
  have g1 : m.1 50 1 = zi (rr.2 rr.1 1) := hf.2.1
  generalize rr.2 rr.1 = w at *
  by_cases h1 : 0 ≤ i ∧ i < w 1
  · by_cases h2 : 0 ≤ a ∧ a ≤ 6
    · rw [if_pos ⟨h1, h2⟩]
      obtain ⟨j, rfl⟩ : ∃ j : Nat, i = j := ⟨i.toNat, by omega⟩
      rw [Int.toNat_natCast]
      have hc := Wk.c hw (by omega)
      have hq := C_fact hs hf hb hc (i := j) (a := a) (by omega) h2.1 h2.2
      refine ⟨xi_wI m 0 11 (zi (faP w j a)), ?_, CC_an hC, fun b _ _ => ⟨wI_o (by omega), rfl⟩⟩
      unfold E_X8_player
      simp (disch := omega) only [zi_f, zi_0, zi_1, zi_31, zi_all, zi_8, zi_16, zi_add, zi_sub, zi_mul, zi_neg, zi_lt, zi_le, zi_eq, zi_div, zi_t, zi_n, xb_I, xb_J, xb_V, xb_s, if_pos, if_neg, if_true, if_false, true_and, and_true, true_or, or_true, false_or, or_false, not_true, not_false_iff, zb_z, zb_o, zb_ft, tn_0, tn_1, tn_2, tn_3, tn_c, Int.reduceToNat, te_0, te_1, tk_0, tk_1, tk_m, ts_1, or_0, bp_f, sT_t0 hT, sT_t3 hT, sR_s0 hs, C_wt, C_wf, C_r1 hT, C_r2 hT, C_r3 hT, C_r4 hT, C_r5 hT, C_an hT, g1, hn.1, C_pt hs, C_pf hs, hq]
      all_goals rfl
    · rw [if_neg (fun q => h2 q.2)]
      refine ⟨m, ?_, hC, fun b _ _ => Cself⟩
      unfold E_X8_player
      simp (disch := omega) only [zi_f, zi_0, zi_1, zi_31, zi_all, zi_8, zi_16, zi_add, zi_sub, zi_mul, zi_neg, zi_lt, zi_le, zi_eq, zi_div, zi_t, zi_n, xb_I, xb_J, xb_V, xb_s, if_pos, if_neg, if_true, if_false, true_and, and_true, true_or, or_true, false_or, or_false, not_true, not_false_iff, zb_z, zb_o, zb_ft, tn_0, tn_1, tn_2, tn_3, tn_c, Int.reduceToNat, te_0, te_1, tk_0, tk_1, tk_m, ts_1, or_0, bp_f, sT_t0 hT, sT_t3 hT, sR_s0 hs, C_wt, C_wf, C_r1 hT, C_r2 hT, C_r3 hT, C_r4 hT, C_r5 hT, C_an hT, g1, hn.1, C_pt hs, C_pf hs]
      all_goals rfl
  · rw [if_neg (fun q => h1 q.1)]
    refine ⟨m, ?_, hC, fun b _ _ => Cself⟩
    unfold E_X8_player
    simp (disch := omega) only [zi_f, zi_0, zi_1, zi_31, zi_all, zi_8, zi_16, zi_add, zi_sub, zi_mul, zi_neg, zi_lt, zi_le, zi_eq, zi_div, zi_t, zi_n, xb_I, xb_J, xb_V, xb_s, if_pos, if_neg, if_true, if_false, true_and, and_true, true_or, or_true, false_or, or_false, not_true, not_false_iff, zb_z, zb_o, zb_ft, tn_0, tn_1, tn_2, tn_3, tn_c, Int.reduceToNat, te_0, te_1, tk_0, tk_1, tk_m, ts_1, or_0, bp_f, sT_t0 hT, sT_t3 hT, sR_s0 hs, C_wt, C_wf, C_r1 hT, C_r2 hT, C_r3 hT, C_r4 hT, C_r5 hT, C_an hT, g1, hn.1, C_pt hs, C_pf hs]
    all_goals rfl
theorem m_player (hS : Sh S) (i : Int) (i1 : -2147483648 ≤ i) (i2 : i < 2147483648) (a : Int) (a1 : -2147483648 ≤ a) (a2 : a < 2147483648)  : Mim S (fun m => E_X9_player S 15 (zi i) (zi a) m) (sp_player i a) := by
  rintro ⟨t, rr, k, f⟩ m hO hC
  have hX := hS.2.2.1
  have hO1 : OT t := hO.1
  have hC1 : MS m t := hC.1
  have hr : Row S m 21 (rr.2 rr.1) := ⟨sX_xk5 hX, sX_xl5 hX, hC.2.1.1⟩
  have hN : m.1 15 9 = zi (rr.1 : Nat) := hC.2.1.2.1
  have hb : Bd (rr.2 rr.1) := OR_b hO.2.1
  have hw := OR_w hO.2.1
  have hn40 : rr.1 ≤ 40 := hO.2.1.1
  have hn := hb.n
  unfold sp_player
  dsimp only
  have g1 : m.1 21 1 = zi (rr.2 rr.1 1) := hr.2.2 1 (by omega)
  generalize rr.2 rr.1 = w at *
  by_cases h1 : 0 ≤ i ∧ i < w 1
  · by_cases h2 : 0 ≤ a ∧ a ≤ 6
    · rw [if_pos ⟨h1, h2⟩]
      obtain ⟨j, rfl⟩ : ∃ j : Nat, i = j := ⟨i.toNat, by omega⟩
      rw [Int.toNat_natCast]
      have hq := M_tellsOf hX hr hb (i := j) (a := a) (by omega) h2.1 h2.2
      refine ⟨xi_wI m 15 15 (zi (faP w j a)), ?_, MM_an hC, fun b hb => ⟨wI_o (by omega), rfl⟩⟩
      unfold E_X9_player
      simp (disch := omega) only [zi_f, zi_0, zi_1, zi_31, zi_all, zi_8, zi_16, zi_add, zi_sub, zi_mul, zi_neg, zi_lt, zi_le, zi_eq, zi_div, zi_t, zi_n, xb_I, xb_J, xb_V, xb_s, if_pos, if_neg, if_true, if_false, true_and, and_true, true_or, or_true, false_or, or_false, not_true, not_false_iff, zb_z, zb_o, zb_ft, tn_0, tn_1, tn_2, tn_3, tn_c, Int.reduceToNat, te_0, te_1, tk_0, tk_1, tk_m, ts_1, or_0, bp_f, sX_x0 hX, sX_xr5 hX, sX_xk5 hX, sX_xl5 hX, M_it, M_if, M_rt, M_rf, M_pt hX, M_pf hX, M_yt hX, M_yf hX, M_r1 hX, M_r2 hX, M_r3 hX, M_r4 hX, M_r5 hX, M_an hX, g1, hn.1, hq]
      all_goals rfl
    · rw [if_neg (fun q => h2 q.2)]
      refine ⟨m, ?_, hC, fun b _ => Cself⟩
      unfold E_X9_player
      simp (disch := omega) only [zi_f, zi_0, zi_1, zi_31, zi_all, zi_8, zi_16, zi_add, zi_sub, zi_mul, zi_neg, zi_lt, zi_le, zi_eq, zi_div, zi_t, zi_n, xb_I, xb_J, xb_V, xb_s, if_pos, if_neg, if_true, if_false, true_and, and_true, true_or, or_true, false_or, or_false, not_true, not_false_iff, zb_z, zb_o, zb_ft, tn_0, tn_1, tn_2, tn_3, tn_c, Int.reduceToNat, te_0, te_1, tk_0, tk_1, tk_m, ts_1, or_0, bp_f, sX_x0 hX, sX_xr5 hX, sX_xk5 hX, sX_xl5 hX, M_it, M_if, M_rt, M_rf, M_pt hX, M_pf hX, M_yt hX, M_yf hX, M_r1 hX, M_r2 hX, M_r3 hX, M_r4 hX, M_r5 hX, M_an hX, g1, hn.1]
      all_goals rfl
  · rw [if_neg (fun q => h1 q.1)]
    refine ⟨m, ?_, hC, fun b _ => Cself⟩
    unfold E_X9_player
    simp (disch := omega) only [zi_f, zi_0, zi_1, zi_31, zi_all, zi_8, zi_16, zi_add, zi_sub, zi_mul, zi_neg, zi_lt, zi_le, zi_eq, zi_div, zi_t, zi_n, xb_I, xb_J, xb_V, xb_s, if_pos, if_neg, if_true, if_false, true_and, and_true, true_or, or_true, false_or, or_false, not_true, not_false_iff, zb_z, zb_o, zb_ft, tn_0, tn_1, tn_2, tn_3, tn_c, Int.reduceToNat, te_0, te_1, tk_0, tk_1, tk_m, ts_1, or_0, bp_f, sX_x0 hX, sX_xr5 hX, sX_xk5 hX, sX_xl5 hX, M_it, M_if, M_rt, M_rf, M_pt hX, M_pf hX, M_yt hX, M_yf hX, M_r1 hX, M_r2 hX, M_r3 hX, M_r4 hX, M_r5 hX, M_an hX, g1, hn.1]
    all_goals rfl
theorem o_player (i : Int) (a : Int) : ∀ q, OK q → OK (sp_player i a q).2 := by
  intro q h
  unfold sp_player
  repeat' split
  all_goals exact h
def sp_lands (i p x : Int) (q : Sg) : Option Value × Sg := if (0 ≤ i ∧ i < q.2.1.2 q.2.1.1 1) ∧ (0 ≤ p ∧ p ≤ 20) ∧ (0 ≤ x ∧ x ≤ 1) then (vI (landP (q.2.1.2 q.2.1.1 (10 + 4 * i.toNat)) (q.2.1.2 q.2.1.1 (13 + 4 * i.toNat)) p x), q) else (vI (-1), q)
theorem c_lands (hS : Sh S) (i : Int) (i1 : -2147483648 ≤ i) (i2 : i < 2147483648) (p : Int) (p1 : -2147483648 ≤ p) (p2 : p < 2147483648) (x : Int) (x1 : -2147483648 ≤ x) (x2 : x < 2147483648)  : Cim S (fun m => E_X8_lands S 0 (zi i) (zi p) (zi x) m) (sp_lands i p x) := by
  rintro ⟨t, rr, k, f⟩ m hO hC
  have hT := hS.1
  have hO1 : OT t := hO.1
  have hC1 : CS m t := hC.1
  have hs : ShR S 50 := hS.2.2.2 0 (by omega)
  have hf : RF m 50 (rr.2 rr.1) := hC.2.1.1
  have hN : m.1 50 4 = zi (rr.1 : Nat) := hC.2.1.2.1
  have hb : Bd (rr.2 rr.1) := OR_b hO.2.1
  have hw := OR_w hO.2.1
  have hn40 : rr.1 ≤ 40 := hO.2.1.1
  have hn := hb.n
  unfold sp_lands
  dsimp only
  have g1 : m.1 50 1 = zi (rr.2 rr.1 1) := hf.2.1
  generalize rr.2 rr.1 = w at *
  by_cases h1 : 0 ≤ i ∧ i < w 1
  · by_cases h2 : 0 ≤ p ∧ p ≤ 20
    · by_cases h3 : 0 ≤ x ∧ x ≤ 1
      · rw [if_pos ⟨h1, h2, h3⟩]
        obtain ⟨j, rfl⟩ : ∃ j : Nat, i = j := ⟨i.toNat, by omega⟩
        rw [Int.toNat_natCast]
        have hq := C_landingFrom hs hf hb (i := j) (f := p) (r := x) (by omega) (by omega) (by omega)
        refine ⟨m, ?_, hC, fun b _ _ => Cself⟩
        unfold E_X8_lands
        simp (disch := omega) only [zi_f, zi_0, zi_1, zi_31, zi_all, zi_8, zi_16, zi_add, zi_sub, zi_mul, zi_neg, zi_lt, zi_le, zi_eq, zi_div, zi_t, zi_n, xb_I, xb_J, xb_V, xb_s, if_pos, if_neg, if_true, if_false, true_and, and_true, true_or, or_true, false_or, or_false, not_true, not_false_iff, zb_z, zb_o, zb_ft, tn_0, tn_1, tn_2, tn_3, tn_c, Int.reduceToNat, te_0, te_1, tk_0, tk_1, tk_m, ts_1, or_0, bp_f, sT_t0 hT, sT_t3 hT, sR_s0 hs, C_wt, C_wf, C_r1 hT, C_r2 hT, C_r3 hT, C_r4 hT, C_r5 hT, C_an hT, g1, hn.1, C_pt hs, C_pf hs, hq]
        all_goals rfl
      · rw [if_neg (fun q => h3 q.2.2)]
        refine ⟨m, ?_, hC, fun b _ _ => Cself⟩
        unfold E_X8_lands
        simp (disch := omega) only [zi_f, zi_0, zi_1, zi_31, zi_all, zi_8, zi_16, zi_add, zi_sub, zi_mul, zi_neg, zi_lt, zi_le, zi_eq, zi_div, zi_t, zi_n, xb_I, xb_J, xb_V, xb_s, if_pos, if_neg, if_true, if_false, true_and, and_true, true_or, or_true, false_or, or_false, not_true, not_false_iff, zb_z, zb_o, zb_ft, tn_0, tn_1, tn_2, tn_3, tn_c, Int.reduceToNat, te_0, te_1, tk_0, tk_1, tk_m, ts_1, or_0, bp_f, sT_t0 hT, sT_t3 hT, sR_s0 hs, C_wt, C_wf, C_r1 hT, C_r2 hT, C_r3 hT, C_r4 hT, C_r5 hT, C_an hT, g1, hn.1, C_pt hs, C_pf hs]
        all_goals rfl
    · rw [if_neg (fun q => h2 q.2.1)]
      refine ⟨m, ?_, hC, fun b _ _ => Cself⟩
      unfold E_X8_lands
      simp (disch := omega) only [zi_f, zi_0, zi_1, zi_31, zi_all, zi_8, zi_16, zi_add, zi_sub, zi_mul, zi_neg, zi_lt, zi_le, zi_eq, zi_div, zi_t, zi_n, xb_I, xb_J, xb_V, xb_s, if_pos, if_neg, if_true, if_false, true_and, and_true, true_or, or_true, false_or, or_false, not_true, not_false_iff, zb_z, zb_o, zb_ft, tn_0, tn_1, tn_2, tn_3, tn_c, Int.reduceToNat, te_0, te_1, tk_0, tk_1, tk_m, ts_1, or_0, bp_f, sT_t0 hT, sT_t3 hT, sR_s0 hs, C_wt, C_wf, C_r1 hT, C_r2 hT, C_r3 hT, C_r4 hT, C_r5 hT, C_an hT, g1, hn.1, C_pt hs, C_pf hs]
      all_goals rfl
  · rw [if_neg (fun q => h1 q.1)]
    refine ⟨m, ?_, hC, fun b _ _ => Cself⟩
    unfold E_X8_lands
    simp (disch := omega) only [zi_f, zi_0, zi_1, zi_31, zi_all, zi_8, zi_16, zi_add, zi_sub, zi_mul, zi_neg, zi_lt, zi_le, zi_eq, zi_div, zi_t, zi_n, xb_I, xb_J, xb_V, xb_s, if_pos, if_neg, if_true, if_false, true_and, and_true, true_or, or_true, false_or, or_false, not_true, not_false_iff, zb_z, zb_o, zb_ft, tn_0, tn_1, tn_2, tn_3, tn_c, Int.reduceToNat, te_0, te_1, tk_0, tk_1, tk_m, ts_1, or_0, bp_f, sT_t0 hT, sT_t3 hT, sR_s0 hs, C_wt, C_wf, C_r1 hT, C_r2 hT, C_r3 hT, C_r4 hT, C_r5 hT, C_an hT, g1, hn.1, C_pt hs, C_pf hs]
    all_goals rfl
theorem m_lands (hS : Sh S) (i : Int) (i1 : -2147483648 ≤ i) (i2 : i < 2147483648) (p : Int) (p1 : -2147483648 ≤ p) (p2 : p < 2147483648) (x : Int) (x1 : -2147483648 ≤ x) (x2 : x < 2147483648)  : Mim S (fun m => E_X9_lands S 15 (zi i) (zi p) (zi x) m) (sp_lands i p x) := by
  rintro ⟨t, rr, k, f⟩ m hO hC
  have hX := hS.2.2.1
  have hO1 : OT t := hO.1
  have hC1 : MS m t := hC.1
  have hr : Row S m 21 (rr.2 rr.1) := ⟨sX_xk5 hX, sX_xl5 hX, hC.2.1.1⟩
  have hN : m.1 15 9 = zi (rr.1 : Nat) := hC.2.1.2.1
  have hb : Bd (rr.2 rr.1) := OR_b hO.2.1
  have hw := OR_w hO.2.1
  have hn40 : rr.1 ≤ 40 := hO.2.1.1
  have hn := hb.n
  unfold sp_lands
  dsimp only
  have g1 : m.1 21 1 = zi (rr.2 rr.1 1) := hr.2.2 1 (by omega)
  generalize rr.2 rr.1 = w at *
  by_cases h1 : 0 ≤ i ∧ i < w 1
  · by_cases h2 : 0 ≤ p ∧ p ≤ 20
    · by_cases h3 : 0 ≤ x ∧ x ≤ 1
      · rw [if_pos ⟨h1, h2, h3⟩]
        obtain ⟨j, rfl⟩ : ∃ j : Nat, i = j := ⟨i.toNat, by omega⟩
        rw [Int.toNat_natCast]
        have hz := hb.2.2.2.2 j (by omega)
        have r3 := hr.2.2
        refine ⟨m, ?_, hC, fun b _ => Cself⟩
        unfold E_X9_lands
        simp (disch := omega) only [zi_f, zi_0, zi_1, zi_31, zi_all, zi_8, zi_16, zi_add, zi_sub, zi_mul, zi_neg, zi_lt, zi_le, zi_eq, zi_div, zi_t, zi_n, xb_I, xb_J, xb_V, xb_s, if_pos, if_neg, if_true, if_false, true_and, and_true, true_or, or_true, false_or, or_false, not_true, not_false_iff, zb_z, zb_o, zb_ft, tn_0, tn_1, tn_2, tn_3, tn_c, Int.reduceToNat, te_0, te_1, tk_0, tk_1, tk_m, ts_1, or_0, bp_f, sX_x0 hX, sX_xr5 hX, sX_xk5 hX, sX_xl5 hX, M_it, M_if, M_rt, M_rf, M_pt hX, M_pf hX, M_yt hX, M_yf hX, M_r1 hX, M_r2 hX, M_r3 hX, M_r4 hX, M_r5 hX, M_an hX, g1, hn.1, r3, M_landing]
        all_goals rfl
      · rw [if_neg (fun q => h3 q.2.2)]
        refine ⟨m, ?_, hC, fun b _ => Cself⟩
        unfold E_X9_lands
        simp (disch := omega) only [zi_f, zi_0, zi_1, zi_31, zi_all, zi_8, zi_16, zi_add, zi_sub, zi_mul, zi_neg, zi_lt, zi_le, zi_eq, zi_div, zi_t, zi_n, xb_I, xb_J, xb_V, xb_s, if_pos, if_neg, if_true, if_false, true_and, and_true, true_or, or_true, false_or, or_false, not_true, not_false_iff, zb_z, zb_o, zb_ft, tn_0, tn_1, tn_2, tn_3, tn_c, Int.reduceToNat, te_0, te_1, tk_0, tk_1, tk_m, ts_1, or_0, bp_f, sX_x0 hX, sX_xr5 hX, sX_xk5 hX, sX_xl5 hX, M_it, M_if, M_rt, M_rf, M_pt hX, M_pf hX, M_yt hX, M_yf hX, M_r1 hX, M_r2 hX, M_r3 hX, M_r4 hX, M_r5 hX, M_an hX, g1, hn.1]
        all_goals rfl
    · rw [if_neg (fun q => h2 q.2.1)]
      refine ⟨m, ?_, hC, fun b _ => Cself⟩
      unfold E_X9_lands
      simp (disch := omega) only [zi_f, zi_0, zi_1, zi_31, zi_all, zi_8, zi_16, zi_add, zi_sub, zi_mul, zi_neg, zi_lt, zi_le, zi_eq, zi_div, zi_t, zi_n, xb_I, xb_J, xb_V, xb_s, if_pos, if_neg, if_true, if_false, true_and, and_true, true_or, or_true, false_or, or_false, not_true, not_false_iff, zb_z, zb_o, zb_ft, tn_0, tn_1, tn_2, tn_3, tn_c, Int.reduceToNat, te_0, te_1, tk_0, tk_1, tk_m, ts_1, or_0, bp_f, sX_x0 hX, sX_xr5 hX, sX_xk5 hX, sX_xl5 hX, M_it, M_if, M_rt, M_rf, M_pt hX, M_pf hX, M_yt hX, M_yf hX, M_r1 hX, M_r2 hX, M_r3 hX, M_r4 hX, M_r5 hX, M_an hX, g1, hn.1]
      all_goals rfl
  · rw [if_neg (fun q => h1 q.1)]
    refine ⟨m, ?_, hC, fun b _ => Cself⟩
    unfold E_X9_lands
    simp (disch := omega) only [zi_f, zi_0, zi_1, zi_31, zi_all, zi_8, zi_16, zi_add, zi_sub, zi_mul, zi_neg, zi_lt, zi_le, zi_eq, zi_div, zi_t, zi_n, xb_I, xb_J, xb_V, xb_s, if_pos, if_neg, if_true, if_false, true_and, and_true, true_or, or_true, false_or, or_false, not_true, not_false_iff, zb_z, zb_o, zb_ft, tn_0, tn_1, tn_2, tn_3, tn_c, Int.reduceToNat, te_0, te_1, tk_0, tk_1, tk_m, ts_1, or_0, bp_f, sX_x0 hX, sX_xr5 hX, sX_xk5 hX, sX_xl5 hX, M_it, M_if, M_rt, M_rf, M_pt hX, M_pf hX, M_yt hX, M_yf hX, M_r1 hX, M_r2 hX, M_r3 hX, M_r4 hX, M_r5 hX, M_an hX, g1, hn.1]
    all_goals rfl
theorem o_lands (i : Int) (p : Int) (x : Int) : ∀ q, OK q → OK (sp_lands i p x q).2 := by
  intro q h
  unfold sp_lands
  repeat' split
  all_goals exact h
def sp_in (e p : Int) (q : Sg) : Option Value × Sg := if (0 ≤ e ∧ e ≤ 1) ∧ (0 ≤ p ∧ p ≤ 20) then (if q.2.1.2 q.2.1.1 1 = 0 then (vI (-4), q) else (some (.int (zb (inP (q.2.1.2 q.2.1.1) e.toNat p))), q)) else (vI (-1), q)
theorem c_in (hS : Sh S) (e : Int) (e1 : -2147483648 ≤ e) (e2 : e < 2147483648) (p : Int) (p1 : -2147483648 ≤ p) (p2 : p < 2147483648)  : Cim S (fun m => E_X8_in S 0 (zi e) (zi p) m) (sp_in e p) := by
  rintro ⟨t, rr, k, f⟩ m hO hC
  have hT := hS.1
  have hO1 : OT t := hO.1
  have hC1 : CS m t := hC.1
  have hs : ShR S 50 := hS.2.2.2 0 (by omega)
  have hf : RF m 50 (rr.2 rr.1) := hC.2.1.1
  have hN : m.1 50 4 = zi (rr.1 : Nat) := hC.2.1.2.1
  have hb : Bd (rr.2 rr.1) := OR_b hO.2.1
  have hw := OR_w hO.2.1
  have hn40 : rr.1 ≤ 40 := hO.2.1.1
  have hn := hb.n
  unfold sp_in
  dsimp only
  have g1 : m.1 50 1 = zi (rr.2 rr.1 1) := hf.2.1
  generalize rr.2 rr.1 = w at *
  by_cases h1 : 0 ≤ e ∧ e ≤ 1
  · by_cases h2 : 0 ≤ p ∧ p ≤ 20
    · rw [if_pos ⟨h1, h2⟩]
      by_cases h3 : w 1 = 0
      · rw [if_pos h3]
        refine ⟨m, ?_, hC, fun b _ _ => Cself⟩
        unfold E_X8_in
        simp (disch := omega) only [zi_f, zi_0, zi_1, zi_31, zi_all, zi_8, zi_16, zi_add, zi_sub, zi_mul, zi_neg, zi_lt, zi_le, zi_eq, zi_div, zi_t, zi_n, xb_I, xb_J, xb_V, xb_s, if_pos, if_neg, if_true, if_false, true_and, and_true, true_or, or_true, false_or, or_false, not_true, not_false_iff, zb_z, zb_o, zb_ft, tn_0, tn_1, tn_2, tn_3, tn_c, Int.reduceToNat, te_0, te_1, tk_0, tk_1, tk_m, ts_1, or_0, bp_f, sT_t0 hT, sT_t3 hT, sR_s0 hs, C_wt, C_wf, C_r1 hT, C_r2 hT, C_r3 hT, C_r4 hT, C_r5 hT, C_an hT, g1, hn.1]
        all_goals rfl
      · rw [if_neg h3]
        obtain ⟨j, rfl⟩ : ∃ j : Nat, e = j := ⟨e.toNat, by omega⟩
        obtain ⟨x, rfl⟩ : ∃ x : Nat, p = x := ⟨p.toNat, by omega⟩
        rw [Int.toNat_natCast]
        have hc := Wk.c hw (by omega)
        have hq := C_inPlaces hs hf hb hc (e := j) (by omega)
        have hp := bt_shr (x := inV w j) (j := x) (by omega)
        rw [in_bt hb hc (by omega) (by omega)] at hp
        refine ⟨m, ?_, hC, fun b _ _ => Cself⟩
        unfold E_X8_in
        simp (disch := omega) only [zi_f, zi_0, zi_1, zi_31, zi_all, zi_8, zi_16, zi_add, zi_sub, zi_mul, zi_neg, zi_lt, zi_le, zi_eq, zi_div, zi_t, zi_n, xb_I, xb_J, xb_V, xb_s, if_pos, if_neg, if_true, if_false, true_and, and_true, true_or, or_true, false_or, or_false, not_true, not_false_iff, zb_z, zb_o, zb_ft, tn_0, tn_1, tn_2, tn_3, tn_c, Int.reduceToNat, te_0, te_1, tk_0, tk_1, tk_m, ts_1, or_0, bp_f, sT_t0 hT, sT_t3 hT, sR_s0 hs, C_wt, C_wf, C_r1 hT, C_r2 hT, C_r3 hT, C_r4 hT, C_r5 hT, C_an hT, g1, hn.1, hq, hp]
        all_goals rfl
    · rw [if_neg (fun q => h2 q.2)]
      refine ⟨m, ?_, hC, fun b _ _ => Cself⟩
      unfold E_X8_in
      simp (disch := omega) only [zi_f, zi_0, zi_1, zi_31, zi_all, zi_8, zi_16, zi_add, zi_sub, zi_mul, zi_neg, zi_lt, zi_le, zi_eq, zi_div, zi_t, zi_n, xb_I, xb_J, xb_V, xb_s, if_pos, if_neg, if_true, if_false, true_and, and_true, true_or, or_true, false_or, or_false, not_true, not_false_iff, zb_z, zb_o, zb_ft, tn_0, tn_1, tn_2, tn_3, tn_c, Int.reduceToNat, te_0, te_1, tk_0, tk_1, tk_m, ts_1, or_0, bp_f, sT_t0 hT, sT_t3 hT, sR_s0 hs, C_wt, C_wf, C_r1 hT, C_r2 hT, C_r3 hT, C_r4 hT, C_r5 hT, C_an hT, g1, hn.1]
      all_goals rfl
  · rw [if_neg (fun q => h1 q.1)]
    refine ⟨m, ?_, hC, fun b _ _ => Cself⟩
    unfold E_X8_in
    simp (disch := omega) only [zi_f, zi_0, zi_1, zi_31, zi_all, zi_8, zi_16, zi_add, zi_sub, zi_mul, zi_neg, zi_lt, zi_le, zi_eq, zi_div, zi_t, zi_n, xb_I, xb_J, xb_V, xb_s, if_pos, if_neg, if_true, if_false, true_and, and_true, true_or, or_true, false_or, or_false, not_true, not_false_iff, zb_z, zb_o, zb_ft, tn_0, tn_1, tn_2, tn_3, tn_c, Int.reduceToNat, te_0, te_1, tk_0, tk_1, tk_m, ts_1, or_0, bp_f, sT_t0 hT, sT_t3 hT, sR_s0 hs, C_wt, C_wf, C_r1 hT, C_r2 hT, C_r3 hT, C_r4 hT, C_r5 hT, C_an hT, g1, hn.1]
    all_goals rfl
theorem m_in (hS : Sh S) (e : Int) (e1 : -2147483648 ≤ e) (e2 : e < 2147483648) (p : Int) (p1 : -2147483648 ≤ p) (p2 : p < 2147483648)  : Mim S (fun m => E_X9_in S 15 (zi e) (zi p) m) (sp_in e p) := by
  rintro ⟨t, rr, k, f⟩ m hO hC
  have hX := hS.2.2.1
  have hO1 : OT t := hO.1
  have hC1 : MS m t := hC.1
  have hr : Row S m 21 (rr.2 rr.1) := ⟨sX_xk5 hX, sX_xl5 hX, hC.2.1.1⟩
  have hN : m.1 15 9 = zi (rr.1 : Nat) := hC.2.1.2.1
  have hb : Bd (rr.2 rr.1) := OR_b hO.2.1
  have hw := OR_w hO.2.1
  have hn40 : rr.1 ≤ 40 := hO.2.1.1
  have hn := hb.n
  unfold sp_in
  dsimp only
  have g1 : m.1 21 1 = zi (rr.2 rr.1 1) := hr.2.2 1 (by omega)
  generalize rr.2 rr.1 = w at *
  by_cases h1 : 0 ≤ e ∧ e ≤ 1
  · by_cases h2 : 0 ≤ p ∧ p ≤ 20
    · rw [if_pos ⟨h1, h2⟩]
      by_cases h3 : w 1 = 0
      · rw [if_pos h3]
        refine ⟨m, ?_, hC, fun b _ => Cself⟩
        unfold E_X9_in
        simp (disch := omega) only [zi_f, zi_0, zi_1, zi_31, zi_all, zi_8, zi_16, zi_add, zi_sub, zi_mul, zi_neg, zi_lt, zi_le, zi_eq, zi_div, zi_t, zi_n, xb_I, xb_J, xb_V, xb_s, if_pos, if_neg, if_true, if_false, true_and, and_true, true_or, or_true, false_or, or_false, not_true, not_false_iff, zb_z, zb_o, zb_ft, tn_0, tn_1, tn_2, tn_3, tn_c, Int.reduceToNat, te_0, te_1, tk_0, tk_1, tk_m, ts_1, or_0, bp_f, sX_x0 hX, sX_xr5 hX, sX_xk5 hX, sX_xl5 hX, M_it, M_if, M_rt, M_rf, M_pt hX, M_pf hX, M_yt hX, M_yf hX, M_r1 hX, M_r2 hX, M_r3 hX, M_r4 hX, M_r5 hX, M_an hX, g1, hn.1]
        all_goals rfl
      · rw [if_neg h3]
        obtain ⟨j, rfl⟩ : ∃ j : Nat, e = j := ⟨e.toNat, by omega⟩
        obtain ⟨x, rfl⟩ : ∃ x : Nat, p = x := ⟨p.toNat, by omega⟩
        rw [Int.toNat_natCast]
        have hq := M_isIn hr hb (e := j) (p := x) (by omega) (by omega)
        refine ⟨m, ?_, hC, fun b _ => Cself⟩
        unfold E_X9_in
        simp (disch := omega) only [zi_f, zi_0, zi_1, zi_31, zi_all, zi_8, zi_16, zi_add, zi_sub, zi_mul, zi_neg, zi_lt, zi_le, zi_eq, zi_div, zi_t, zi_n, xb_I, xb_J, xb_V, xb_s, if_pos, if_neg, if_true, if_false, true_and, and_true, true_or, or_true, false_or, or_false, not_true, not_false_iff, zb_z, zb_o, zb_ft, tn_0, tn_1, tn_2, tn_3, tn_c, Int.reduceToNat, te_0, te_1, tk_0, tk_1, tk_m, ts_1, or_0, bp_f, sX_x0 hX, sX_xr5 hX, sX_xk5 hX, sX_xl5 hX, M_it, M_if, M_rt, M_rf, M_pt hX, M_pf hX, M_yt hX, M_yf hX, M_r1 hX, M_r2 hX, M_r3 hX, M_r4 hX, M_r5 hX, M_an hX, g1, hn.1, hq]
        cases inP w j x <;> rfl
    · rw [if_neg (fun q => h2 q.2)]
      refine ⟨m, ?_, hC, fun b _ => Cself⟩
      unfold E_X9_in
      simp (disch := omega) only [zi_f, zi_0, zi_1, zi_31, zi_all, zi_8, zi_16, zi_add, zi_sub, zi_mul, zi_neg, zi_lt, zi_le, zi_eq, zi_div, zi_t, zi_n, xb_I, xb_J, xb_V, xb_s, if_pos, if_neg, if_true, if_false, true_and, and_true, true_or, or_true, false_or, or_false, not_true, not_false_iff, zb_z, zb_o, zb_ft, tn_0, tn_1, tn_2, tn_3, tn_c, Int.reduceToNat, te_0, te_1, tk_0, tk_1, tk_m, ts_1, or_0, bp_f, sX_x0 hX, sX_xr5 hX, sX_xk5 hX, sX_xl5 hX, M_it, M_if, M_rt, M_rf, M_pt hX, M_pf hX, M_yt hX, M_yf hX, M_r1 hX, M_r2 hX, M_r3 hX, M_r4 hX, M_r5 hX, M_an hX, g1, hn.1]
      all_goals rfl
  · rw [if_neg (fun q => h1 q.1)]
    refine ⟨m, ?_, hC, fun b _ => Cself⟩
    unfold E_X9_in
    simp (disch := omega) only [zi_f, zi_0, zi_1, zi_31, zi_all, zi_8, zi_16, zi_add, zi_sub, zi_mul, zi_neg, zi_lt, zi_le, zi_eq, zi_div, zi_t, zi_n, xb_I, xb_J, xb_V, xb_s, if_pos, if_neg, if_true, if_false, true_and, and_true, true_or, or_true, false_or, or_false, not_true, not_false_iff, zb_z, zb_o, zb_ft, tn_0, tn_1, tn_2, tn_3, tn_c, Int.reduceToNat, te_0, te_1, tk_0, tk_1, tk_m, ts_1, or_0, bp_f, sX_x0 hX, sX_xr5 hX, sX_xk5 hX, sX_xl5 hX, M_it, M_if, M_rt, M_rf, M_pt hX, M_pf hX, M_yt hX, M_yf hX, M_r1 hX, M_r2 hX, M_r3 hX, M_r4 hX, M_r5 hX, M_an hX, g1, hn.1]
    all_goals rfl
theorem o_in (e : Int) (p : Int) : ∀ q, OK q → OK (sp_in e p q).2 := by
  intro q h
  unfold sp_in
  repeat' split
  all_goals exact h
def sp_seen (c : Int) (q : Sg) : Option Value × Sg := if 0 ≤ c ∧ c ≤ 3 then (if q.2.1.2 q.2.1.1 1 = 0 then (vI (-4), q) else (some (.int (setP (seP (q.2.1.2 q.2.1.1) c.toNat) (pN (q.2.1.2 q.2.1.1)))), q)) else (vI (-1), q)
theorem c_seen (hS : Sh S) (c : Int) (c1 : -2147483648 ≤ c) (c2 : c < 2147483648)  : Cim S (fun m => E_X8_seen S 0 (zi c) m) (sp_seen c) := by
  rintro ⟨t, rr, k, f⟩ m hO hC
  have hT := hS.1
  have hO1 : OT t := hO.1
  have hC1 : CS m t := hC.1
  have hs : ShR S 50 := hS.2.2.2 0 (by omega)
  have hf : RF m 50 (rr.2 rr.1) := hC.2.1.1
  have hN : m.1 50 4 = zi (rr.1 : Nat) := hC.2.1.2.1
  have hb : Bd (rr.2 rr.1) := OR_b hO.2.1
  have hw := OR_w hO.2.1
  have hn40 : rr.1 ≤ 40 := hO.2.1.1
  have hn := hb.n
  unfold sp_seen
  dsimp only
  have g1 : m.1 50 1 = zi (rr.2 rr.1 1) := hf.2.1
  generalize rr.2 rr.1 = w at *
  by_cases h1 : 0 ≤ c ∧ c ≤ 3
  · rw [if_pos h1]
    by_cases h3 : w 1 = 0
    · rw [if_pos h3]
      refine ⟨m, ?_, hC, fun b _ _ => Cself⟩
      unfold E_X8_seen
      simp (disch := omega) only [zi_f, zi_0, zi_1, zi_31, zi_all, zi_8, zi_16, zi_add, zi_sub, zi_mul, zi_neg, zi_lt, zi_le, zi_eq, zi_div, zi_t, zi_n, xb_I, xb_J, xb_V, xb_s, if_pos, if_neg, if_true, if_false, true_and, and_true, true_or, or_true, false_or, or_false, not_true, not_false_iff, zb_z, zb_o, zb_ft, tn_0, tn_1, tn_2, tn_3, tn_c, Int.reduceToNat, te_0, te_1, tk_0, tk_1, tk_m, ts_1, or_0, bp_f, sT_t0 hT, sT_t3 hT, sR_s0 hs, C_wt, C_wf, C_r1 hT, C_r2 hT, C_r3 hT, C_r4 hT, C_r5 hT, C_an hT, g1, hn.1]
      all_goals rfl
    · rw [if_neg h3]
      obtain ⟨j, rfl⟩ : ∃ j : Nat, c = j := ⟨c.toNat, by omega⟩
      rw [Int.toNat_natCast]
      have hq := C_witnesses hs hf hb (k := j) (by omega)
      refine ⟨m, ?_, hC, fun b _ _ => Cself⟩
      unfold E_X8_seen
      simp (disch := omega) only [zi_f, zi_0, zi_1, zi_31, zi_all, zi_8, zi_16, zi_add, zi_sub, zi_mul, zi_neg, zi_lt, zi_le, zi_eq, zi_div, zi_t, zi_n, xb_I, xb_J, xb_V, xb_s, if_pos, if_neg, if_true, if_false, true_and, and_true, true_or, or_true, false_or, or_false, not_true, not_false_iff, zb_z, zb_o, zb_ft, tn_0, tn_1, tn_2, tn_3, tn_c, Int.reduceToNat, te_0, te_1, tk_0, tk_1, tk_m, ts_1, or_0, bp_f, sT_t0 hT, sT_t3 hT, sR_s0 hs, C_wt, C_wf, C_r1 hT, C_r2 hT, C_r3 hT, C_r4 hT, C_r5 hT, C_an hT, g1, hn.1, hq]
      all_goals rfl
  · rw [if_neg h1]
    refine ⟨m, ?_, hC, fun b _ _ => Cself⟩
    unfold E_X8_seen
    simp (disch := omega) only [zi_f, zi_0, zi_1, zi_31, zi_all, zi_8, zi_16, zi_add, zi_sub, zi_mul, zi_neg, zi_lt, zi_le, zi_eq, zi_div, zi_t, zi_n, xb_I, xb_J, xb_V, xb_s, if_pos, if_neg, if_true, if_false, true_and, and_true, true_or, or_true, false_or, or_false, not_true, not_false_iff, zb_z, zb_o, zb_ft, tn_0, tn_1, tn_2, tn_3, tn_c, Int.reduceToNat, te_0, te_1, tk_0, tk_1, tk_m, ts_1, or_0, bp_f, sT_t0 hT, sT_t3 hT, sR_s0 hs, C_wt, C_wf, C_r1 hT, C_r2 hT, C_r3 hT, C_r4 hT, C_r5 hT, C_an hT, g1, hn.1]
    all_goals rfl
theorem m_seen (hS : Sh S) (c : Int) (c1 : -2147483648 ≤ c) (c2 : c < 2147483648)  : Mim S (fun m => E_X9_seen S 15 (zi c) m) (sp_seen c) := by
  rintro ⟨t, rr, k, f⟩ m hO hC
  have hX := hS.2.2.1
  have hO1 : OT t := hO.1
  have hC1 : MS m t := hC.1
  have hr : Row S m 21 (rr.2 rr.1) := ⟨sX_xk5 hX, sX_xl5 hX, hC.2.1.1⟩
  have hN : m.1 15 9 = zi (rr.1 : Nat) := hC.2.1.2.1
  have hb : Bd (rr.2 rr.1) := OR_b hO.2.1
  have hw := OR_w hO.2.1
  have hn40 : rr.1 ≤ 40 := hO.2.1.1
  have hn := hb.n
  unfold sp_seen
  dsimp only
  have g1 : m.1 21 1 = zi (rr.2 rr.1 1) := hr.2.2 1 (by omega)
  generalize rr.2 rr.1 = w at *
  by_cases h1 : 0 ≤ c ∧ c ≤ 3
  · rw [if_pos h1]
    by_cases h3 : w 1 = 0
    · rw [if_pos h3]
      refine ⟨m, ?_, hC, fun b _ => Cself⟩
      unfold E_X9_seen
      simp (disch := omega) only [zi_f, zi_0, zi_1, zi_31, zi_all, zi_8, zi_16, zi_add, zi_sub, zi_mul, zi_neg, zi_lt, zi_le, zi_eq, zi_div, zi_t, zi_n, xb_I, xb_J, xb_V, xb_s, if_pos, if_neg, if_true, if_false, true_and, and_true, true_or, or_true, false_or, or_false, not_true, not_false_iff, zb_z, zb_o, zb_ft, tn_0, tn_1, tn_2, tn_3, tn_c, Int.reduceToNat, te_0, te_1, tk_0, tk_1, tk_m, ts_1, or_0, bp_f, sX_x0 hX, sX_xr5 hX, sX_xk5 hX, sX_xl5 hX, M_it, M_if, M_rt, M_rf, M_pt hX, M_pf hX, M_yt hX, M_yf hX, M_r1 hX, M_r2 hX, M_r3 hX, M_r4 hX, M_r5 hX, M_an hX, g1, hn.1]
      all_goals rfl
    · rw [if_neg h3]
      obtain ⟨j, rfl⟩ : ∃ j : Nat, c = j := ⟨c.toNat, by omega⟩
      rw [Int.toNat_natCast]
      have hq := M_seenBy hr hb (k := j) (by omega)
      refine ⟨m, ?_, hC, fun b _ => Cself⟩
      unfold E_X9_seen
      simp (disch := omega) only [zi_f, zi_0, zi_1, zi_31, zi_all, zi_8, zi_16, zi_add, zi_sub, zi_mul, zi_neg, zi_lt, zi_le, zi_eq, zi_div, zi_t, zi_n, xb_I, xb_J, xb_V, xb_s, if_pos, if_neg, if_true, if_false, true_and, and_true, true_or, or_true, false_or, or_false, not_true, not_false_iff, zb_z, zb_o, zb_ft, tn_0, tn_1, tn_2, tn_3, tn_c, Int.reduceToNat, te_0, te_1, tk_0, tk_1, tk_m, ts_1, or_0, bp_f, sX_x0 hX, sX_xr5 hX, sX_xk5 hX, sX_xl5 hX, M_it, M_if, M_rt, M_rf, M_pt hX, M_pf hX, M_yt hX, M_yf hX, M_r1 hX, M_r2 hX, M_r3 hX, M_r4 hX, M_r5 hX, M_an hX, g1, hn.1, hq]
      all_goals rfl
  · rw [if_neg h1]
    refine ⟨m, ?_, hC, fun b _ => Cself⟩
    unfold E_X9_seen
    simp (disch := omega) only [zi_f, zi_0, zi_1, zi_31, zi_all, zi_8, zi_16, zi_add, zi_sub, zi_mul, zi_neg, zi_lt, zi_le, zi_eq, zi_div, zi_t, zi_n, xb_I, xb_J, xb_V, xb_s, if_pos, if_neg, if_true, if_false, true_and, and_true, true_or, or_true, false_or, or_false, not_true, not_false_iff, zb_z, zb_o, zb_ft, tn_0, tn_1, tn_2, tn_3, tn_c, Int.reduceToNat, te_0, te_1, tk_0, tk_1, tk_m, ts_1, or_0, bp_f, sX_x0 hX, sX_xr5 hX, sX_xk5 hX, sX_xl5 hX, M_it, M_if, M_rt, M_rf, M_pt hX, M_pf hX, M_yt hX, M_yf hX, M_r1 hX, M_r2 hX, M_r3 hX, M_r4 hX, M_r5 hX, M_an hX, g1, hn.1]
    all_goals rfl
theorem o_seen (c : Int) : ∀ q, OK q → OK (sp_seen c q).2 := by
  intro q h
  unfold sp_seen
  repeat' split
  all_goals exact h
def sp_lead (n : Int) (q : Sg) : Option Value × Sg := if 0 ≤ n ∧ n ≤ 40 then (if q.2.1.2 q.2.1.1 1 = 0 then (vI (-4), q) else (vI 1, anQ (zi (q.2.1.2 q.2.1.1 4 - q.2.1.2 q.2.1.1 5 + n * ahP (q.2.1.2 q.2.1.1) (pN (q.2.1.2 q.2.1.1)))) q)) else (vI (-1), q)
theorem c_lead (hS : Sh S) (n : Int) (n1 : -2147483648 ≤ n) (n2 : n < 2147483648)  : Cim S (fun m => E_X8_lead S 0 (zi n) m) (sp_lead n) := by
  rintro ⟨t, rr, k, f⟩ m hO hC
  have hT := hS.1
  have hO1 : OT t := hO.1
  have hC1 : CS m t := hC.1
  have hs : ShR S 50 := hS.2.2.2 0 (by omega)
  have hf : RF m 50 (rr.2 rr.1) := hC.2.1.1
  have hN : m.1 50 4 = zi (rr.1 : Nat) := hC.2.1.2.1
  have hb : Bd (rr.2 rr.1) := OR_b hO.2.1
  have hw := OR_w hO.2.1
  have hn40 : rr.1 ≤ 40 := hO.2.1.1
  have hn := hb.n
  unfold sp_lead
  dsimp only
  have g1 : m.1 50 1 = zi (rr.2 rr.1 1) := hf.2.1
  generalize rr.2 rr.1 = w at *
  by_cases h1 : 0 ≤ n ∧ n ≤ 40
  · rw [if_pos h1]
    by_cases h3 : w 1 = 0
    · rw [if_pos h3]
      refine ⟨m, ?_, hC, fun b _ _ => Cself⟩
      unfold E_X8_lead
      simp (disch := omega) only [zi_f, zi_0, zi_1, zi_31, zi_all, zi_8, zi_16, zi_add, zi_sub, zi_mul, zi_neg, zi_lt, zi_le, zi_eq, zi_div, zi_t, zi_n, xb_I, xb_J, xb_V, xb_s, if_pos, if_neg, if_true, if_false, true_and, and_true, true_or, or_true, false_or, or_false, not_true, not_false_iff, zb_z, zb_o, zb_ft, tn_0, tn_1, tn_2, tn_3, tn_c, Int.reduceToNat, te_0, te_1, tk_0, tk_1, tk_m, ts_1, or_0, bp_f, sT_t0 hT, sT_t3 hT, sR_s0 hs, C_wt, C_wf, C_r1 hT, C_r2 hT, C_r3 hT, C_r4 hT, C_r5 hT, C_an hT, g1, hn.1]
      all_goals rfl
    · rw [if_neg h3]
      have hc := Wk.c hw (by omega)
      have hq := C_advantage hs hf hb hc (s := 0) (by omega) (zi 0)
      rw [adv_ah wb_0] at hq
      have y4 := hf.2.2.2.2.2.1 0 (by omega)
      have y5 := hf.2.2.2.2.2.1 1 (by omega)
      refine ⟨xi_wI m 0 11 (zi (w 4 - w 5 + n * ahP w (pN w))), ?_, CC_an hC, fun b _ _ => ⟨wI_o (by omega), rfl⟩⟩
      unfold E_X8_lead
      simp (disch := omega) only [zi_f, zi_0, zi_1, zi_31, zi_all, zi_8, zi_16, zi_add, zi_sub, zi_mul, zi_neg, zi_lt, zi_le, zi_eq, zi_div, zi_t, zi_n, xb_I, xb_J, xb_V, xb_s, if_pos, if_neg, if_true, if_false, true_and, and_true, true_or, or_true, false_or, or_false, not_true, not_false_iff, zb_z, zb_o, zb_ft, tn_0, tn_1, tn_2, tn_3, tn_c, Int.reduceToNat, te_0, te_1, tk_0, tk_1, tk_m, ts_1, or_0, bp_f, sT_t0 hT, sT_t3 hT, sR_s0 hs, C_wt, C_wf, C_r1 hT, C_r2 hT, C_r3 hT, C_r4 hT, C_r5 hT, C_an hT, g1, hn.1, hq, sR_s0 hs, sR_s5 hs, sR_s6 hs, sR_s7 hs, sR_s8 hs, sR_s9 hs, sR_s10 hs, sR_s11 hs, sR_s12 hs, sR_s13 hs, sR_k1 hs, sR_k2 hs, sR_k3 hs, sR_k4 hs, sR_k5 hs, sR_k6 hs, sR_k7 hs, sR_k8 hs, sR_k9 hs, sR_l1 hs, sR_l2 hs, sR_l3 hs, sR_l4 hs, sR_l5 hs, sR_l6 hs, sR_l7 hs, sR_l8 hs, sR_l9 hs, y4, y5]
      all_goals rfl
  · rw [if_neg h1]
    refine ⟨m, ?_, hC, fun b _ _ => Cself⟩
    unfold E_X8_lead
    simp (disch := omega) only [zi_f, zi_0, zi_1, zi_31, zi_all, zi_8, zi_16, zi_add, zi_sub, zi_mul, zi_neg, zi_lt, zi_le, zi_eq, zi_div, zi_t, zi_n, xb_I, xb_J, xb_V, xb_s, if_pos, if_neg, if_true, if_false, true_and, and_true, true_or, or_true, false_or, or_false, not_true, not_false_iff, zb_z, zb_o, zb_ft, tn_0, tn_1, tn_2, tn_3, tn_c, Int.reduceToNat, te_0, te_1, tk_0, tk_1, tk_m, ts_1, or_0, bp_f, sT_t0 hT, sT_t3 hT, sR_s0 hs, C_wt, C_wf, C_r1 hT, C_r2 hT, C_r3 hT, C_r4 hT, C_r5 hT, C_an hT, g1, hn.1]
    all_goals rfl
theorem m_lead (hS : Sh S) (n : Int) (n1 : -2147483648 ≤ n) (n2 : n < 2147483648)  : Mim S (fun m => E_X9_lead S 15 (zi n) m) (sp_lead n) := by
  rintro ⟨t, rr, k, f⟩ m hO hC
  have hX := hS.2.2.1
  have hO1 : OT t := hO.1
  have hC1 : MS m t := hC.1
  have hr : Row S m 21 (rr.2 rr.1) := ⟨sX_xk5 hX, sX_xl5 hX, hC.2.1.1⟩
  have hN : m.1 15 9 = zi (rr.1 : Nat) := hC.2.1.2.1
  have hb : Bd (rr.2 rr.1) := OR_b hO.2.1
  have hw := OR_w hO.2.1
  have hn40 : rr.1 ≤ 40 := hO.2.1.1
  have hn := hb.n
  unfold sp_lead
  dsimp only
  have g1 : m.1 21 1 = zi (rr.2 rr.1 1) := hr.2.2 1 (by omega)
  generalize rr.2 rr.1 = w at *
  by_cases h1 : 0 ≤ n ∧ n ≤ 40
  · rw [if_pos h1]
    by_cases h3 : w 1 = 0
    · rw [if_pos h3]
      refine ⟨m, ?_, hC, fun b _ => Cself⟩
      unfold E_X9_lead
      simp (disch := omega) only [zi_f, zi_0, zi_1, zi_31, zi_all, zi_8, zi_16, zi_add, zi_sub, zi_mul, zi_neg, zi_lt, zi_le, zi_eq, zi_div, zi_t, zi_n, xb_I, xb_J, xb_V, xb_s, if_pos, if_neg, if_true, if_false, true_and, and_true, true_or, or_true, false_or, or_false, not_true, not_false_iff, zb_z, zb_o, zb_ft, tn_0, tn_1, tn_2, tn_3, tn_c, Int.reduceToNat, te_0, te_1, tk_0, tk_1, tk_m, ts_1, or_0, bp_f, sX_x0 hX, sX_xr5 hX, sX_xk5 hX, sX_xl5 hX, M_it, M_if, M_rt, M_rf, M_pt hX, M_pf hX, M_yt hX, M_yf hX, M_r1 hX, M_r2 hX, M_r3 hX, M_r4 hX, M_r5 hX, M_an hX, g1, hn.1]
      all_goals rfl
    · rw [if_neg h3]
      have hq := M_ahead hr hb
      have r3 := hr.2.2
      refine ⟨xi_wI m 15 15 (zi (w 4 - w 5 + n * ahP w (pN w))), ?_, MM_an hC, fun b hb => ⟨wI_o (by omega), rfl⟩⟩
      unfold E_X9_lead
      simp (disch := omega) only [zi_f, zi_0, zi_1, zi_31, zi_all, zi_8, zi_16, zi_add, zi_sub, zi_mul, zi_neg, zi_lt, zi_le, zi_eq, zi_div, zi_t, zi_n, xb_I, xb_J, xb_V, xb_s, if_pos, if_neg, if_true, if_false, true_and, and_true, true_or, or_true, false_or, or_false, not_true, not_false_iff, zb_z, zb_o, zb_ft, tn_0, tn_1, tn_2, tn_3, tn_c, Int.reduceToNat, te_0, te_1, tk_0, tk_1, tk_m, ts_1, or_0, bp_f, sX_x0 hX, sX_xr5 hX, sX_xk5 hX, sX_xl5 hX, M_it, M_if, M_rt, M_rf, M_pt hX, M_pf hX, M_yt hX, M_yf hX, M_r1 hX, M_r2 hX, M_r3 hX, M_r4 hX, M_r5 hX, M_an hX, g1, hn.1, hq, r3]
      all_goals rfl
  · rw [if_neg h1]
    refine ⟨m, ?_, hC, fun b _ => Cself⟩
    unfold E_X9_lead
    simp (disch := omega) only [zi_f, zi_0, zi_1, zi_31, zi_all, zi_8, zi_16, zi_add, zi_sub, zi_mul, zi_neg, zi_lt, zi_le, zi_eq, zi_div, zi_t, zi_n, xb_I, xb_J, xb_V, xb_s, if_pos, if_neg, if_true, if_false, true_and, and_true, true_or, or_true, false_or, or_false, not_true, not_false_iff, zb_z, zb_o, zb_ft, tn_0, tn_1, tn_2, tn_3, tn_c, Int.reduceToNat, te_0, te_1, tk_0, tk_1, tk_m, ts_1, or_0, bp_f, sX_x0 hX, sX_xr5 hX, sX_xk5 hX, sX_xl5 hX, M_it, M_if, M_rt, M_rf, M_pt hX, M_pf hX, M_yt hX, M_yf hX, M_r1 hX, M_r2 hX, M_r3 hX, M_r4 hX, M_r5 hX, M_an hX, g1, hn.1]
    all_goals rfl
theorem o_lead (n : Int) : ∀ q, OK q → OK (sp_lead n q).2 := by
  intro q h
  unfold sp_lead
  repeat' split
  all_goals exact h
end
