/-! What the class's masks say, and who scores. -/
theorem rm_bt {w : Nat → Int} {i : Nat} (hb : Bd w) (hi : i < 6) {p : Nat} (hp : p < 21) : bt (rmV w i) p = rcP w i p := by
  have hq := hb.2.2.2.2 i hi
  have hc2 := reachP_b2 (k := w (10 + 4 * i)) (s := w (13 + 4 * i)) (by omega)
  have hk : isK (w (10 + 4 * i)) = decide (reachP (w (10 + 4 * i)) (w (13 + 4 * i)) ≠ -9) := by
    unfold isK
    apply decide_eq_decide.mpr
    unfold reachP
    repeat' split
    all_goals omega
  unfold rmV rcP
  rw [hk]
  generalize reachP (w (10 + 4 * i)) (w (13 + 4 * i)) = r at *
  have a1 := maxP_b 0 (w (12 + 4 * i) - r)
  have a2 := minP_b 20 (w (12 + 4 * i) + r)
  by_cases h : r = -9
  · rw [if_pos h, decide_eq_false (by omega), Bool.false_and, bt_0]
  · rw [if_neg h, decide_eq_true h, Bool.true_and, bt_span (by omega) (by omega) (by omega)]
    apply decide_eq_decide.mpr
    unfold apP
    split <;> omega
theorem op_bt {w : Nat → Int} (hb : Bd w) (e : Int) {p : Nat} (hp : p < 21) : ∀ n, n ≤ 6 → bt (opV w e n) p = !kpP w e p n := by
  intro n
  induction n with
  | zero =>
    intro _
    rw [show opV w e 0 = zi 2097151 from rfl, bt_all1 p (by omega), decide_eq_true hp]
    rfl
  | succ n ih =>
    intro hn
    rw [show opV w e (n + 1) = (if w (11 + 4 * n) = e then opV w e n &&& (rmV w n ^^^ zi (-1)) else opV w e n) from rfl, show kpP w e p (n + 1) = (kpP w e p n || (decide (w (11 + 4 * n) = e) && rcP w n p)) from rfl]
    by_cases h : w (11 + 4 * n) = e
    · rw [if_pos h, bt_and, bt_not _ (by omega), rm_bt hb (by omega) hp, ih (by omega), decide_eq_true h]
      cases kpP w e p n <;> cases rcP w n p <;> rfl
    · rw [if_neg h, ih (by omega), decide_eq_false h]
      cases kpP w e p n <;> rfl
theorem be_bt {s lo hi : Int} (h1 : 0 ≤ lo) (h2 : lo < hi) (h3 : hi ≤ 20) {p : Nat} (hp : p < 21) : bt (beV s lo hi) p = wiP s lo hi p := by
  unfold beV wiP
  split
  · rw [bt_span (by omega) (by omega) (by omega)]
  · rw [bt_span (by omega) (by omega) (by omega)]
theorem in_bt {w : Nat → Int} (hb : Bd w) (hc : Cd w) {e : Nat} (he : e < 2) {p : Nat} (hp : p < 21) : bt (inV w e) p = inP w e p := by
  have h1 := hc e he
  unfold inV inP
  rw [bt_and, be_bt (by omega) (by omega) (by omega) hp, op_bt hb _ hp _ hb.n.2]
theorem bb_in {w : Nat → Int} {i : Nat} (hb : Bd w) (hc : Cd w) (hi : i < 6) {f : Int} (hf : 0 ≤ f) {e : Nat} (he : e < 2) : (bbV w i f &&& inV w e = zi 0) = ((decide (ballP w i ≠ -9) && inP w e (minP 20 (ballP w i + f))) = false) := by
  have hB := ballP_b w i
  have a1 := minP_b 20 (ballP w i + f)
  unfold bbV
  by_cases h : 0 ≤ ballP w i
  · rw [if_pos h, bt_and0 (by omega), in_bt hb hc he (by omega), decide_eq_true (by omega), Bool.true_and, show ((minP 20 (ballP w i + f)).toNat : Int) = minP 20 (ballP w i + f) by omega]
  · rw [if_neg h, decide_eq_false (by omega), Bool.false_and]
    apply propext
    constructor
    · intro _; rfl
    · intro _
      apply bt_ext
      intro p hp
      rw [bt_and, bt_0, Bool.false_and]
theorem wb_b (x : Int32) (i : Nat) : 0 ≤ wbP x i ∧ wbP x i ≤ 1 := by
  unfold wbP
  split <;> omega
theorem wb_sh {x : Int32} {j : Nat} (hj : j < 32) : (x >>> (zi j &&& zi 31)) &&& zi 1 = zi (wbP x j) := by rw [bt_shr hj, zb_zi]; rfl
theorem wb_0 (i : Nat) : wbP (zi 0) i = 0 := by unfold wbP; rw [bt_0]; rfl
theorem sc_F {w : Nat → Int} {f : Nat → Int} {i : Nat} (h : f i = 0) : scF w f i = scP w i := by
  have hB := ballP_b w i
  unfold scF scP
  rw [h, Int.add_zero, show minP 20 (ballP w i) = ballP w i by unfold minP; split <;> omega]
theorem adv_eq {w : Nat → Int} {s : Int} {f : Nat → Int} : ∀ n, advP w s f n = cntP (fun i => scF w f i && sdP w s i) n - cntP (fun i => scF w f i && !sdP w s i) n := by
  intro n
  induction n with
  | zero => rfl
  | succ n ih =>
    rw [show advP w s f (n + 1) = (if scF w f n then (if w (11 + 4 * n) = s then advP w s f n + 1 else advP w s f n + -1) else advP w s f n) from rfl,
      show cntP (fun i => scF w f i && sdP w s i) (n + 1) = (if (scF w f n && sdP w s n) = true then cntP (fun i => scF w f i && sdP w s i) n + 1 else cntP (fun i => scF w f i && sdP w s i) n) from rfl,
      show cntP (fun i => scF w f i && !sdP w s i) (n + 1) = (if (scF w f n && !sdP w s n) = true then cntP (fun i => scF w f i && !sdP w s i) n + 1 else cntP (fun i => scF w f i && !sdP w s i) n) from rfl, ih]
    generalize cntP (fun i => scF w f i && sdP w s i) n = A
    generalize cntP (fun i => scF w f i && !sdP w s i) n = B
    unfold sdP
    cases scF w f n
    · rfl
    · by_cases h : w (11 + 4 * n) = s
      · simp [h]; omega
      · simp [h]; omega
theorem adv_ah {w : Nat → Int} {f : Nat → Int} (hf : ∀ i, f i = 0) (n : Nat) : advP w 0 f n = ahP w n := fo_cong fun k x _ => by rw [sc_F (hf k)]
section
variable {S : xi_S} {m : xi_M} {c : Nat} {w : Nat → Int} {i : Nat}
theorem C_scorers (hs : ShR S c) (hf : RF m c w) (hb : Bd w) (hc : Cd w) (x : Int32) : E_X6_scorers S c x m = some (some (.int (setP (scF w (wbP x)) (pN w))), m) := by
  have hn := hb.n
  have h0 := C_inPlaces hs hf hb hc (e := 0) (by omega)
  have h1 := C_inPlaces hs hf hb hc (e := 1) (by omega)
  have hbb := fun (j : Nat) (hj : j < pN w) (f : Int) (h3 : 0 ≤ f ∧ f ≤ 100) => C_ballBit hs hf hb hj h3
  obtain ⟨s0, s5, s6, s7, s8, s9, s10, s11, s12, s13, k1, k2, k3, k4, k5, k6, k7, k8, k9, l1, l2, l3, l4, l5, l6, l7, l8, l9⟩ := hs
  obtain ⟨f0, f1, f2, f3, fc, fg, fk, fs, fp, ft⟩ := hf
  unfold E_X6_scorers
  rw [show Int32.ofInt 0 = zi ((0 : Nat) : Int) from rfl, show Int32.ofInt 1 = zi ((1 : Nat) : Int) from rfl, if_pos s0, h0, xb_I, if_pos s0, h1, xb_I]
  refine lp_all (fun n j => G_X6_scorers_18 S n c x (inV w 0) (inV w 1) (setP (scF w (wbP x)) j) (zi j) m) (pN w) 10000 (fun j n hj => ?_) (fun n => ?_) (by omega)
  · have hq := hb.2.2.2.2 j (by omega)
    have hw := wb_b x j
    simp only [G_X6_scorers_18]
    simp (disch := omega) only [zi_f, zi_0, zi_1, zi_31, zi_all, zi_8, zi_16, zi_add, zi_sub, zi_mul, zi_neg, zi_lt, zi_le, zi_eq, zi_div, zi_t, zi_n, xb_I, xb_J, xb_V, xb_s, if_pos, if_neg, if_true, if_false, true_and, and_true, true_or, or_true, false_or, or_false, not_true, not_false_iff, zb_z, zb_o, zb_ft, tn_0, tn_1, tn_2, tn_3, tn_c, Int.reduceToNat, te_0, te_1, tk_0, tk_1, tk_m, ts_1, or_0, bp_f, s0, s5, s6, s7, s8, s9, s10, s11, s12, s13, k1, k2, k3, k4, k5, k6, k7, k8, k9, l1, l2, l3, l4, l5, l6, l7, l8, l9, f0, f1, f2, f3, fc, fg, fk, fs, fp, ft, hn.1, wb_sh, hbb, bb_in hb hc]
    rw [show setP (scF w (wbP x)) (j + 1) = (if scF w (wbP x) j then setP (scF w (wbP x)) j ||| bitP j else setP (scF w (wbP x)) j) from rfl]
    unfold scF oe
    by_cases h : w (11 + 4 * j) = 0
    · rw [if_pos h, h, show (1 - (0 : Int)).toNat = 1 from rfl]
      cases (decide (ballP w j ≠ -9) && inP w 1 (minP 20 (ballP w j + wbP x j))) <;> rfl
    · rw [if_neg h, show w (11 + 4 * j) = 1 by omega, show (1 - (1 : Int)).toNat = 0 from rfl]
      cases (decide (ballP w j ≠ -9) && inP w 0 (minP 20 (ballP w j + wbP x j))) <;> rfl
  · simp only [G_X6_scorers_18]
    simp (disch := omega) only [zi_f, zi_0, zi_1, zi_31, zi_all, zi_8, zi_16, zi_add, zi_sub, zi_mul, zi_neg, zi_lt, zi_le, zi_eq, zi_div, zi_t, zi_n, xb_I, xb_J, xb_V, xb_s, if_pos, if_neg, if_true, if_false, true_and, and_true, true_or, or_true, false_or, or_false, not_true, not_false_iff, zb_z, zb_o, zb_ft, tn_0, tn_1, tn_2, tn_3, tn_c, Int.reduceToNat, te_0, te_1, tk_0, tk_1, tk_m, ts_1, or_0, bp_f, s0, s5, s6, s7, s8, s9, s10, s11, s12, s13, k1, k2, k3, k4, k5, k6, k7, k8, k9, l1, l2, l3, l4, l5, l6, l7, l8, l9, f0, f1, f2, f3, fc, fg, fk, fs, fp, ft, hn.1]
theorem C_membersOf (hs : ShR S c) (hf : RF m c w) (hb : Bd w) {s : Int} (he : -1000 ≤ s ∧ s ≤ 1000) : E_X6_membersOf S c (zi s) m = some (some (.int (setP (sdP w s) (pN w))), m) := by
  have hn := hb.n
  obtain ⟨s0, s5, s6, s7, s8, s9, s10, s11, s12, s13, k1, k2, k3, k4, k5, k6, k7, k8, k9, l1, l2, l3, l4, l5, l6, l7, l8, l9⟩ := hs
  obtain ⟨f0, f1, f2, f3, fc, fg, fk, fs, fp, ft⟩ := hf
  unfold E_X6_membersOf
  refine lp_all (fun n j => G_X6_membersOf_4 S n c (zi s) (setP (sdP w s) j) (zi j) m) (pN w) 10000 (fun j n hj => ?_) (fun n => ?_) (by omega)
  · have hq := hb.2.2.2.2 j (by omega)
    simp only [G_X6_membersOf_4]
    simp (disch := omega) only [zi_f, zi_0, zi_1, zi_31, zi_all, zi_8, zi_16, zi_add, zi_sub, zi_mul, zi_neg, zi_lt, zi_le, zi_eq, zi_div, zi_t, zi_n, xb_I, xb_J, xb_V, xb_s, if_pos, if_neg, if_true, if_false, true_and, and_true, true_or, or_true, false_or, or_false, not_true, not_false_iff, zb_z, zb_o, zb_ft, tn_0, tn_1, tn_2, tn_3, tn_c, Int.reduceToNat, te_0, te_1, tk_0, tk_1, tk_m, ts_1, or_0, bp_f, s0, s5, s6, s7, s8, s9, s10, s11, s12, s13, k1, k2, k3, k4, k5, k6, k7, k8, k9, l1, l2, l3, l4, l5, l6, l7, l8, l9, f0, f1, f2, f3, fc, fg, fk, fs, fp, ft, hn.1]
    rw [show setP (sdP w s) (j + 1) = (if sdP w s j then setP (sdP w s) j ||| bitP j else setP (sdP w s) j) from rfl]
    unfold sdP
    by_cases h : w (11 + 4 * j) = s
    · rw [if_pos h, decide_eq_true h]; rfl
    · rw [if_neg h, decide_eq_false h]; rfl
  · simp only [G_X6_membersOf_4]
    simp (disch := omega) only [zi_f, zi_0, zi_1, zi_31, zi_all, zi_8, zi_16, zi_add, zi_sub, zi_mul, zi_neg, zi_lt, zi_le, zi_eq, zi_div, zi_t, zi_n, xb_I, xb_J, xb_V, xb_s, if_pos, if_neg, if_true, if_false, true_and, and_true, true_or, or_true, false_or, or_false, not_true, not_false_iff, zb_z, zb_o, zb_ft, tn_0, tn_1, tn_2, tn_3, tn_c, Int.reduceToNat, te_0, te_1, tk_0, tk_1, tk_m, ts_1, or_0, bp_f, s0, s5, s6, s7, s8, s9, s10, s11, s12, s13, k1, k2, k3, k4, k5, k6, k7, k8, k9, l1, l2, l3, l4, l5, l6, l7, l8, l9, f0, f1, f2, f3, fc, fg, fk, fs, fp, ft, hn.1]
theorem C_advantage (hs : ShR S c) (hf : RF m c w) (hb : Bd w) (hc : Cd w) {s : Int} (he : -1000 ≤ s ∧ s ≤ 1000) (x : Int32) : E_X6_advantage S c (zi s) x m = some (some (.int (zi (advP w s (wbP x) (pN w)))), m) := by
  have hn := hb.n
  have h1 := C_scorers hs hf hb hc x
  have h2 := C_membersOf hs hf hb he
  have s0 := hs.1
  unfold E_X6_advantage
  rw [if_pos s0, h1, xb_I, if_pos s0, h2, xb_I, C_bc, xb_I, C_bc, xb_I, zi_f, set_and _ _ (by omega), set_andn _ _ (by omega), bc_set _ _ hn.2, bc_set _ _ hn.2, zi_sub, adv_eq]
theorem C_witnesses (hs : ShR S c) (hf : RF m c w) (hb : Bd w) {k : Nat} (hk : k < 4) : E_X6_witnesses S c (zi k) m = some (some (.int (setP (seP w k) (pN w))), m) := by
  have hn := hb.n
  have hc := hb.2.2.2.1 k hk
  obtain ⟨s0, s5, s6, s7, s8, s9, s10, s11, s12, s13, k1, k2, k3, k4, k5, k6, k7, k8, k9, l1, l2, l3, l4, l5, l6, l7, l8, l9⟩ := hs
  obtain ⟨f0, f1, f2, f3, fc, fg, fk, fs, fp, ft⟩ := hf
  unfold E_X6_witnesses
  refine lp_all (fun n j => G_X6_witnesses_4 S n c (zi k) (setP (seP w k) j) (zi j) m) (pN w) 10000 (fun j n hj => ?_) (fun n => ?_) (by omega)
  · have hq := hb.2.2.2.2 j (by omega)
    have ha := apP_b (a := w (12 + 4 * j)) (b := w (6 + k)) (by omega) (by omega)
    simp only [G_X6_witnesses_4]
    simp (disch := omega) only [zi_f, zi_0, zi_1, zi_31, zi_all, zi_8, zi_16, zi_add, zi_sub, zi_mul, zi_neg, zi_lt, zi_le, zi_eq, zi_div, zi_t, zi_n, xb_I, xb_J, xb_V, xb_s, if_pos, if_neg, if_true, if_false, true_and, and_true, true_or, or_true, false_or, or_false, not_true, not_false_iff, zb_z, zb_o, zb_ft, tn_0, tn_1, tn_2, tn_3, tn_c, Int.reduceToNat, te_0, te_1, tk_0, tk_1, tk_m, ts_1, or_0, bp_f, s0, s5, s6, s7, s8, s9, s10, s11, s12, s13, k1, k2, k3, k4, k5, k6, k7, k8, k9, l1, l2, l3, l4, l5, l6, l7, l8, l9, f0, f1, f2, f3, fc, fg, fk, fs, fp, ft, hn.1, C_abs, ab_ap]
    rw [show setP (seP w k) (j + 1) = (if seP w k j then setP (seP w k) j ||| bitP j else setP (seP w k) j) from rfl]
    unfold seP
    by_cases h : w (11 + 4 * j) = (k : Int) / 2
    · rw [if_pos h, decide_eq_true h]
      by_cases h2 : 3 < apP (w (12 + 4 * j)) (w (6 + k))
      · rw [if_pos h2, decide_eq_false (by omega)]; rfl
      · rw [if_neg h2, decide_eq_true (by omega)]; rfl
    · rw [if_neg h, decide_eq_false h]; rfl
  · simp only [G_X6_witnesses_4]
    simp (disch := omega) only [zi_f, zi_0, zi_1, zi_31, zi_all, zi_8, zi_16, zi_add, zi_sub, zi_mul, zi_neg, zi_lt, zi_le, zi_eq, zi_div, zi_t, zi_n, xb_I, xb_J, xb_V, xb_s, if_pos, if_neg, if_true, if_false, true_and, and_true, true_or, or_true, false_or, or_false, not_true, not_false_iff, zb_z, zb_o, zb_ft, tn_0, tn_1, tn_2, tn_3, tn_c, Int.reduceToNat, te_0, te_1, tk_0, tk_1, tk_m, ts_1, or_0, bp_f, s0, s5, s6, s7, s8, s9, s10, s11, s12, s13, k1, k2, k3, k4, k5, k6, k7, k8, k9, l1, l2, l3, l4, l5, l6, l7, l8, l9, f0, f1, f2, f3, fc, fg, fk, fs, fp, ft, hn.1]
theorem odd_bt : ∀ k, k < 4 → zi (k : Nat) &&& zi 1 = zi ((k % 2 : Nat) : Int) := by decide +kernel
theorem C_mayMove {v : Nat → Int} (h1 : S.1 c = 0) (h2 : S.2.1 c = 4) (hv : ∀ k, k < 4 → m.1 c k = zi (v k)) (hvb : ∀ k, k < 4 → -1000 ≤ v k ∧ v k ≤ 1000) {k : Nat} (hk : k < 4) {n : Int} (hn : -1000 ≤ n ∧ n ≤ 1000) : E_X8_mayMove S c (zi k) (zi n) m = some (some (.int (zb (mvP v k n))), m) := by
  have b1 := hvb k hk
  unfold E_X8_mayMove mvP
  by_cases hc : k % 2 = 0
  · have b2 := hvb (k + 1) (by omega)
    have e1 : ((k : Int) + 1).toNat = k + 1 := by omega
    rw [if_pos hc, zi_f, odd_bt k hk, hc]
    simp (disch := omega) only [zi_f, zi_0, zi_1, zi_31, zi_all, zi_8, zi_16, zi_add, zi_sub, zi_mul, zi_neg, zi_lt, zi_le, zi_eq, zi_div, zi_t, zi_n, xb_I, xb_J, xb_V, xb_s, if_pos, if_neg, if_true, if_false, true_and, and_true, true_or, or_true, false_or, or_false, not_true, not_false_iff, zb_z, zb_o, zb_ft, tn_0, tn_1, tn_2, tn_3, tn_c, Int.reduceToNat, te_0, te_1, tk_0, tk_1, tk_m, ts_1, or_0, bp_f, h1, h2, hv, e1, C_within]
    by_cases h3 : v (k + 1) ≤ v k + n
    · rw [if_pos h3, decide_eq_false (p := v k + n < v (k + 1)) (by omega), Bool.and_false]; rfl
    · rw [if_neg h3, decide_eq_true (p := v k + n < v (k + 1)) (by omega), Bool.and_true]
      cases (decide (0 ≤ v k + n ∧ v k + n ≤ 20)) <;> rfl
  · have b2 := hvb (k - 1) (by omega)
    have e1 : ((k : Int) - 1).toNat = k - 1 := by omega
    rw [if_neg hc, zi_f, odd_bt k hk, show k % 2 = 1 by omega]
    simp (disch := omega) only [zi_f, zi_0, zi_1, zi_31, zi_all, zi_8, zi_16, zi_add, zi_sub, zi_mul, zi_neg, zi_lt, zi_le, zi_eq, zi_div, zi_t, zi_n, xb_I, xb_J, xb_V, xb_s, if_pos, if_neg, if_true, if_false, true_and, and_true, true_or, or_true, false_or, or_false, not_true, not_false_iff, zb_z, zb_o, zb_ft, tn_0, tn_1, tn_2, tn_3, tn_c, Int.reduceToNat, te_0, te_1, tk_0, tk_1, tk_m, ts_1, or_0, bp_f, h1, h2, hv, e1, C_within]
    by_cases h3 : v k + n ≤ v (k - 1)
    · rw [if_pos h3, decide_eq_false (p := v (k - 1) < v k + n) (by omega), Bool.and_false]; rfl
    · rw [if_neg h3, decide_eq_true (p := v (k - 1) < v k + n) (by omega), Bool.and_true]
      cases (decide (0 ≤ v k + n ∧ v k + n ≤ 20)) <;> rfl
end
