/-! the class's Reader: what it reads into the draft -/
def FD (R : Nat) (m m1 : xi_M) : Prop := (∀ b, b ≠ R → b < 60 ∨ 70 ≤ b → m1.1 b = m.1 b) ∧ m1.1 60 4 = m.1 60 4 ∧ m1.2 = m.2
theorem FD_t {R : Nat} {m m1 m2 : xi_M} (h1 : FD R m m1) (h2 : FD R m1 m2) : FD R m m2 := ⟨fun b x y => by rw [h2.1 b x y, h1.1 b x y], by rw [h2.2.1, h1.2.1], by rw [h2.2.2, h1.2.2]⟩
theorem FD_R {R : Nat} (hR : 100 ≤ R) {m m1 : xi_M} (h : ∀ b, b ≠ R → m1.1 b = m.1 b) (hl : m1.2 = m.2) : FD R m m1 := ⟨fun b x _ => h b x, by rw [h 60 (by omega)], hl⟩
theorem Tx_d {R u z : Nat} {c : Nat → Int} {m m1 : xi_M} (hR : 100 ≤ R) (hu : u < 4) (h : Tx m u z c) (hf : FD R m m1) : Tx m1 u z c := ⟨h.1, by rw [hf.1 _ (by omega) (by omega)]; exact h.2.1, fun k hk => by rw [hf.1 _ (by omega) (by omega)]; exact h.2.2 k hk⟩
theorem RF_u0 {m : xi_M} {w : Nat → Int} (h : RF m 60 w) (v : Int) : RF (xi_wI m 60 0 (zi v)) 60 (udW w 0 v) := by
  obtain ⟨f0, f1, f2, f3, fc, fg, fk, fs, fp, ft⟩ := h
  have en : pN (udW w 0 v) = pN w := by unfold pN; rw [ud_n (by omega)]
  refine ⟨by rw [mw_eq, ud_e], by rw [mw_ne (by omega), ud_n (by omega)]; exact f1, by rw [mw_ne (by omega), ud_n (by omega)]; exact f2, by rw [mw_ne (by omega), ud_n (by omega)]; exact f3, fun k hk => by rw [wI_o (by omega), ud_n (by omega)]; exact fc k hk, fun k hk => by rw [wI_o (by omega), ud_n (by omega)]; exact fg k hk, fun i hi => by rw [wI_o (by omega), ud_n (by omega)]; exact fk i (by omega), fun i hi => by rw [wI_o (by omega), ud_n (by omega)]; exact fs i (by omega), fun i hi => by rw [wI_o (by omega), ud_n (by omega)]; exact fp i (by omega), fun i hi => by rw [wI_o (by omega), ud_n (by omega)]; exact ft i (by omega)⟩
theorem RF_uc {m : xi_M} {w : Nat → Int} (h : RF m 60 w) {k : Nat} (hk : k < 4) (v : Int) : RF (xi_wI m 61 k (zi v)) 60 (udW w (6 + k) v) := by
  obtain ⟨f0, f1, f2, f3, fc, fg, fk, fs, fp, ft⟩ := h
  have en : pN (udW w (6 + k) v) = pN w := by unfold pN; rw [ud_n (by omega)]
  refine ⟨by rw [wI_o (by omega), ud_n (by omega)]; exact f0, by rw [wI_o (by omega), ud_n (by omega)]; exact f1, by rw [wI_o (by omega), ud_n (by omega)]; exact f2, by rw [wI_o (by omega), ud_n (by omega)]; exact f3, fun j hj => ?_, fun j hj => by rw [wI_o (by omega), ud_n (by omega)]; exact fg j hj, fun i hi => by rw [wI_o (by omega), ud_n (by omega)]; exact fk i (by omega), fun i hi => by rw [wI_o (by omega), ud_n (by omega)]; exact fs i (by omega), fun i hi => by rw [wI_o (by omega), ud_n (by omega)]; exact fp i (by omega), fun i hi => by rw [wI_o (by omega), ud_n (by omega)]; exact ft i (by omega)⟩
  show (xi_wI m 61 k (zi v)).1 61 j = _
  by_cases e : j = k
  · rw [e, mw_eq, ud_e]
  · rw [mw_ne (by omega), ud_n (by omega)]; exact fc j hj
theorem RF_up {m m1 : xi_M} {w : Nat → Int} {i : Nat} (hi : i < 6) {x0 x1 x2 x3 : Int} (h : RF m 60 w) (hw : w 1 = i) (ho : ∀ j, j ≠ 1 → m1.1 60 j = m.1 60 j) (h1 : m1.1 60 1 = zi ((i : Int) + 1)) (hc : m1.1 61 = m.1 61) (hg : m1.1 62 = m.1 62) (ha : ∀ j, m1.1 63 j = if j = i then zi x0 else m.1 63 j) (hb : ∀ j, m1.1 64 j = if j = i then zi x1 else m.1 64 j) (hd : ∀ j, m1.1 65 j = if j = i then zi x2 else m.1 65 j) (he : ∀ j, m1.1 66 j = if j = i then zi x3 else m.1 66 j) : RF m1 60 (udW (udW (udW (udW (udW w (10 + 4 * i) x0) (11 + 4 * i) x1) (12 + 4 * i) x2) (13 + 4 * i) x3) 1 ((i : Int) + 1)) := by
  obtain ⟨f0, f1, f2, f3, fc, fg, fk, fs, fp, ft⟩ := h
  generalize hv : udW (udW (udW (udW (udW w (10 + 4 * i) x0) (11 + 4 * i) x1) (12 + 4 * i) x2) (13 + 4 * i) x3) 1 ((i : Int) + 1) = v
  have w1 : v 1 = (i : Int) + 1 := by rw [← hv, ud_e]
  have wo : ∀ j, j ≠ 1 → (j < 10 + 4 * i ∨ 14 + 4 * i ≤ j) → v j = w j := fun j j1 j2 => by rw [← hv, ud_n j1, ud_n (by omega), ud_n (by omega), ud_n (by omega), ud_n (by omega)]
  have wa : v (10 + 4 * i) = x0 := by rw [← hv, ud_n (by omega), ud_n (by omega), ud_n (by omega), ud_n (by omega), ud_e]
  have wb : v (11 + 4 * i) = x1 := by rw [← hv, ud_n (by omega), ud_n (by omega), ud_n (by omega), ud_e]
  have wc : v (12 + 4 * i) = x2 := by rw [← hv, ud_n (by omega), ud_n (by omega), ud_e]
  have wd : v (13 + 4 * i) = x3 := by rw [← hv, ud_n (by omega), ud_e]
  clear hv
  have en : pN w = i := by unfold pN; omega
  have ev : pN v = i + 1 := by unfold pN; omega
  refine ⟨by rw [ho 0 (by omega), wo 0 (by omega) (by omega)]; exact f0, by rw [h1, w1], by rw [ho 2 (by omega), wo 2 (by omega) (by omega)]; exact f2, by rw [ho 3 (by omega), wo 3 (by omega) (by omega)]; exact f3, fun k hk => by rw [show 60 + 1 = 61 from rfl, hc, wo _ (by omega) (by omega)]; exact fc k hk, fun k hk => by rw [show 60 + 2 = 62 from rfl, hg, wo _ (by omega) (by omega)]; exact fg k hk, fun j hj => ?_, fun j hj => ?_, fun j hj => ?_, fun j hj => ?_⟩
  · rw [show 60 + 3 = 63 from rfl, ha]
    by_cases e : j = i
    · rw [if_pos e, e, wa]
    · rw [if_neg e, wo _ (by omega) (by omega)]; exact fk j (by omega)
  · rw [show 60 + 4 = 64 from rfl, hb]
    by_cases e : j = i
    · rw [if_pos e, e, wb]
    · rw [if_neg e, wo _ (by omega) (by omega)]; exact fs j (by omega)
  · rw [show 60 + 5 = 65 from rfl, hd]
    by_cases e : j = i
    · rw [if_pos e, e, wc]
    · rw [if_neg e, wo _ (by omega) (by omega)]; exact fp j (by omega)
  · rw [show 60 + 6 = 66 from rfl, he]
    by_cases e : j = i
    · rw [if_pos e, e, wd]
    · rw [if_neg e, wo _ (by omega) (by omega)]; exact ft j (by omega)
section
variable {S : xi_S} {m : xi_M} {c w : Nat → Int} {R u z : Nat}
theorem C_ofLetter {x : Int} (hx : -128 ≤ x ∧ x ≤ 127) : E_X4_ofLetter S (zi x) m = some (some (.int (zi (knP x))), m) := by
  unfold E_X4_ofLetter knP
  rw [zi_t (by omega) (by omega)]
  repeat' split
  all_goals first | rfl | omega
theorem C_clear {a : Nat} (hs : ShR S a) : ∃ m1, E_X6_clear S a m = some (none, m1) ∧ RF m1 a (fun _ => 0) ∧ m1.1 a 4 = zi 0 ∧ (∀ b, b < a ∨ a + 3 ≤ b → m1.1 b = m.1 b) ∧ m1.2 = m.2 := by
  have f1 := fun m : xi_M => C_fill (S := S) (m := m) (a := a + 1) (sR_k1 hs) (sR_l1 hs) (by omega) (zi 0)
  have f2 := fun m : xi_M => C_fill (S := S) (m := m) (a := a + 2) (sR_k2 hs) (sR_l2 hs) (by omega) (zi 0)
  refine ⟨wrM (wrM (xi_wI (xi_wI (xi_wI (xi_wI (xi_wI m a 0 (zi 0)) a 1 (zi 0)) a 2 (zi 0)) a 3 (zi 0)) a 4 (zi 0)) (a + 1) 0 (fun _ => zi 0) 4) (a + 2) 0 (fun _ => zi 0) 2, ?_, ⟨?_, ?_, ?_, ?_, fun k hk => ?_, fun k hk => ?_, fun i hi => absurd hi (by unfold pN; simp), fun i hi => absurd hi (by unfold pN; simp), fun i hi => absurd hi (by unfold pN; simp), fun i hi => absurd hi (by unfold pN; simp)⟩, ?_, fun b hb => ?_, ?_⟩
  · unfold E_X6_clear
    repeat (first | (with_reducible refine (if_pos ?_).trans ?_; focus (simp (disch := omega) only [zi_f, zi_0, zi_1, zi_31, zi_all, zi_8, zi_16, zi_add, zi_sub, zi_mul, zi_neg, zi_lt, zi_le, zi_eq, zi_div, zi_t, zi_n, xb_I, xb_J, xb_V, xb_s, if_pos, if_neg, if_true, if_false, true_and, and_true, true_or, or_true, false_or, or_false, not_true, not_false_iff, zb_z, zb_o, zb_ft, tn_0, tn_1, tn_2, tn_3, tn_c, Int.reduceToNat, te_0, te_1, tk_0, tk_1, tk_m, ts_1, or_0, bp_f, sR_s0 hs, sR_s5 hs, sR_s6 hs, sR_k1 hs, sR_k2 hs, sR_l1 hs, sR_l2 hs, f1, f2] <;> omega)) | (with_reducible refine (if_neg ?_).trans ?_; focus (simp (disch := omega) only [zi_f, zi_0, zi_1, zi_31, zi_all, zi_8, zi_16, zi_add, zi_sub, zi_mul, zi_neg, zi_lt, zi_le, zi_eq, zi_div, zi_t, zi_n, xb_I, xb_J, xb_V, xb_s, if_pos, if_neg, if_true, if_false, true_and, and_true, true_or, or_true, false_or, or_false, not_true, not_false_iff, zb_z, zb_o, zb_ft, tn_0, tn_1, tn_2, tn_3, tn_c, Int.reduceToNat, te_0, te_1, tk_0, tk_1, tk_m, ts_1, or_0, bp_f, sR_s0 hs, sR_s5 hs, sR_s6 hs, sR_k1 hs, sR_k2 hs, sR_l1 hs, sR_l2 hs, f1, f2] <;> omega)) | ((conv => lhs; arg 1; simp (disch := omega) only [zi_f, zi_0, zi_1, zi_31, zi_all, zi_8, zi_16, zi_add, zi_sub, zi_mul, zi_neg, zi_lt, zi_le, zi_eq, zi_div, zi_t, zi_n, xb_I, xb_J, xb_V, xb_s, if_pos, if_neg, if_true, if_false, true_and, and_true, true_or, or_true, false_or, or_false, not_true, not_false_iff, zb_z, zb_o, zb_ft, tn_0, tn_1, tn_2, tn_3, tn_c, Int.reduceToNat, te_0, te_1, tk_0, tk_1, tk_m, ts_1, or_0, bp_f, sR_s0 hs, sR_s5 hs, sR_s6 hs, sR_k1 hs, sR_k2 hs, sR_l1 hs, sR_l2 hs, f1, f2]); first | with_reducible refine xb_I.trans ?_ | with_reducible refine xb_V.trans ?_ | with_reducible refine xb_J.trans ?_ | with_reducible refine xb_s.trans ?_))
    first | (simp (disch := omega) only [zi_f, zi_0, zi_1, zi_31, zi_all, zi_8, zi_16, zi_add, zi_sub, zi_mul, zi_neg, zi_lt, zi_le, zi_eq, zi_div, zi_t, zi_n, xb_I, xb_J, xb_V, xb_s, if_pos, if_neg, if_true, if_false, true_and, and_true, true_or, or_true, false_or, or_false, not_true, not_false_iff, zb_z, zb_o, zb_ft, tn_0, tn_1, tn_2, tn_3, tn_c, Int.reduceToNat, te_0, te_1, tk_0, tk_1, tk_m, ts_1, or_0, bp_f, vI, sR_s0 hs, sR_s5 hs, sR_s6 hs, sR_k1 hs, sR_k2 hs, sR_l1 hs, sR_l2 hs, f1, f2]; done) | rfl | (simp (disch := omega) only [zi_f, zi_0, zi_1, zi_31, zi_all, zi_8, zi_16, zi_add, zi_sub, zi_mul, zi_neg, zi_lt, zi_le, zi_eq, zi_div, zi_t, zi_n, xb_I, xb_J, xb_V, xb_s, if_pos, if_neg, if_true, if_false, true_and, and_true, true_or, or_true, false_or, or_false, not_true, not_false_iff, zb_z, zb_o, zb_ft, tn_0, tn_1, tn_2, tn_3, tn_c, Int.reduceToNat, te_0, te_1, tk_0, tk_1, tk_m, ts_1, or_0, bp_f, vI, sR_s0 hs, sR_s5 hs, sR_s6 hs, sR_k1 hs, sR_k2 hs, sR_l1 hs, sR_l2 hs, f1, f2]; rfl)
  · rw [wr_o (by omega), wr_o (by omega), mw_ne (by omega), mw_ne (by omega), mw_ne (by omega), mw_ne (by omega), mw_eq]
  · rw [wr_o (by omega), wr_o (by omega), mw_ne (by omega), mw_ne (by omega), mw_ne (by omega), mw_eq]
  · rw [wr_o (by omega), wr_o (by omega), mw_ne (by omega), mw_ne (by omega), mw_eq]
  · rw [wr_o (by omega), wr_o (by omega), mw_ne (by omega), mw_eq]
  · rw [wr_o (by omega), wr_if, if_pos (by omega)]
  · rw [wr_if, if_pos (by omega)]
  · rw [wr_o (by omega), wr_o (by omega), mw_eq]
  · rw [wr_o (by omega), wr_o (by omega), wI_o (by omega), wI_o (by omega), wI_o (by omega), wI_o (by omega), wI_o (by omega)]
  · rw [wr_l, wr_l, mw_l, mw_l, mw_l, mw_l, mw_l]
theorem C_rdS (hs : ShR S 60) (hD : ShD S R u) (hT : Tx m u z c) (hr : Rs m R (-9, 0)) (hf : RF m 60 (fun _ => 0)) : ∃ m1, E_X5_readSchool S R 60 m = some (none, m1) ∧ Rs m1 R (rcS z c).1 ∧ RF m1 60 (rcS z c).2 ∧ FD R m m1 := by
  obtain ⟨hR1, hu, hR, hRt, h9, hi9, hk0, hl⟩ := id hD
  have P0 : PB z (-9, 0) := ⟨Nat.zero_le _, Or.inl rfl⟩
  obtain ⟨ma, a1, a2, a3, a4⟩ := C_skip hD hT hr P0
  have Ta := Tx_fr hT hR1 hu a3
  have Pa := PB_bl (c := c) P0
  obtain ⟨mb, b1, b2, b3, b4⟩ := C_letterR hD Ta a2 Pa (ch := 103) (by omega)
  have Tb := Tx_fr Ta hR1 hu b3
  have Pb := PB_lt (c := c) (ch := 103) (by omega) Pa
  obtain ⟨md, d1, d2, d3, d4⟩ := C_figureR hD Tb b2 Pb (lo := 0) (hi := 1) (by omega) (by omega)
  have om : ∀ b, b ≠ R → md.1 b = m.1 b := fun b hb => by rw [d3 b hb, b3 b hb, a3 b hb]
  have lm : md.2 = m.2 := by rw [d4, b4, a4]
  have fm : RF md 60 (fun _ => 0) := RF_fr (fun b q1 q2 => om b (by omega)) hf
  refine ⟨xi_wI md 60 0 (zi (fgV z c 0 1 (leS z c 103 (blS z c (-9, 0))))), ?_, ⟨by rw [wI_o (by omega)]; exact d2.1, by rw [wI_o (by omega)]; exact d2.2⟩, RF_u0 fm _, ⟨fun b x y => by rw [wI_o (by omega), om b x], by rw [mw_ne (by omega), om 60 (by omega)], by rw [mw_l, lm]⟩⟩
  clear hT hD Ta Tb a2 b2 d2 fm hf hr
  generalize fgV z c 0 1 (leS z c 103 (blS z c (-9, 0))) = v at *
  unfold E_X5_readSchool
  repeat (first | (with_reducible refine (if_pos ?_).trans ?_; focus (simp (disch := omega) only [zi_f, zi_0, zi_1, zi_31, zi_all, zi_8, zi_16, zi_add, zi_sub, zi_mul, zi_neg, zi_lt, zi_le, zi_eq, zi_div, zi_t, zi_n, xb_I, xb_J, xb_V, xb_s, if_pos, if_neg, if_true, if_false, true_and, and_true, true_or, or_true, false_or, or_false, not_true, not_false_iff, zb_z, zb_o, zb_ft, tn_0, tn_1, tn_2, tn_3, tn_c, Int.reduceToNat, te_0, te_1, tk_0, tk_1, tk_m, ts_1, or_0, bp_f, hR, hRt, h9, hi9, hk0, hl, sR_s0 hs, a1, b1, d1] <;> omega)) | (with_reducible refine (if_neg ?_).trans ?_; focus (simp (disch := omega) only [zi_f, zi_0, zi_1, zi_31, zi_all, zi_8, zi_16, zi_add, zi_sub, zi_mul, zi_neg, zi_lt, zi_le, zi_eq, zi_div, zi_t, zi_n, xb_I, xb_J, xb_V, xb_s, if_pos, if_neg, if_true, if_false, true_and, and_true, true_or, or_true, false_or, or_false, not_true, not_false_iff, zb_z, zb_o, zb_ft, tn_0, tn_1, tn_2, tn_3, tn_c, Int.reduceToNat, te_0, te_1, tk_0, tk_1, tk_m, ts_1, or_0, bp_f, hR, hRt, h9, hi9, hk0, hl, sR_s0 hs, a1, b1, d1] <;> omega)) | ((conv => lhs; arg 1; simp (disch := omega) only [zi_f, zi_0, zi_1, zi_31, zi_all, zi_8, zi_16, zi_add, zi_sub, zi_mul, zi_neg, zi_lt, zi_le, zi_eq, zi_div, zi_t, zi_n, xb_I, xb_J, xb_V, xb_s, if_pos, if_neg, if_true, if_false, true_and, and_true, true_or, or_true, false_or, or_false, not_true, not_false_iff, zb_z, zb_o, zb_ft, tn_0, tn_1, tn_2, tn_3, tn_c, Int.reduceToNat, te_0, te_1, tk_0, tk_1, tk_m, ts_1, or_0, bp_f, hR, hRt, h9, hi9, hk0, hl, sR_s0 hs, a1, b1, d1]); first | with_reducible refine xb_I.trans ?_ | with_reducible refine xb_V.trans ?_ | with_reducible refine xb_J.trans ?_ | with_reducible refine xb_s.trans ?_))
  first | (simp (disch := omega) only [zi_f, zi_0, zi_1, zi_31, zi_all, zi_8, zi_16, zi_add, zi_sub, zi_mul, zi_neg, zi_lt, zi_le, zi_eq, zi_div, zi_t, zi_n, xb_I, xb_J, xb_V, xb_s, if_pos, if_neg, if_true, if_false, true_and, and_true, true_or, or_true, false_or, or_false, not_true, not_false_iff, zb_z, zb_o, zb_ft, tn_0, tn_1, tn_2, tn_3, tn_c, Int.reduceToNat, te_0, te_1, tk_0, tk_1, tk_m, ts_1, or_0, bp_f, vI, hR, hRt, h9, hi9, hk0, hl, sR_s0 hs, a1, b1, d1]; done) | rfl | (simp (disch := omega) only [zi_f, zi_0, zi_1, zi_31, zi_all, zi_8, zi_16, zi_add, zi_sub, zi_mul, zi_neg, zi_lt, zi_le, zi_eq, zi_div, zi_t, zi_n, xb_I, xb_J, xb_V, xb_s, if_pos, if_neg, if_true, if_false, true_and, and_true, true_or, or_true, false_or, or_false, not_true, not_false_iff, zb_z, zb_o, zb_ft, tn_0, tn_1, tn_2, tn_3, tn_c, Int.reduceToNat, te_0, te_1, tk_0, tk_1, tk_m, ts_1, or_0, bp_f, vI, hR, hRt, h9, hi9, hk0, hl, sR_s0 hs, a1, b1, d1]; rfl)

theorem C_rdC (hs : ShR S 60) (hD : ShD S R u) (hT : Tx m u z c) {q : (Int × Nat) × (Nat → Int)} (hr : Rs m R q.1) (hP : PB z q.1) (hf : RF m 60 q.2) {k : Nat} (hk : k < 4) (hco : k % 2 = 1 → 0 ≤ q.2 (6 + (k - 1)) ∧ q.2 (6 + (k - 1)) ≤ 99) : ∃ m1, E_X5_readCoat S R 60 (zi (k : Nat)) m = some (none, m1) ∧ Rs m1 R (coS z c k q).1 ∧ RF m1 60 (coS z c k q).2 ∧ FD R m m1 := by
  obtain ⟨hR1, hu, hR, hRt, h9, hi9, hk0, hl⟩ := id hD
  obtain ⟨ma, a1, a2, a3, a4⟩ := C_skip hD hT hr hP
  have Ta := Tx_fr hT hR1 hu a3
  have Pa := PB_bl (c := c) hP
  obtain ⟨mb, b1, b2, b3, b4⟩ := C_letterR hD Ta a2 Pa (ch := 99) (by omega)
  have Tb := Tx_fr Ta hR1 hu b3
  have Pb := PB_lt (c := c) (ch := 99) (by omega) Pa
  have hL : 0 ≤ coL k q.2 ∧ coL k q.2 ≤ 1000 := by
    unfold coL
    by_cases e : k % 2 = 1
    · rw [if_pos e]; have := hco e; omega
    · rw [if_neg e]; omega
  obtain ⟨md, d1, d2, d3, d4⟩ := C_twoR hD Tb b2 Pb (lo := coL k q.2) hL
  have om : ∀ b, b ≠ R → md.1 b = m.1 b := fun b hb => by rw [d3 b hb, b3 b hb, a3 b hb]
  have lm : md.2 = m.2 := by rw [d4, b4, a4]
  have fm : RF md 60 q.2 := RF_fr (fun b q1 q2 => om b (by omega)) hf
  have fb : RF mb 60 q.2 := RF_fr (fun b q1 q2 => by rw [b3 b (by omega), a3 b (by omega)]) hf
  refine ⟨xi_wI md 61 k (zi (twV z c (leS z c 99 (blS z c q.1)))), ?_, ⟨by rw [wI_o (by omega)]; exact d2.1, by rw [wI_o (by omega)]; exact d2.2⟩, RF_uc fm hk _, ⟨fun b x y => by rw [wI_o (by omega), om b x], by rw [wI_o (by omega), om 60 (by omega)], by rw [mw_l, lm]⟩⟩
  have hand : zi (k : Nat) &&& zi 1 = zi ((k % 2 : Nat) : Int) := by
    have h4 : k = 0 ∨ k = 1 ∨ k = 2 ∨ k = 3 := by omega
    rcases h4 with e | e | e | e <;> subst e <;> decide
  have vb := tw_v z c (coL k q.2) (leS z c 99 (blS z c q.1))
  generalize twV z c (leS z c 99 (blS z c q.1)) = v at *
  by_cases e : k % 2 = 1
  · have hcv := fb.2.2.2.2.1 (k - 1) (by omega)
    have hb9 := hco e
    unfold coL at d1
    rw [if_pos e] at d1
    rw [e, show ((1 : Nat) : Int) = 1 from rfl] at hand
    have et : ((k : Int) - 1).toNat = k - 1 := by omega
    clear hT hD Ta Tb a2 b2 d2 fm hf hr fb hL hco hP Pa Pb
    generalize q.2 (6 + (k - 1)) = y at *
    unfold E_X5_readCoat
    repeat (first | (with_reducible refine (if_pos ?_).trans ?_; focus (simp (disch := omega) only [zi_f, zi_0, zi_1, zi_31, zi_all, zi_8, zi_16, zi_add, zi_sub, zi_mul, zi_neg, zi_lt, zi_le, zi_eq, zi_div, zi_t, zi_n, xb_I, xb_J, xb_V, xb_s, if_pos, if_neg, if_true, if_false, true_and, and_true, true_or, or_true, false_or, or_false, not_true, not_false_iff, zb_z, zb_o, zb_ft, tn_0, tn_1, tn_2, tn_3, tn_c, Int.reduceToNat, te_0, te_1, tk_0, tk_1, tk_m, ts_1, or_0, bp_f, hR, hRt, h9, hi9, hk0, hl, sR_s0 hs, sR_s5 hs, sR_s6 hs, sR_s7 hs, sR_s8 hs, sR_s9 hs, sR_s10 hs, sR_k1 hs, sR_k2 hs, sR_k3 hs, sR_k4 hs, sR_k5 hs, sR_k6 hs, sR_l1 hs, sR_l2 hs, sR_l3 hs, sR_l4 hs, sR_l5 hs, sR_l6 hs, hand, et, hcv, a1, b1, d1] <;> omega)) | (with_reducible refine (if_neg ?_).trans ?_; focus (simp (disch := omega) only [zi_f, zi_0, zi_1, zi_31, zi_all, zi_8, zi_16, zi_add, zi_sub, zi_mul, zi_neg, zi_lt, zi_le, zi_eq, zi_div, zi_t, zi_n, xb_I, xb_J, xb_V, xb_s, if_pos, if_neg, if_true, if_false, true_and, and_true, true_or, or_true, false_or, or_false, not_true, not_false_iff, zb_z, zb_o, zb_ft, tn_0, tn_1, tn_2, tn_3, tn_c, Int.reduceToNat, te_0, te_1, tk_0, tk_1, tk_m, ts_1, or_0, bp_f, hR, hRt, h9, hi9, hk0, hl, sR_s0 hs, sR_s5 hs, sR_s6 hs, sR_s7 hs, sR_s8 hs, sR_s9 hs, sR_s10 hs, sR_k1 hs, sR_k2 hs, sR_k3 hs, sR_k4 hs, sR_k5 hs, sR_k6 hs, sR_l1 hs, sR_l2 hs, sR_l3 hs, sR_l4 hs, sR_l5 hs, sR_l6 hs, hand, et, hcv, a1, b1, d1] <;> omega)) | ((conv => lhs; arg 1; simp (disch := omega) only [zi_f, zi_0, zi_1, zi_31, zi_all, zi_8, zi_16, zi_add, zi_sub, zi_mul, zi_neg, zi_lt, zi_le, zi_eq, zi_div, zi_t, zi_n, xb_I, xb_J, xb_V, xb_s, if_pos, if_neg, if_true, if_false, true_and, and_true, true_or, or_true, false_or, or_false, not_true, not_false_iff, zb_z, zb_o, zb_ft, tn_0, tn_1, tn_2, tn_3, tn_c, Int.reduceToNat, te_0, te_1, tk_0, tk_1, tk_m, ts_1, or_0, bp_f, hR, hRt, h9, hi9, hk0, hl, sR_s0 hs, sR_s5 hs, sR_s6 hs, sR_s7 hs, sR_s8 hs, sR_s9 hs, sR_s10 hs, sR_k1 hs, sR_k2 hs, sR_k3 hs, sR_k4 hs, sR_k5 hs, sR_k6 hs, sR_l1 hs, sR_l2 hs, sR_l3 hs, sR_l4 hs, sR_l5 hs, sR_l6 hs, hand, et, hcv, a1, b1, d1]); first | with_reducible refine xb_I.trans ?_ | with_reducible refine xb_V.trans ?_ | with_reducible refine xb_J.trans ?_ | with_reducible refine xb_s.trans ?_))
    first | (simp (disch := omega) only [zi_f, zi_0, zi_1, zi_31, zi_all, zi_8, zi_16, zi_add, zi_sub, zi_mul, zi_neg, zi_lt, zi_le, zi_eq, zi_div, zi_t, zi_n, xb_I, xb_J, xb_V, xb_s, if_pos, if_neg, if_true, if_false, true_and, and_true, true_or, or_true, false_or, or_false, not_true, not_false_iff, zb_z, zb_o, zb_ft, tn_0, tn_1, tn_2, tn_3, tn_c, Int.reduceToNat, te_0, te_1, tk_0, tk_1, tk_m, ts_1, or_0, bp_f, vI, hR, hRt, h9, hi9, hk0, hl, sR_s0 hs, sR_s5 hs, sR_s6 hs, sR_s7 hs, sR_s8 hs, sR_s9 hs, sR_s10 hs, sR_k1 hs, sR_k2 hs, sR_k3 hs, sR_k4 hs, sR_k5 hs, sR_k6 hs, sR_l1 hs, sR_l2 hs, sR_l3 hs, sR_l4 hs, sR_l5 hs, sR_l6 hs, hand, et, hcv, a1, b1, d1]; done) | rfl | (simp (disch := omega) only [zi_f, zi_0, zi_1, zi_31, zi_all, zi_8, zi_16, zi_add, zi_sub, zi_mul, zi_neg, zi_lt, zi_le, zi_eq, zi_div, zi_t, zi_n, xb_I, xb_J, xb_V, xb_s, if_pos, if_neg, if_true, if_false, true_and, and_true, true_or, or_true, false_or, or_false, not_true, not_false_iff, zb_z, zb_o, zb_ft, tn_0, tn_1, tn_2, tn_3, tn_c, Int.reduceToNat, te_0, te_1, tk_0, tk_1, tk_m, ts_1, or_0, bp_f, vI, hR, hRt, h9, hi9, hk0, hl, sR_s0 hs, sR_s5 hs, sR_s6 hs, sR_s7 hs, sR_s8 hs, sR_s9 hs, sR_s10 hs, sR_k1 hs, sR_k2 hs, sR_k3 hs, sR_k4 hs, sR_k5 hs, sR_k6 hs, sR_l1 hs, sR_l2 hs, sR_l3 hs, sR_l4 hs, sR_l5 hs, sR_l6 hs, hand, et, hcv, a1, b1, d1]; rfl)
  · have e0 : k % 2 = 0 := by omega
    unfold coL at d1
    rw [if_neg e] at d1
    rw [e0, show ((0 : Nat) : Int) = 0 from rfl] at hand
    clear hT hD Ta Tb a2 b2 d2 fm hf hr fb hL hco hP Pa Pb
    unfold E_X5_readCoat
    repeat (first | (with_reducible refine (if_pos ?_).trans ?_; focus (simp (disch := omega) only [zi_f, zi_0, zi_1, zi_31, zi_all, zi_8, zi_16, zi_add, zi_sub, zi_mul, zi_neg, zi_lt, zi_le, zi_eq, zi_div, zi_t, zi_n, xb_I, xb_J, xb_V, xb_s, if_pos, if_neg, if_true, if_false, true_and, and_true, true_or, or_true, false_or, or_false, not_true, not_false_iff, zb_z, zb_o, zb_ft, tn_0, tn_1, tn_2, tn_3, tn_c, Int.reduceToNat, te_0, te_1, tk_0, tk_1, tk_m, ts_1, or_0, bp_f, hR, hRt, h9, hi9, hk0, hl, sR_s0 hs, sR_s5 hs, sR_s6 hs, sR_s7 hs, sR_s8 hs, sR_s9 hs, sR_s10 hs, sR_k1 hs, sR_k2 hs, sR_k3 hs, sR_k4 hs, sR_k5 hs, sR_k6 hs, sR_l1 hs, sR_l2 hs, sR_l3 hs, sR_l4 hs, sR_l5 hs, sR_l6 hs, hand, a1, b1, d1] <;> omega)) | (with_reducible refine (if_neg ?_).trans ?_; focus (simp (disch := omega) only [zi_f, zi_0, zi_1, zi_31, zi_all, zi_8, zi_16, zi_add, zi_sub, zi_mul, zi_neg, zi_lt, zi_le, zi_eq, zi_div, zi_t, zi_n, xb_I, xb_J, xb_V, xb_s, if_pos, if_neg, if_true, if_false, true_and, and_true, true_or, or_true, false_or, or_false, not_true, not_false_iff, zb_z, zb_o, zb_ft, tn_0, tn_1, tn_2, tn_3, tn_c, Int.reduceToNat, te_0, te_1, tk_0, tk_1, tk_m, ts_1, or_0, bp_f, hR, hRt, h9, hi9, hk0, hl, sR_s0 hs, sR_s5 hs, sR_s6 hs, sR_s7 hs, sR_s8 hs, sR_s9 hs, sR_s10 hs, sR_k1 hs, sR_k2 hs, sR_k3 hs, sR_k4 hs, sR_k5 hs, sR_k6 hs, sR_l1 hs, sR_l2 hs, sR_l3 hs, sR_l4 hs, sR_l5 hs, sR_l6 hs, hand, a1, b1, d1] <;> omega)) | ((conv => lhs; arg 1; simp (disch := omega) only [zi_f, zi_0, zi_1, zi_31, zi_all, zi_8, zi_16, zi_add, zi_sub, zi_mul, zi_neg, zi_lt, zi_le, zi_eq, zi_div, zi_t, zi_n, xb_I, xb_J, xb_V, xb_s, if_pos, if_neg, if_true, if_false, true_and, and_true, true_or, or_true, false_or, or_false, not_true, not_false_iff, zb_z, zb_o, zb_ft, tn_0, tn_1, tn_2, tn_3, tn_c, Int.reduceToNat, te_0, te_1, tk_0, tk_1, tk_m, ts_1, or_0, bp_f, hR, hRt, h9, hi9, hk0, hl, sR_s0 hs, sR_s5 hs, sR_s6 hs, sR_s7 hs, sR_s8 hs, sR_s9 hs, sR_s10 hs, sR_k1 hs, sR_k2 hs, sR_k3 hs, sR_k4 hs, sR_k5 hs, sR_k6 hs, sR_l1 hs, sR_l2 hs, sR_l3 hs, sR_l4 hs, sR_l5 hs, sR_l6 hs, hand, a1, b1, d1]); first | with_reducible refine xb_I.trans ?_ | with_reducible refine xb_V.trans ?_ | with_reducible refine xb_J.trans ?_ | with_reducible refine xb_s.trans ?_))
    first | (simp (disch := omega) only [zi_f, zi_0, zi_1, zi_31, zi_all, zi_8, zi_16, zi_add, zi_sub, zi_mul, zi_neg, zi_lt, zi_le, zi_eq, zi_div, zi_t, zi_n, xb_I, xb_J, xb_V, xb_s, if_pos, if_neg, if_true, if_false, true_and, and_true, true_or, or_true, false_or, or_false, not_true, not_false_iff, zb_z, zb_o, zb_ft, tn_0, tn_1, tn_2, tn_3, tn_c, Int.reduceToNat, te_0, te_1, tk_0, tk_1, tk_m, ts_1, or_0, bp_f, vI, hR, hRt, h9, hi9, hk0, hl, sR_s0 hs, sR_s5 hs, sR_s6 hs, sR_s7 hs, sR_s8 hs, sR_s9 hs, sR_s10 hs, sR_k1 hs, sR_k2 hs, sR_k3 hs, sR_k4 hs, sR_k5 hs, sR_k6 hs, sR_l1 hs, sR_l2 hs, sR_l3 hs, sR_l4 hs, sR_l5 hs, sR_l6 hs, hand, a1, b1, d1]; done) | rfl | (simp (disch := omega) only [zi_f, zi_0, zi_1, zi_31, zi_all, zi_8, zi_16, zi_add, zi_sub, zi_mul, zi_neg, zi_lt, zi_le, zi_eq, zi_div, zi_t, zi_n, xb_I, xb_J, xb_V, xb_s, if_pos, if_neg, if_true, if_false, true_and, and_true, true_or, or_true, false_or, or_false, not_true, not_false_iff, zb_z, zb_o, zb_ft, tn_0, tn_1, tn_2, tn_3, tn_c, Int.reduceToNat, te_0, te_1, tk_0, tk_1, tk_m, ts_1, or_0, bp_f, vI, hR, hRt, h9, hi9, hk0, hl, sR_s0 hs, sR_s5 hs, sR_s6 hs, sR_s7 hs, sR_s8 hs, sR_s9 hs, sR_s10 hs, sR_k1 hs, sR_k2 hs, sR_k3 hs, sR_k4 hs, sR_k5 hs, sR_k6 hs, sR_l1 hs, sR_l2 hs, sR_l3 hs, sR_l4 hs, sR_l5 hs, sR_l6 hs, hand, a1, b1, d1]; rfl)

set_option maxHeartbeats 4000000 in
theorem C_rdPl (hs : ShR S 60) (hD : ShD S R u) (hT : Tx m u z c) {q : (Int × Nat) × (Nat → Int)} (hr : Rs m R q.1) (hP : PB z q.1) (hf : RF m 60 q.2) {i : Nat} (hi : i < 7) (hI : PlI z i q) : ∃ m1, E_X5_readPlayer S R 60 (zi (i : Nat)) m = some (none, m1) ∧ Rs m1 R (plS z c i q).1 ∧ RF m1 60 (plS z c i q).2 ∧ FD R m m1 := by
  obtain ⟨hR1, hu, hR, hRt, h9, hi9, hk0, hl⟩ := id hD
  obtain ⟨ma, a1, a2, a3, a4⟩ := C_skip hD hT hr hP
  have Ta := Tx_fr hT hR1 hu a3
  have Pa := PB_bl (c := c) hP
  have hbl := bl_b (z := z) (c := c) _ q.1.2 rfl hP.1
  have fa : RF ma 60 q.2 := RF_fr (fun b q1 q2 => a3 b (by omega)) hf
  have hz := Ta.2.1
  have hz60 := Ta.1.1
  have ra1 : ma.1 R 1 = zi (((blS z c q.1).2 : Nat) : Int) := a2.1
  have ra2 : ma.1 R 2 = zi q.1.1 := a2.2
  have hq1 : q.1.1 = -9 ∨ (0 ≤ q.1.1 ∧ q.1.1 ≤ z) := hP.2
  have hq2 : (blS z c q.1).2 ≤ z := hbl.2.1
  have hge : q.1.2 ≤ (blS z c q.1).2 := hbl.1
  unfold plS
  by_cases e : q.1.1 = -9 ∧ ¬ (z ≤ (blS z c q.1).2 ∧ 0 < i)
  · rw [if_pos e]
    rw [e.1] at ra2
    by_cases e2 : knP (lkP z c (blS z c q.1).2) = -9 ∨ 6 ≤ i
    · rw [if_pos e2]
      refine ⟨xi_wI ma R 2 (zi ((blS z c q.1).2 : Nat)), ?_, ⟨by rw [mw_ne (by omega)]; exact ra1, by rw [mw_eq]⟩, RF_fr (fun b q1 q2 => wI_o (by omega)) fa, FD_t (FD_R hR1 a3 a4) (FD_R hR1 (fun b hb => wI_o hb) rfl)⟩
      clear fa hf hI hr a2
      generalize (blS z c q.1).2 = a at *
      by_cases e3 : a < z
      · have hv := Ta.2.2 a e3
        have hca := Ta.1.2 a
        have hof := C_ofLetter (S := S) (m := ma) (x := c a) hca
        unfold lkP at e2
        rw [if_pos e3] at e2
        have hkb := kn_b (c a)
        generalize knP (c a) = kd at *
        clear hT hD Ta
        by_cases e4 : kd = -9
        · rw [e4] at hof
          unfold E_X5_readPlayer
          repeat (first | (with_reducible refine (if_pos ?_).trans ?_; focus (simp (disch := omega) only [zi_f, zi_0, zi_1, zi_31, zi_all, zi_8, zi_16, zi_add, zi_sub, zi_mul, zi_neg, zi_lt, zi_le, zi_eq, zi_div, zi_t, zi_n, xb_I, xb_J, xb_V, xb_s, if_pos, if_neg, if_true, if_false, true_and, and_true, true_or, or_true, false_or, or_false, not_true, not_false_iff, zb_z, zb_o, zb_ft, tn_0, tn_1, tn_2, tn_3, tn_c, Int.reduceToNat, te_0, te_1, tk_0, tk_1, tk_m, ts_1, or_0, bp_f, hR, hRt, h9, hi9, hk0, hl, zi_t, a1, ra1, ra2, hz, hv, hof] <;> omega)) | (with_reducible refine (if_neg ?_).trans ?_; focus (simp (disch := omega) only [zi_f, zi_0, zi_1, zi_31, zi_all, zi_8, zi_16, zi_add, zi_sub, zi_mul, zi_neg, zi_lt, zi_le, zi_eq, zi_div, zi_t, zi_n, xb_I, xb_J, xb_V, xb_s, if_pos, if_neg, if_true, if_false, true_and, and_true, true_or, or_true, false_or, or_false, not_true, not_false_iff, zb_z, zb_o, zb_ft, tn_0, tn_1, tn_2, tn_3, tn_c, Int.reduceToNat, te_0, te_1, tk_0, tk_1, tk_m, ts_1, or_0, bp_f, hR, hRt, h9, hi9, hk0, hl, zi_t, a1, ra1, ra2, hz, hv, hof] <;> omega)) | ((conv => lhs; arg 1; simp (disch := omega) only [zi_f, zi_0, zi_1, zi_31, zi_all, zi_8, zi_16, zi_add, zi_sub, zi_mul, zi_neg, zi_lt, zi_le, zi_eq, zi_div, zi_t, zi_n, xb_I, xb_J, xb_V, xb_s, if_pos, if_neg, if_true, if_false, true_and, and_true, true_or, or_true, false_or, or_false, not_true, not_false_iff, zb_z, zb_o, zb_ft, tn_0, tn_1, tn_2, tn_3, tn_c, Int.reduceToNat, te_0, te_1, tk_0, tk_1, tk_m, ts_1, or_0, bp_f, hR, hRt, h9, hi9, hk0, hl, zi_t, a1, ra1, ra2, hz, hv, hof]); first | with_reducible refine xb_I.trans ?_ | with_reducible refine xb_V.trans ?_ | with_reducible refine xb_J.trans ?_ | with_reducible refine xb_s.trans ?_))
          first | (simp (disch := omega) only [zi_f, zi_0, zi_1, zi_31, zi_all, zi_8, zi_16, zi_add, zi_sub, zi_mul, zi_neg, zi_lt, zi_le, zi_eq, zi_div, zi_t, zi_n, xb_I, xb_J, xb_V, xb_s, if_pos, if_neg, if_true, if_false, true_and, and_true, true_or, or_true, false_or, or_false, not_true, not_false_iff, zb_z, zb_o, zb_ft, tn_0, tn_1, tn_2, tn_3, tn_c, Int.reduceToNat, te_0, te_1, tk_0, tk_1, tk_m, ts_1, or_0, bp_f, vI, hR, hRt, h9, hi9, hk0, hl, zi_t, a1, ra1, ra2, hz, hv, hof]; done) | rfl | (simp (disch := omega) only [zi_f, zi_0, zi_1, zi_31, zi_all, zi_8, zi_16, zi_add, zi_sub, zi_mul, zi_neg, zi_lt, zi_le, zi_eq, zi_div, zi_t, zi_n, xb_I, xb_J, xb_V, xb_s, if_pos, if_neg, if_true, if_false, true_and, and_true, true_or, or_true, false_or, or_false, not_true, not_false_iff, zb_z, zb_o, zb_ft, tn_0, tn_1, tn_2, tn_3, tn_c, Int.reduceToNat, te_0, te_1, tk_0, tk_1, tk_m, ts_1, or_0, bp_f, vI, hR, hRt, h9, hi9, hk0, hl, zi_t, a1, ra1, ra2, hz, hv, hof]; rfl)
        · have e5 : 6 ≤ i := e2.resolve_left e4
          unfold E_X5_readPlayer
          repeat (first | (with_reducible refine (if_pos ?_).trans ?_; focus (simp (disch := omega) only [zi_f, zi_0, zi_1, zi_31, zi_all, zi_8, zi_16, zi_add, zi_sub, zi_mul, zi_neg, zi_lt, zi_le, zi_eq, zi_div, zi_t, zi_n, xb_I, xb_J, xb_V, xb_s, if_pos, if_neg, if_true, if_false, true_and, and_true, true_or, or_true, false_or, or_false, not_true, not_false_iff, zb_z, zb_o, zb_ft, tn_0, tn_1, tn_2, tn_3, tn_c, Int.reduceToNat, te_0, te_1, tk_0, tk_1, tk_m, ts_1, or_0, bp_f, hR, hRt, h9, hi9, hk0, hl, zi_t, a1, ra1, ra2, hz, hv, hof] <;> omega)) | (with_reducible refine (if_neg ?_).trans ?_; focus (simp (disch := omega) only [zi_f, zi_0, zi_1, zi_31, zi_all, zi_8, zi_16, zi_add, zi_sub, zi_mul, zi_neg, zi_lt, zi_le, zi_eq, zi_div, zi_t, zi_n, xb_I, xb_J, xb_V, xb_s, if_pos, if_neg, if_true, if_false, true_and, and_true, true_or, or_true, false_or, or_false, not_true, not_false_iff, zb_z, zb_o, zb_ft, tn_0, tn_1, tn_2, tn_3, tn_c, Int.reduceToNat, te_0, te_1, tk_0, tk_1, tk_m, ts_1, or_0, bp_f, hR, hRt, h9, hi9, hk0, hl, zi_t, a1, ra1, ra2, hz, hv, hof] <;> omega)) | ((conv => lhs; arg 1; simp (disch := omega) only [zi_f, zi_0, zi_1, zi_31, zi_all, zi_8, zi_16, zi_add, zi_sub, zi_mul, zi_neg, zi_lt, zi_le, zi_eq, zi_div, zi_t, zi_n, xb_I, xb_J, xb_V, xb_s, if_pos, if_neg, if_true, if_false, true_and, and_true, true_or, or_true, false_or, or_false, not_true, not_false_iff, zb_z, zb_o, zb_ft, tn_0, tn_1, tn_2, tn_3, tn_c, Int.reduceToNat, te_0, te_1, tk_0, tk_1, tk_m, ts_1, or_0, bp_f, hR, hRt, h9, hi9, hk0, hl, zi_t, a1, ra1, ra2, hz, hv, hof]); first | with_reducible refine xb_I.trans ?_ | with_reducible refine xb_V.trans ?_ | with_reducible refine xb_J.trans ?_ | with_reducible refine xb_s.trans ?_))
          first | (simp (disch := omega) only [zi_f, zi_0, zi_1, zi_31, zi_all, zi_8, zi_16, zi_add, zi_sub, zi_mul, zi_neg, zi_lt, zi_le, zi_eq, zi_div, zi_t, zi_n, xb_I, xb_J, xb_V, xb_s, if_pos, if_neg, if_true, if_false, true_and, and_true, true_or, or_true, false_or, or_false, not_true, not_false_iff, zb_z, zb_o, zb_ft, tn_0, tn_1, tn_2, tn_3, tn_c, Int.reduceToNat, te_0, te_1, tk_0, tk_1, tk_m, ts_1, or_0, bp_f, vI, hR, hRt, h9, hi9, hk0, hl, zi_t, a1, ra1, ra2, hz, hv, hof]; done) | rfl | (simp (disch := omega) only [zi_f, zi_0, zi_1, zi_31, zi_all, zi_8, zi_16, zi_add, zi_sub, zi_mul, zi_neg, zi_lt, zi_le, zi_eq, zi_div, zi_t, zi_n, xb_I, xb_J, xb_V, xb_s, if_pos, if_neg, if_true, if_false, true_and, and_true, true_or, or_true, false_or, or_false, not_true, not_false_iff, zb_z, zb_o, zb_ft, tn_0, tn_1, tn_2, tn_3, tn_c, Int.reduceToNat, te_0, te_1, tk_0, tk_1, tk_m, ts_1, or_0, bp_f, vI, hR, hRt, h9, hi9, hk0, hl, zi_t, a1, ra1, ra2, hz, hv, hof]; rfl)
      · have e0 : i = 0 := by omega
        subst e0
        rw [show ((0 : Nat) : Int) = 0 from rfl]
        clear hT hD Ta
        unfold E_X5_readPlayer
        repeat (first | (with_reducible refine (if_pos ?_).trans ?_; focus (simp (disch := omega) only [zi_f, zi_0, zi_1, zi_31, zi_all, zi_8, zi_16, zi_add, zi_sub, zi_mul, zi_neg, zi_lt, zi_le, zi_eq, zi_div, zi_t, zi_n, xb_I, xb_J, xb_V, xb_s, if_pos, if_neg, if_true, if_false, true_and, and_true, true_or, or_true, false_or, or_false, not_true, not_false_iff, zb_z, zb_o, zb_ft, tn_0, tn_1, tn_2, tn_3, tn_c, Int.reduceToNat, te_0, te_1, tk_0, tk_1, tk_m, ts_1, or_0, bp_f, hR, hRt, h9, hi9, hk0, hl, zi_t, a1, ra1, ra2, hz] <;> omega)) | (with_reducible refine (if_neg ?_).trans ?_; focus (simp (disch := omega) only [zi_f, zi_0, zi_1, zi_31, zi_all, zi_8, zi_16, zi_add, zi_sub, zi_mul, zi_neg, zi_lt, zi_le, zi_eq, zi_div, zi_t, zi_n, xb_I, xb_J, xb_V, xb_s, if_pos, if_neg, if_true, if_false, true_and, and_true, true_or, or_true, false_or, or_false, not_true, not_false_iff, zb_z, zb_o, zb_ft, tn_0, tn_1, tn_2, tn_3, tn_c, Int.reduceToNat, te_0, te_1, tk_0, tk_1, tk_m, ts_1, or_0, bp_f, hR, hRt, h9, hi9, hk0, hl, zi_t, a1, ra1, ra2, hz] <;> omega)) | ((conv => lhs; arg 1; simp (disch := omega) only [zi_f, zi_0, zi_1, zi_31, zi_all, zi_8, zi_16, zi_add, zi_sub, zi_mul, zi_neg, zi_lt, zi_le, zi_eq, zi_div, zi_t, zi_n, xb_I, xb_J, xb_V, xb_s, if_pos, if_neg, if_true, if_false, true_and, and_true, true_or, or_true, false_or, or_false, not_true, not_false_iff, zb_z, zb_o, zb_ft, tn_0, tn_1, tn_2, tn_3, tn_c, Int.reduceToNat, te_0, te_1, tk_0, tk_1, tk_m, ts_1, or_0, bp_f, hR, hRt, h9, hi9, hk0, hl, zi_t, a1, ra1, ra2, hz]); first | with_reducible refine xb_I.trans ?_ | with_reducible refine xb_V.trans ?_ | with_reducible refine xb_J.trans ?_ | with_reducible refine xb_s.trans ?_))
        first | (simp (disch := omega) only [zi_f, zi_0, zi_1, zi_31, zi_all, zi_8, zi_16, zi_add, zi_sub, zi_mul, zi_neg, zi_lt, zi_le, zi_eq, zi_div, zi_t, zi_n, xb_I, xb_J, xb_V, xb_s, if_pos, if_neg, if_true, if_false, true_and, and_true, true_or, or_true, false_or, or_false, not_true, not_false_iff, zb_z, zb_o, zb_ft, tn_0, tn_1, tn_2, tn_3, tn_c, Int.reduceToNat, te_0, te_1, tk_0, tk_1, tk_m, ts_1, or_0, bp_f, vI, hR, hRt, h9, hi9, hk0, hl, zi_t, a1, ra1, ra2, hz]; done) | rfl | (simp (disch := omega) only [zi_f, zi_0, zi_1, zi_31, zi_all, zi_8, zi_16, zi_add, zi_sub, zi_mul, zi_neg, zi_lt, zi_le, zi_eq, zi_div, zi_t, zi_n, xb_I, xb_J, xb_V, xb_s, if_pos, if_neg, if_true, if_false, true_and, and_true, true_or, or_true, false_or, or_false, not_true, not_false_iff, zb_z, zb_o, zb_ft, tn_0, tn_1, tn_2, tn_3, tn_c, Int.reduceToNat, te_0, te_1, tk_0, tk_1, tk_m, ts_1, or_0, bp_f, vI, hR, hRt, h9, hi9, hk0, hl, zi_t, a1, ra1, ra2, hz]; rfl)
    · rw [if_neg e2]
      have e3 : (blS z c q.1).2 < z := lt_of_kn (fun x => e2 (Or.inl x))
      have hv := Ta.2.2 _ e3
      have hca := Ta.1.2 (blS z c q.1).2
      have hlk : lkP z c (blS z c q.1).2 = c (blS z c q.1).2 := if_pos e3
      have hof : E_X4_ofLetter S (zi (c (blS z c q.1).2)) ma = some (some (.int (zi (knP (lkP z c (blS z c q.1).2)))), ma) := by rw [hlk]; exact C_ofLetter hca
      have hkb := (kn_b (lkP z c (blS z c q.1).2)).resolve_left fun x => e2 (Or.inl x)
      have hi6 : i < 6 := by omega
      have hwi : q.2 1 = i := by
        rcases (hI.2 e.1).1 with x | x
        · exact x.1
        · exact absurd ⟨by omega, x.2.1⟩ e.2
      have P2 : PB z (p2 (blS z c q.1)) := ⟨e3, Pa.2⟩
      have q9 : (p2 (blS z c q.1)).1 = -9 := e.1
      -- side
      have r2 : Rs (xi_wI (xi_wI ma R 1 (zi (((blS z c q.1).2 : Nat) + 1))) 63 i (zi (knP (lkP z c (blS z c q.1).2)))) R (p2 (blS z c q.1)) := ⟨by rw [wI_o (by omega), mw_eq]; show _ = zi (((blS z c q.1).2 + 1 : Nat) : Int); rw [show (((blS z c q.1).2 + 1 : Nat) : Int) = ((blS z c q.1).2 : Int) + 1 by omega], by rw [wI_o (by omega), mw_ne (by omega), q9]; exact ra2⟩
      have F2 : FD R ma (xi_wI (xi_wI ma R 1 (zi (((blS z c q.1).2 : Nat) + 1))) 63 i (zi (knP (lkP z c (blS z c q.1).2)))) := ⟨fun b x y => by rw [wI_o (by omega), wI_o x], by rw [wI_o (by omega), wI_o (by omega)], rfl⟩
      have T2 := Tx_d hR1 hu Ta F2
      obtain ⟨mb, b1, b2, b3, b4⟩ := C_figureR hD T2 r2 P2 (lo := 0) (hi := 1) (by omega) (by omega)
      have P3 := PB_fg (c := c) (lo := 0) (hi := 1) (by omega) P2
      have Fb := FD_t F2 (FD_R hR1 b3 b4)
      have v1 := fg_v z c (lo := 0) (hi := 1) (by omega) (by omega) (p2 (blS z c q.1))
      have r3 : Rs (xi_wI mb 64 i (zi (fgV z c 0 1 (p2 (blS z c q.1))))) R (fgS z c 0 1 (p2 (blS z c q.1))) := ⟨by rw [wI_o (by omega)]; exact b2.1, by rw [wI_o (by omega)]; exact b2.2⟩
      have F3 : FD R ma (xi_wI mb 64 i (zi (fgV z c 0 1 (p2 (blS z c q.1))))) := FD_t Fb ⟨fun b x y => wI_o (by omega), by rw [wI_o (by omega)], rfl⟩
      obtain ⟨md, d1, d2, d3, d4⟩ := C_twoR hD (Tx_d hR1 hu Ta F3) r3 P3 (lo := 0) (by omega)
      have P4 := PB_tw (c := c) (lo := 0) P3
      have Fd := FD_t F3 (FD_R hR1 d3 d4)
      have v2 := tw_v z c 0 (fgS z c 0 1 (p2 (blS z c q.1)))
      have r4 : Rs (xi_wI md 65 i (zi (twV z c (fgS z c 0 1 (p2 (blS z c q.1)))))) R (twS z c 0 (fgS z c 0 1 (p2 (blS z c q.1)))) := ⟨by rw [wI_o (by omega)]; exact d2.1, by rw [wI_o (by omega)]; exact d2.2⟩
      have F4 : FD R ma (xi_wI md 65 i (zi (twV z c (fgS z c 0 1 (p2 (blS z c q.1)))))) := FD_t Fd ⟨fun b x y => wI_o (by omega), by rw [wI_o (by omega)], rfl⟩
      obtain ⟨mg, g1, g2, g3, g4⟩ := C_figureR hD (Tx_d hR1 hu Ta F4) r4 P4 (lo := 1) (hi := 9) (by omega) (by omega)
      have Fg := FD_t F4 (FD_R hR1 g3 g4)
      have v3 := fg_v z c (lo := 1) (hi := 9) (by omega) (by omega) (twS z c 0 (fgS z c 0 1 (p2 (blS z c q.1))))
      unfold p5 plW
      dsimp only
      generalize fgV z c 1 9 (twS z c 0 (fgS z c 0 1 (p2 (blS z c q.1)))) = x3 at *
      generalize twV z c (fgS z c 0 1 (p2 (blS z c q.1))) = x2 at *
      generalize fgV z c 0 1 (p2 (blS z c q.1)) = x1 at *
      generalize knP (lkP z c (blS z c q.1).2) = kd at *
      have G : ∀ b, b ≠ R → b ≠ 63 → b ≠ 64 → b ≠ 65 → mg.1 b = ma.1 b := fun b y1 y2 y3 y4 => by rw [g3 b y1, wI_o y4, d3 b y1, wI_o y3, b3 b y1, wI_o y2, wI_o y1]
      refine ⟨xi_wI (xi_wI mg 66 i (zi x3)) 60 1 (zi ((i : Int) + 1)), ?_, ⟨by rw [wI_o (by omega), wI_o (by omega)]; exact g2.1, by rw [wI_o (by omega), wI_o (by omega)]; exact g2.2⟩, RF_up hi6 fa hwi (fun j hj => ?_) (by rw [mw_eq]) ?_ ?_ (fun j => ?_) (fun j => ?_) (fun j => ?_) (fun j => ?_), FD_t (FD_R hR1 a3 a4) (FD_t Fg ⟨fun b x y => by rw [wI_o (by omega), wI_o (by omega)], by rw [mw_ne (by omega), wI_o (by omega)], rfl⟩)⟩
      · clear Fg F4 Fd F3 Fb F2 P4 P3 P2 r2 r3 r4 T2 b2 d2 g2 hf fa hT hD Ta hr a2 G hI hlk
        generalize (blS z c q.1).2 = a at *
        unfold E_X5_readPlayer
        repeat (first | (with_reducible refine (if_pos ?_).trans ?_; focus (simp (disch := omega) only [zi_f, zi_0, zi_1, zi_31, zi_all, zi_8, zi_16, zi_add, zi_sub, zi_mul, zi_neg, zi_lt, zi_le, zi_eq, zi_div, zi_t, zi_n, xb_I, xb_J, xb_V, xb_s, if_pos, if_neg, if_true, if_false, true_and, and_true, true_or, or_true, false_or, or_false, not_true, not_false_iff, zb_z, zb_o, zb_ft, tn_0, tn_1, tn_2, tn_3, tn_c, Int.reduceToNat, te_0, te_1, tk_0, tk_1, tk_m, ts_1, or_0, bp_f, hR, hRt, h9, hi9, hk0, hl, sR_s0 hs, sR_s5 hs, sR_s6 hs, sR_s7 hs, sR_s8 hs, sR_s9 hs, sR_s10 hs, sR_k1 hs, sR_k2 hs, sR_k3 hs, sR_k4 hs, sR_k5 hs, sR_k6 hs, sR_l1 hs, sR_l2 hs, sR_l3 hs, sR_l4 hs, sR_l5 hs, sR_l6 hs, zi_t, a1, ra1, ra2, hz, hv, hof, b1, d1, g1] <;> omega)) | (with_reducible refine (if_neg ?_).trans ?_; focus (simp (disch := omega) only [zi_f, zi_0, zi_1, zi_31, zi_all, zi_8, zi_16, zi_add, zi_sub, zi_mul, zi_neg, zi_lt, zi_le, zi_eq, zi_div, zi_t, zi_n, xb_I, xb_J, xb_V, xb_s, if_pos, if_neg, if_true, if_false, true_and, and_true, true_or, or_true, false_or, or_false, not_true, not_false_iff, zb_z, zb_o, zb_ft, tn_0, tn_1, tn_2, tn_3, tn_c, Int.reduceToNat, te_0, te_1, tk_0, tk_1, tk_m, ts_1, or_0, bp_f, hR, hRt, h9, hi9, hk0, hl, sR_s0 hs, sR_s5 hs, sR_s6 hs, sR_s7 hs, sR_s8 hs, sR_s9 hs, sR_s10 hs, sR_k1 hs, sR_k2 hs, sR_k3 hs, sR_k4 hs, sR_k5 hs, sR_k6 hs, sR_l1 hs, sR_l2 hs, sR_l3 hs, sR_l4 hs, sR_l5 hs, sR_l6 hs, zi_t, a1, ra1, ra2, hz, hv, hof, b1, d1, g1] <;> omega)) | ((conv => lhs; arg 1; simp (disch := omega) only [zi_f, zi_0, zi_1, zi_31, zi_all, zi_8, zi_16, zi_add, zi_sub, zi_mul, zi_neg, zi_lt, zi_le, zi_eq, zi_div, zi_t, zi_n, xb_I, xb_J, xb_V, xb_s, if_pos, if_neg, if_true, if_false, true_and, and_true, true_or, or_true, false_or, or_false, not_true, not_false_iff, zb_z, zb_o, zb_ft, tn_0, tn_1, tn_2, tn_3, tn_c, Int.reduceToNat, te_0, te_1, tk_0, tk_1, tk_m, ts_1, or_0, bp_f, hR, hRt, h9, hi9, hk0, hl, sR_s0 hs, sR_s5 hs, sR_s6 hs, sR_s7 hs, sR_s8 hs, sR_s9 hs, sR_s10 hs, sR_k1 hs, sR_k2 hs, sR_k3 hs, sR_k4 hs, sR_k5 hs, sR_k6 hs, sR_l1 hs, sR_l2 hs, sR_l3 hs, sR_l4 hs, sR_l5 hs, sR_l6 hs, zi_t, a1, ra1, ra2, hz, hv, hof, b1, d1, g1]); first | with_reducible refine xb_I.trans ?_ | with_reducible refine xb_V.trans ?_ | with_reducible refine xb_J.trans ?_ | with_reducible refine xb_s.trans ?_))
        first | (simp (disch := omega) only [zi_f, zi_0, zi_1, zi_31, zi_all, zi_8, zi_16, zi_add, zi_sub, zi_mul, zi_neg, zi_lt, zi_le, zi_eq, zi_div, zi_t, zi_n, xb_I, xb_J, xb_V, xb_s, if_pos, if_neg, if_true, if_false, true_and, and_true, true_or, or_true, false_or, or_false, not_true, not_false_iff, zb_z, zb_o, zb_ft, tn_0, tn_1, tn_2, tn_3, tn_c, Int.reduceToNat, te_0, te_1, tk_0, tk_1, tk_m, ts_1, or_0, bp_f, vI, hR, hRt, h9, hi9, hk0, hl, sR_s0 hs, sR_s5 hs, sR_s6 hs, sR_s7 hs, sR_s8 hs, sR_s9 hs, sR_s10 hs, sR_k1 hs, sR_k2 hs, sR_k3 hs, sR_k4 hs, sR_k5 hs, sR_k6 hs, sR_l1 hs, sR_l2 hs, sR_l3 hs, sR_l4 hs, sR_l5 hs, sR_l6 hs, zi_t, a1, ra1, ra2, hz, hv, hof, b1, d1, g1]; done) | rfl | (simp (disch := omega) only [zi_f, zi_0, zi_1, zi_31, zi_all, zi_8, zi_16, zi_add, zi_sub, zi_mul, zi_neg, zi_lt, zi_le, zi_eq, zi_div, zi_t, zi_n, xb_I, xb_J, xb_V, xb_s, if_pos, if_neg, if_true, if_false, true_and, and_true, true_or, or_true, false_or, or_false, not_true, not_false_iff, zb_z, zb_o, zb_ft, tn_0, tn_1, tn_2, tn_3, tn_c, Int.reduceToNat, te_0, te_1, tk_0, tk_1, tk_m, ts_1, or_0, bp_f, vI, hR, hRt, h9, hi9, hk0, hl, sR_s0 hs, sR_s5 hs, sR_s6 hs, sR_s7 hs, sR_s8 hs, sR_s9 hs, sR_s10 hs, sR_k1 hs, sR_k2 hs, sR_k3 hs, sR_k4 hs, sR_k5 hs, sR_k6 hs, sR_l1 hs, sR_l2 hs, sR_l3 hs, sR_l4 hs, sR_l5 hs, sR_l6 hs, zi_t, a1, ra1, ra2, hz, hv, hof, b1, d1, g1]; rfl)
      · rw [mw_ne (by omega), wI_o (by omega), G 60 (by omega) (by omega) (by omega) (by omega)]
      · rw [wI_o (by omega), wI_o (by omega), G 61 (by omega) (by omega) (by omega) (by omega)]
      · rw [wI_o (by omega), wI_o (by omega), G 62 (by omega) (by omega) (by omega) (by omega)]
      · rw [wI_o (by omega), wI_o (by omega), g3 63 (by omega), wI_o (by omega), d3 63 (by omega), wI_o (by omega), b3 63 (by omega), mw_if]
        by_cases ej : j = i
        · rw [if_pos ⟨rfl, ej⟩, if_pos ej]
        · rw [if_neg (fun x => ej x.2), if_neg ej, wI_o (by omega)]
      · rw [wI_o (by omega), wI_o (by omega), g3 64 (by omega), wI_o (by omega), d3 64 (by omega), mw_if]
        by_cases ej : j = i
        · rw [if_pos ⟨rfl, ej⟩, if_pos ej]
        · rw [if_neg (fun x => ej x.2), if_neg ej, b3 64 (by omega), wI_o (by omega), wI_o (by omega)]
      · rw [wI_o (by omega), wI_o (by omega), g3 65 (by omega), mw_if]
        by_cases ej : j = i
        · rw [if_pos ⟨rfl, ej⟩, if_pos ej]
        · rw [if_neg (fun x => ej x.2), if_neg ej, d3 65 (by omega), wI_o (by omega), b3 65 (by omega), wI_o (by omega), wI_o (by omega)]
      · rw [wI_o (by omega), mw_if]
        by_cases ej : j = i
        · rw [if_pos ⟨rfl, ej⟩, if_pos ej]
        · rw [if_neg (fun x => ej x.2), if_neg ej, G 66 (by omega) (by omega) (by omega) (by omega)]
  · rw [if_neg e]
    refine ⟨ma, ?_, a2, fa, FD_R hR1 a3 a4⟩
    clear fa hf hI hr a2 hT hD Ta
    generalize (blS z c q.1).2 = a at *
    by_cases e3 : q.1.1 = -9
    · have e4 : z ≤ a ∧ 0 < i := Decidable.not_not.mp fun y => e ⟨e3, y⟩
      rw [e3] at ra2
      unfold E_X5_readPlayer
      repeat (first | (with_reducible refine (if_pos ?_).trans ?_; focus (simp (disch := omega) only [zi_f, zi_0, zi_1, zi_31, zi_all, zi_8, zi_16, zi_add, zi_sub, zi_mul, zi_neg, zi_lt, zi_le, zi_eq, zi_div, zi_t, zi_n, xb_I, xb_J, xb_V, xb_s, if_pos, if_neg, if_true, if_false, true_and, and_true, true_or, or_true, false_or, or_false, not_true, not_false_iff, zb_z, zb_o, zb_ft, tn_0, tn_1, tn_2, tn_3, tn_c, Int.reduceToNat, te_0, te_1, tk_0, tk_1, tk_m, ts_1, or_0, bp_f, hR, hRt, h9, hi9, hk0, hl, zi_t, a1, ra1, ra2, hz] <;> omega)) | (with_reducible refine (if_neg ?_).trans ?_; focus (simp (disch := omega) only [zi_f, zi_0, zi_1, zi_31, zi_all, zi_8, zi_16, zi_add, zi_sub, zi_mul, zi_neg, zi_lt, zi_le, zi_eq, zi_div, zi_t, zi_n, xb_I, xb_J, xb_V, xb_s, if_pos, if_neg, if_true, if_false, true_and, and_true, true_or, or_true, false_or, or_false, not_true, not_false_iff, zb_z, zb_o, zb_ft, tn_0, tn_1, tn_2, tn_3, tn_c, Int.reduceToNat, te_0, te_1, tk_0, tk_1, tk_m, ts_1, or_0, bp_f, hR, hRt, h9, hi9, hk0, hl, zi_t, a1, ra1, ra2, hz] <;> omega)) | ((conv => lhs; arg 1; simp (disch := omega) only [zi_f, zi_0, zi_1, zi_31, zi_all, zi_8, zi_16, zi_add, zi_sub, zi_mul, zi_neg, zi_lt, zi_le, zi_eq, zi_div, zi_t, zi_n, xb_I, xb_J, xb_V, xb_s, if_pos, if_neg, if_true, if_false, true_and, and_true, true_or, or_true, false_or, or_false, not_true, not_false_iff, zb_z, zb_o, zb_ft, tn_0, tn_1, tn_2, tn_3, tn_c, Int.reduceToNat, te_0, te_1, tk_0, tk_1, tk_m, ts_1, or_0, bp_f, hR, hRt, h9, hi9, hk0, hl, zi_t, a1, ra1, ra2, hz]); first | with_reducible refine xb_I.trans ?_ | with_reducible refine xb_V.trans ?_ | with_reducible refine xb_J.trans ?_ | with_reducible refine xb_s.trans ?_))
      first | (simp (disch := omega) only [zi_f, zi_0, zi_1, zi_31, zi_all, zi_8, zi_16, zi_add, zi_sub, zi_mul, zi_neg, zi_lt, zi_le, zi_eq, zi_div, zi_t, zi_n, xb_I, xb_J, xb_V, xb_s, if_pos, if_neg, if_true, if_false, true_and, and_true, true_or, or_true, false_or, or_false, not_true, not_false_iff, zb_z, zb_o, zb_ft, tn_0, tn_1, tn_2, tn_3, tn_c, Int.reduceToNat, te_0, te_1, tk_0, tk_1, tk_m, ts_1, or_0, bp_f, vI, hR, hRt, h9, hi9, hk0, hl, zi_t, a1, ra1, ra2, hz]; done) | rfl | (simp (disch := omega) only [zi_f, zi_0, zi_1, zi_31, zi_all, zi_8, zi_16, zi_add, zi_sub, zi_mul, zi_neg, zi_lt, zi_le, zi_eq, zi_div, zi_t, zi_n, xb_I, xb_J, xb_V, xb_s, if_pos, if_neg, if_true, if_false, true_and, and_true, true_or, or_true, false_or, or_false, not_true, not_false_iff, zb_z, zb_o, zb_ft, tn_0, tn_1, tn_2, tn_3, tn_c, Int.reduceToNat, te_0, te_1, tk_0, tk_1, tk_m, ts_1, or_0, bp_f, vI, hR, hRt, h9, hi9, hk0, hl, zi_t, a1, ra1, ra2, hz]; rfl)
    · unfold E_X5_readPlayer
      repeat (first | (with_reducible refine (if_pos ?_).trans ?_; focus (simp (disch := omega) only [zi_f, zi_0, zi_1, zi_31, zi_all, zi_8, zi_16, zi_add, zi_sub, zi_mul, zi_neg, zi_lt, zi_le, zi_eq, zi_div, zi_t, zi_n, xb_I, xb_J, xb_V, xb_s, if_pos, if_neg, if_true, if_false, true_and, and_true, true_or, or_true, false_or, or_false, not_true, not_false_iff, zb_z, zb_o, zb_ft, tn_0, tn_1, tn_2, tn_3, tn_c, Int.reduceToNat, te_0, te_1, tk_0, tk_1, tk_m, ts_1, or_0, bp_f, hR, hRt, h9, hi9, hk0, hl, zi_t, a1, ra1, ra2, hz] <;> omega)) | (with_reducible refine (if_neg ?_).trans ?_; focus (simp (disch := omega) only [zi_f, zi_0, zi_1, zi_31, zi_all, zi_8, zi_16, zi_add, zi_sub, zi_mul, zi_neg, zi_lt, zi_le, zi_eq, zi_div, zi_t, zi_n, xb_I, xb_J, xb_V, xb_s, if_pos, if_neg, if_true, if_false, true_and, and_true, true_or, or_true, false_or, or_false, not_true, not_false_iff, zb_z, zb_o, zb_ft, tn_0, tn_1, tn_2, tn_3, tn_c, Int.reduceToNat, te_0, te_1, tk_0, tk_1, tk_m, ts_1, or_0, bp_f, hR, hRt, h9, hi9, hk0, hl, zi_t, a1, ra1, ra2, hz] <;> omega)) | ((conv => lhs; arg 1; simp (disch := omega) only [zi_f, zi_0, zi_1, zi_31, zi_all, zi_8, zi_16, zi_add, zi_sub, zi_mul, zi_neg, zi_lt, zi_le, zi_eq, zi_div, zi_t, zi_n, xb_I, xb_J, xb_V, xb_s, if_pos, if_neg, if_true, if_false, true_and, and_true, true_or, or_true, false_or, or_false, not_true, not_false_iff, zb_z, zb_o, zb_ft, tn_0, tn_1, tn_2, tn_3, tn_c, Int.reduceToNat, te_0, te_1, tk_0, tk_1, tk_m, ts_1, or_0, bp_f, hR, hRt, h9, hi9, hk0, hl, zi_t, a1, ra1, ra2, hz]); first | with_reducible refine xb_I.trans ?_ | with_reducible refine xb_V.trans ?_ | with_reducible refine xb_J.trans ?_ | with_reducible refine xb_s.trans ?_))
      first | (simp (disch := omega) only [zi_f, zi_0, zi_1, zi_31, zi_all, zi_8, zi_16, zi_add, zi_sub, zi_mul, zi_neg, zi_lt, zi_le, zi_eq, zi_div, zi_t, zi_n, xb_I, xb_J, xb_V, xb_s, if_pos, if_neg, if_true, if_false, true_and, and_true, true_or, or_true, false_or, or_false, not_true, not_false_iff, zb_z, zb_o, zb_ft, tn_0, tn_1, tn_2, tn_3, tn_c, Int.reduceToNat, te_0, te_1, tk_0, tk_1, tk_m, ts_1, or_0, bp_f, vI, hR, hRt, h9, hi9, hk0, hl, zi_t, a1, ra1, ra2, hz]; done) | rfl | (simp (disch := omega) only [zi_f, zi_0, zi_1, zi_31, zi_all, zi_8, zi_16, zi_add, zi_sub, zi_mul, zi_neg, zi_lt, zi_le, zi_eq, zi_div, zi_t, zi_n, xb_I, xb_J, xb_V, xb_s, if_pos, if_neg, if_true, if_false, true_and, and_true, true_or, or_true, false_or, or_false, not_true, not_false_iff, zb_z, zb_o, zb_ft, tn_0, tn_1, tn_2, tn_3, tn_c, Int.reduceToNat, te_0, te_1, tk_0, tk_1, tk_m, ts_1, or_0, bp_f, vI, hR, hRt, h9, hi9, hk0, hl, zi_t, a1, ra1, ra2, hz]; rfl)

theorem C_read (hs : ShR S 60) (hD : ShD S R u) (hT : Tx m u z c) (hr : Rs m R (-9, 0)) : ∃ m1, E_X5_read S R 60 m = some (some (.int (zi (rdP z c).1.1)), m1) ∧ RF m1 60 (rdP z c).2 ∧ m1.1 60 4 = zi 0 ∧ (∀ b, b ≠ R → b < 60 ∨ 70 ≤ b → m1.1 b = m.1 b) ∧ m1.2 = m.2 := by
  obtain ⟨hR1, hu, hR, hRt, h9, hi9, hk0, hl⟩ := id hD
  obtain ⟨m0, e0, f0, n0, o0, l0⟩ := C_clear (m := m) hs
  have T0 : Tx m0 u z c := ⟨hT.1, by rw [o0 _ (by omega)]; exact hT.2.1, fun k hk => by rw [o0 _ (by omega)]; exact hT.2.2 k hk⟩
  obtain ⟨ms, e1, r1, f1, d1⟩ := C_rdS hs hD T0 ⟨by rw [o0 _ (by omega)]; exact hr.1, by rw [o0 _ (by omega)]; exact hr.2⟩ f0
  have L1 : ∀ k, k ≤ 4 → ∃ mk, G_X5_read_11 S 10000 R 60 (zi 0) ms = G_X5_read_11 S (10000 - k) R 60 (zi (k : Nat)) mk ∧ Rs mk R (fo (coS z c) (rcS z c) k).1 ∧ RF mk 60 (fo (coS z c) (rcS z c) k).2 ∧ FD R m0 mk := by
    intro k
    induction k with
    | zero => exact fun _ => ⟨ms, rfl, r1, f1, d1⟩
    | succ k ih =>
      intro hk
      obtain ⟨mk, y1, y2, y3, y4⟩ := ih (by omega)
      obtain ⟨m2, x1, x2, x3, x4⟩ := C_rdC hs hD (Tx_d hR1 hu T0 y4) y2 (PB_rdC z c k) y3 (k := k) (by omega) (fun e => (co_w z c k (by omega)).2.1 (k - 1) (by omega))
      refine ⟨m2, ?_, x2, x3, FD_t y4 x4⟩
      rw [y1, show 10000 - k = (10000 - (k + 1)) + 1 by omega, show ((k + 1 : Nat) : Int) = (k : Int) + 1 by omega]
      generalize 10000 - (k + 1) = N
      clear x2 x3 x4 y1 y2 y3 y4
      simp only [G_X5_read_11]
      repeat (first | (with_reducible refine (if_pos ?_).trans ?_; focus (simp (disch := omega) only [zi_f, zi_0, zi_1, zi_31, zi_all, zi_8, zi_16, zi_add, zi_sub, zi_mul, zi_neg, zi_lt, zi_le, zi_eq, zi_div, zi_t, zi_n, xb_I, xb_J, xb_V, xb_s, if_pos, if_neg, if_true, if_false, true_and, and_true, true_or, or_true, false_or, or_false, not_true, not_false_iff, zb_z, zb_o, zb_ft, tn_0, tn_1, tn_2, tn_3, tn_c, Int.reduceToNat, te_0, te_1, tk_0, tk_1, tk_m, ts_1, or_0, bp_f, hR, zi_t, x1] <;> omega)) | (with_reducible refine (if_neg ?_).trans ?_; focus (simp (disch := omega) only [zi_f, zi_0, zi_1, zi_31, zi_all, zi_8, zi_16, zi_add, zi_sub, zi_mul, zi_neg, zi_lt, zi_le, zi_eq, zi_div, zi_t, zi_n, xb_I, xb_J, xb_V, xb_s, if_pos, if_neg, if_true, if_false, true_and, and_true, true_or, or_true, false_or, or_false, not_true, not_false_iff, zb_z, zb_o, zb_ft, tn_0, tn_1, tn_2, tn_3, tn_c, Int.reduceToNat, te_0, te_1, tk_0, tk_1, tk_m, ts_1, or_0, bp_f, hR, zi_t, x1] <;> omega)) | ((conv => lhs; arg 1; simp (disch := omega) only [zi_f, zi_0, zi_1, zi_31, zi_all, zi_8, zi_16, zi_add, zi_sub, zi_mul, zi_neg, zi_lt, zi_le, zi_eq, zi_div, zi_t, zi_n, xb_I, xb_J, xb_V, xb_s, if_pos, if_neg, if_true, if_false, true_and, and_true, true_or, or_true, false_or, or_false, not_true, not_false_iff, zb_z, zb_o, zb_ft, tn_0, tn_1, tn_2, tn_3, tn_c, Int.reduceToNat, te_0, te_1, tk_0, tk_1, tk_m, ts_1, or_0, bp_f, hR, zi_t, x1]); first | with_reducible refine xb_I.trans ?_ | with_reducible refine xb_V.trans ?_ | with_reducible refine xb_J.trans ?_ | with_reducible refine xb_s.trans ?_))
      first | (simp (disch := omega) only [zi_f, zi_0, zi_1, zi_31, zi_all, zi_8, zi_16, zi_add, zi_sub, zi_mul, zi_neg, zi_lt, zi_le, zi_eq, zi_div, zi_t, zi_n, xb_I, xb_J, xb_V, xb_s, if_pos, if_neg, if_true, if_false, true_and, and_true, true_or, or_true, false_or, or_false, not_true, not_false_iff, zb_z, zb_o, zb_ft, tn_0, tn_1, tn_2, tn_3, tn_c, Int.reduceToNat, te_0, te_1, tk_0, tk_1, tk_m, ts_1, or_0, bp_f, vI, hR, zi_t, x1]; done) | rfl | (simp (disch := omega) only [zi_f, zi_0, zi_1, zi_31, zi_all, zi_8, zi_16, zi_add, zi_sub, zi_mul, zi_neg, zi_lt, zi_le, zi_eq, zi_div, zi_t, zi_n, xb_I, xb_J, xb_V, xb_s, if_pos, if_neg, if_true, if_false, true_and, and_true, true_or, or_true, false_or, or_false, not_true, not_false_iff, zb_z, zb_o, zb_ft, tn_0, tn_1, tn_2, tn_3, tn_c, Int.reduceToNat, te_0, te_1, tk_0, tk_1, tk_m, ts_1, or_0, bp_f, vI, hR, zi_t, x1]; rfl)
  obtain ⟨mc, y1, y2, y3, y4⟩ := L1 4 (Nat.le_refl _)
  have L2 : ∀ k, k ≤ 7 → ∃ mk, G_X5_read_30 S 10000 R 60 (zi 0) mc = G_X5_read_30 S (10000 - k) R 60 (zi (k : Nat)) mk ∧ Rs mk R (fo (plS z c) (rdC z c) k).1 ∧ RF mk 60 (fo (plS z c) (rdC z c) k).2 ∧ FD R m0 mk := by
    intro k
    induction k with
    | zero => exact fun _ => ⟨mc, rfl, y2, y3, y4⟩
    | succ k ih =>
      intro hk
      obtain ⟨mk, p1, p2, p3, p4⟩ := ih (by omega)
      obtain ⟨m2, x1, x2, x3, x4⟩ := C_rdPl hs hD (Tx_d hR1 hu T0 p4) p2 (PB_rdP z c k) p3 (i := k) (by omega) (pl_I z c k (by omega))
      refine ⟨m2, ?_, x2, x3, FD_t p4 x4⟩
      rw [p1, show 10000 - k = (10000 - (k + 1)) + 1 by omega, show ((k + 1 : Nat) : Int) = (k : Int) + 1 by omega]
      generalize 10000 - (k + 1) = N
      clear x2 x3 x4 p1 p2 p3 p4
      simp only [G_X5_read_30]
      repeat (first | (with_reducible refine (if_pos ?_).trans ?_; focus (simp (disch := omega) only [zi_f, zi_0, zi_1, zi_31, zi_all, zi_8, zi_16, zi_add, zi_sub, zi_mul, zi_neg, zi_lt, zi_le, zi_eq, zi_div, zi_t, zi_n, xb_I, xb_J, xb_V, xb_s, if_pos, if_neg, if_true, if_false, true_and, and_true, true_or, or_true, false_or, or_false, not_true, not_false_iff, zb_z, zb_o, zb_ft, tn_0, tn_1, tn_2, tn_3, tn_c, Int.reduceToNat, te_0, te_1, tk_0, tk_1, tk_m, ts_1, or_0, bp_f, hR, zi_t, x1] <;> omega)) | (with_reducible refine (if_neg ?_).trans ?_; focus (simp (disch := omega) only [zi_f, zi_0, zi_1, zi_31, zi_all, zi_8, zi_16, zi_add, zi_sub, zi_mul, zi_neg, zi_lt, zi_le, zi_eq, zi_div, zi_t, zi_n, xb_I, xb_J, xb_V, xb_s, if_pos, if_neg, if_true, if_false, true_and, and_true, true_or, or_true, false_or, or_false, not_true, not_false_iff, zb_z, zb_o, zb_ft, tn_0, tn_1, tn_2, tn_3, tn_c, Int.reduceToNat, te_0, te_1, tk_0, tk_1, tk_m, ts_1, or_0, bp_f, hR, zi_t, x1] <;> omega)) | ((conv => lhs; arg 1; simp (disch := omega) only [zi_f, zi_0, zi_1, zi_31, zi_all, zi_8, zi_16, zi_add, zi_sub, zi_mul, zi_neg, zi_lt, zi_le, zi_eq, zi_div, zi_t, zi_n, xb_I, xb_J, xb_V, xb_s, if_pos, if_neg, if_true, if_false, true_and, and_true, true_or, or_true, false_or, or_false, not_true, not_false_iff, zb_z, zb_o, zb_ft, tn_0, tn_1, tn_2, tn_3, tn_c, Int.reduceToNat, te_0, te_1, tk_0, tk_1, tk_m, ts_1, or_0, bp_f, hR, zi_t, x1]); first | with_reducible refine xb_I.trans ?_ | with_reducible refine xb_V.trans ?_ | with_reducible refine xb_J.trans ?_ | with_reducible refine xb_s.trans ?_))
      first | (simp (disch := omega) only [zi_f, zi_0, zi_1, zi_31, zi_all, zi_8, zi_16, zi_add, zi_sub, zi_mul, zi_neg, zi_lt, zi_le, zi_eq, zi_div, zi_t, zi_n, xb_I, xb_J, xb_V, xb_s, if_pos, if_neg, if_true, if_false, true_and, and_true, true_or, or_true, false_or, or_false, not_true, not_false_iff, zb_z, zb_o, zb_ft, tn_0, tn_1, tn_2, tn_3, tn_c, Int.reduceToNat, te_0, te_1, tk_0, tk_1, tk_m, ts_1, or_0, bp_f, vI, hR, zi_t, x1]; done) | rfl | (simp (disch := omega) only [zi_f, zi_0, zi_1, zi_31, zi_all, zi_8, zi_16, zi_add, zi_sub, zi_mul, zi_neg, zi_lt, zi_le, zi_eq, zi_div, zi_t, zi_n, xb_I, xb_J, xb_V, xb_s, if_pos, if_neg, if_true, if_false, true_and, and_true, true_or, or_true, false_or, or_false, not_true, not_false_iff, zb_z, zb_o, zb_ft, tn_0, tn_1, tn_2, tn_3, tn_c, Int.reduceToNat, te_0, te_1, tk_0, tk_1, tk_m, ts_1, or_0, bp_f, vI, hR, zi_t, x1]; rfl)
  obtain ⟨mp, p1, p2, p3, p4⟩ := L2 7 (Nat.le_refl _)
  have w2 : mp.1 R 2 = zi (rdP z c).1.1 := p2.2
  have k2 : G_X5_read_30 S 10000 R 60 (zi 0) mc = some (some (.int (zi (rdP z c).1.1)), mp) := by
    rw [p1]
    obtain ⟨N, hN⟩ : ∃ N, 10000 - 7 = N + 1 := ⟨9992, rfl⟩
    rw [hN, show ((7 : Nat) : Int) = 7 from rfl]
    clear p1 p2 p3 p4 L1 L2 y1 y2 y3 y4 hN
    generalize (rdP z c).1.1 = v at *
    simp only [G_X5_read_30]
    repeat (first | (with_reducible refine (if_pos ?_).trans ?_; focus (simp (disch := omega) only [zi_f, zi_0, zi_1, zi_31, zi_all, zi_8, zi_16, zi_add, zi_sub, zi_mul, zi_neg, zi_lt, zi_le, zi_eq, zi_div, zi_t, zi_n, xb_I, xb_J, xb_V, xb_s, if_pos, if_neg, if_true, if_false, true_and, and_true, true_or, or_true, false_or, or_false, not_true, not_false_iff, zb_z, zb_o, zb_ft, tn_0, tn_1, tn_2, tn_3, tn_c, Int.reduceToNat, te_0, te_1, tk_0, tk_1, tk_m, ts_1, or_0, bp_f, hR, zi_t, w2] <;> omega)) | (with_reducible refine (if_neg ?_).trans ?_; focus (simp (disch := omega) only [zi_f, zi_0, zi_1, zi_31, zi_all, zi_8, zi_16, zi_add, zi_sub, zi_mul, zi_neg, zi_lt, zi_le, zi_eq, zi_div, zi_t, zi_n, xb_I, xb_J, xb_V, xb_s, if_pos, if_neg, if_true, if_false, true_and, and_true, true_or, or_true, false_or, or_false, not_true, not_false_iff, zb_z, zb_o, zb_ft, tn_0, tn_1, tn_2, tn_3, tn_c, Int.reduceToNat, te_0, te_1, tk_0, tk_1, tk_m, ts_1, or_0, bp_f, hR, zi_t, w2] <;> omega)) | ((conv => lhs; arg 1; simp (disch := omega) only [zi_f, zi_0, zi_1, zi_31, zi_all, zi_8, zi_16, zi_add, zi_sub, zi_mul, zi_neg, zi_lt, zi_le, zi_eq, zi_div, zi_t, zi_n, xb_I, xb_J, xb_V, xb_s, if_pos, if_neg, if_true, if_false, true_and, and_true, true_or, or_true, false_or, or_false, not_true, not_false_iff, zb_z, zb_o, zb_ft, tn_0, tn_1, tn_2, tn_3, tn_c, Int.reduceToNat, te_0, te_1, tk_0, tk_1, tk_m, ts_1, or_0, bp_f, hR, zi_t, w2]); first | with_reducible refine xb_I.trans ?_ | with_reducible refine xb_V.trans ?_ | with_reducible refine xb_J.trans ?_ | with_reducible refine xb_s.trans ?_))
    first | (simp (disch := omega) only [zi_f, zi_0, zi_1, zi_31, zi_all, zi_8, zi_16, zi_add, zi_sub, zi_mul, zi_neg, zi_lt, zi_le, zi_eq, zi_div, zi_t, zi_n, xb_I, xb_J, xb_V, xb_s, if_pos, if_neg, if_true, if_false, true_and, and_true, true_or, or_true, false_or, or_false, not_true, not_false_iff, zb_z, zb_o, zb_ft, tn_0, tn_1, tn_2, tn_3, tn_c, Int.reduceToNat, te_0, te_1, tk_0, tk_1, tk_m, ts_1, or_0, bp_f, vI, hR, zi_t, w2]; done) | rfl | (simp (disch := omega) only [zi_f, zi_0, zi_1, zi_31, zi_all, zi_8, zi_16, zi_add, zi_sub, zi_mul, zi_neg, zi_lt, zi_le, zi_eq, zi_div, zi_t, zi_n, xb_I, xb_J, xb_V, xb_s, if_pos, if_neg, if_true, if_false, true_and, and_true, true_or, or_true, false_or, or_false, not_true, not_false_iff, zb_z, zb_o, zb_ft, tn_0, tn_1, tn_2, tn_3, tn_c, Int.reduceToNat, te_0, te_1, tk_0, tk_1, tk_m, ts_1, or_0, bp_f, vI, hR, zi_t, w2]; rfl)
  have k1 : G_X5_read_11 S 10000 R 60 (zi 0) ms = some (some (.int (zi (rdP z c).1.1)), mp) := by
    rw [y1, ← k2]
    obtain ⟨N, hN⟩ : ∃ N, 10000 - 4 = N + 1 := ⟨9995, rfl⟩
    rw [hN, show ((4 : Nat) : Int) = 4 from rfl]
    clear p1 p2 p3 p4 L1 L2 y1 y2 y3 y4 hN k2
    simp only [G_X5_read_11]
    repeat (first | (with_reducible refine (if_pos ?_).trans ?_; focus (simp (disch := omega) only [zi_f, zi_0, zi_1, zi_31, zi_all, zi_8, zi_16, zi_add, zi_sub, zi_mul, zi_neg, zi_lt, zi_le, zi_eq, zi_div, zi_t, zi_n, xb_I, xb_J, xb_V, xb_s, if_pos, if_neg, if_true, if_false, true_and, and_true, true_or, or_true, false_or, or_false, not_true, not_false_iff, zb_z, zb_o, zb_ft, tn_0, tn_1, tn_2, tn_3, tn_c, Int.reduceToNat, te_0, te_1, tk_0, tk_1, tk_m, ts_1, or_0, bp_f, hR, zi_t] <;> omega)) | (with_reducible refine (if_neg ?_).trans ?_; focus (simp (disch := omega) only [zi_f, zi_0, zi_1, zi_31, zi_all, zi_8, zi_16, zi_add, zi_sub, zi_mul, zi_neg, zi_lt, zi_le, zi_eq, zi_div, zi_t, zi_n, xb_I, xb_J, xb_V, xb_s, if_pos, if_neg, if_true, if_false, true_and, and_true, true_or, or_true, false_or, or_false, not_true, not_false_iff, zb_z, zb_o, zb_ft, tn_0, tn_1, tn_2, tn_3, tn_c, Int.reduceToNat, te_0, te_1, tk_0, tk_1, tk_m, ts_1, or_0, bp_f, hR, zi_t] <;> omega)) | ((conv => lhs; arg 1; simp (disch := omega) only [zi_f, zi_0, zi_1, zi_31, zi_all, zi_8, zi_16, zi_add, zi_sub, zi_mul, zi_neg, zi_lt, zi_le, zi_eq, zi_div, zi_t, zi_n, xb_I, xb_J, xb_V, xb_s, if_pos, if_neg, if_true, if_false, true_and, and_true, true_or, or_true, false_or, or_false, not_true, not_false_iff, zb_z, zb_o, zb_ft, tn_0, tn_1, tn_2, tn_3, tn_c, Int.reduceToNat, te_0, te_1, tk_0, tk_1, tk_m, ts_1, or_0, bp_f, hR, zi_t]); first | with_reducible refine xb_I.trans ?_ | with_reducible refine xb_V.trans ?_ | with_reducible refine xb_J.trans ?_ | with_reducible refine xb_s.trans ?_))
    first | (simp (disch := omega) only [zi_f, zi_0, zi_1, zi_31, zi_all, zi_8, zi_16, zi_add, zi_sub, zi_mul, zi_neg, zi_lt, zi_le, zi_eq, zi_div, zi_t, zi_n, xb_I, xb_J, xb_V, xb_s, if_pos, if_neg, if_true, if_false, true_and, and_true, true_or, or_true, false_or, or_false, not_true, not_false_iff, zb_z, zb_o, zb_ft, tn_0, tn_1, tn_2, tn_3, tn_c, Int.reduceToNat, te_0, te_1, tk_0, tk_1, tk_m, ts_1, or_0, bp_f, vI, hR, zi_t]; done) | rfl | (simp (disch := omega) only [zi_f, zi_0, zi_1, zi_31, zi_all, zi_8, zi_16, zi_add, zi_sub, zi_mul, zi_neg, zi_lt, zi_le, zi_eq, zi_div, zi_t, zi_n, xb_I, xb_J, xb_V, xb_s, if_pos, if_neg, if_true, if_false, true_and, and_true, true_or, or_true, false_or, or_false, not_true, not_false_iff, zb_z, zb_o, zb_ft, tn_0, tn_1, tn_2, tn_3, tn_c, Int.reduceToNat, te_0, te_1, tk_0, tk_1, tk_m, ts_1, or_0, bp_f, vI, hR, zi_t]; rfl)
  refine ⟨mp, ?_, p3, by rw [p4.2.1]; exact n0, fun b x y => by rw [p4.1 b x y, o0 b (by omega)], by rw [p4.2.2, l0]⟩
  clear p1 p2 p3 p4 L1 L2 y1 y2 y3 y4 k2 w2
  generalize (rdP z c).1.1 = v at *
  unfold E_X5_read
  repeat (first | (with_reducible refine (if_pos ?_).trans ?_; focus (simp (disch := omega) only [zi_f, zi_0, zi_1, zi_31, zi_all, zi_8, zi_16, zi_add, zi_sub, zi_mul, zi_neg, zi_lt, zi_le, zi_eq, zi_div, zi_t, zi_n, xb_I, xb_J, xb_V, xb_s, if_pos, if_neg, if_true, if_false, true_and, and_true, true_or, or_true, false_or, or_false, not_true, not_false_iff, zb_z, zb_o, zb_ft, tn_0, tn_1, tn_2, tn_3, tn_c, Int.reduceToNat, te_0, te_1, tk_0, tk_1, tk_m, ts_1, or_0, bp_f, hR, sR_s0 hs, zi_t, e0, e1, k1] <;> omega)) | (with_reducible refine (if_neg ?_).trans ?_; focus (simp (disch := omega) only [zi_f, zi_0, zi_1, zi_31, zi_all, zi_8, zi_16, zi_add, zi_sub, zi_mul, zi_neg, zi_lt, zi_le, zi_eq, zi_div, zi_t, zi_n, xb_I, xb_J, xb_V, xb_s, if_pos, if_neg, if_true, if_false, true_and, and_true, true_or, or_true, false_or, or_false, not_true, not_false_iff, zb_z, zb_o, zb_ft, tn_0, tn_1, tn_2, tn_3, tn_c, Int.reduceToNat, te_0, te_1, tk_0, tk_1, tk_m, ts_1, or_0, bp_f, hR, sR_s0 hs, zi_t, e0, e1, k1] <;> omega)) | ((conv => lhs; arg 1; simp (disch := omega) only [zi_f, zi_0, zi_1, zi_31, zi_all, zi_8, zi_16, zi_add, zi_sub, zi_mul, zi_neg, zi_lt, zi_le, zi_eq, zi_div, zi_t, zi_n, xb_I, xb_J, xb_V, xb_s, if_pos, if_neg, if_true, if_false, true_and, and_true, true_or, or_true, false_or, or_false, not_true, not_false_iff, zb_z, zb_o, zb_ft, tn_0, tn_1, tn_2, tn_3, tn_c, Int.reduceToNat, te_0, te_1, tk_0, tk_1, tk_m, ts_1, or_0, bp_f, hR, sR_s0 hs, zi_t, e0, e1, k1]); first | with_reducible refine xb_I.trans ?_ | with_reducible refine xb_V.trans ?_ | with_reducible refine xb_J.trans ?_ | with_reducible refine xb_s.trans ?_))
  first | (simp (disch := omega) only [zi_f, zi_0, zi_1, zi_31, zi_all, zi_8, zi_16, zi_add, zi_sub, zi_mul, zi_neg, zi_lt, zi_le, zi_eq, zi_div, zi_t, zi_n, xb_I, xb_J, xb_V, xb_s, if_pos, if_neg, if_true, if_false, true_and, and_true, true_or, or_true, false_or, or_false, not_true, not_false_iff, zb_z, zb_o, zb_ft, tn_0, tn_1, tn_2, tn_3, tn_c, Int.reduceToNat, te_0, te_1, tk_0, tk_1, tk_m, ts_1, or_0, bp_f, vI, hR, sR_s0 hs, zi_t, e0, e1, k1]; done) | rfl | (simp (disch := omega) only [zi_f, zi_0, zi_1, zi_31, zi_all, zi_8, zi_16, zi_add, zi_sub, zi_mul, zi_neg, zi_lt, zi_le, zi_eq, zi_div, zi_t, zi_n, xb_I, xb_J, xb_V, xb_s, if_pos, if_neg, if_true, if_false, true_and, and_true, true_or, or_true, false_or, or_false, not_true, not_false_iff, zb_z, zb_o, zb_ft, tn_0, tn_1, tn_2, tn_3, tn_c, Int.reduceToNat, te_0, te_1, tk_0, tk_1, tk_m, ts_1, or_0, bp_f, vI, hR, sR_s0 hs, zi_t, e0, e1, k1]; rfl)

end
