/-! deeds: what a deed does to both states -/
def upW (w : Nat → Int) (j : Nat) (v : Int) : Nat → Int := fun k => if k = j then v else w k
theorem up_e (w : Nat → Int) (j : Nat) (v : Int) : upW w j v j = v := if_pos rfl
theorem up_n {w : Nat → Int} {j k : Nat} {v : Int} (h : k ≠ j) : upW w j v k = w k := if_neg h
def psR (r : RR) (v : Nat → Int) : RR := (r.1 + 1, fun d => if d = r.1 + 1 then v else r.2 d)
theorem ps_n (r : RR) (v : Nat → Int) : (psR r v).2 (psR r v).1 = v := if_pos rfl
theorem ps_o {r : RR} {v : Nat → Int} {d : Nat} (h : d ≤ r.1) : (psR r v).2 d = r.2 d := if_neg (by omega)
def ntC (m : xi_M) (n : Nat) (s o v : Int32) : xi_M := xi_wI (xi_wI (xi_wI (xi_wI m (50 + 7) n s) (50 + 8) n o) (50 + 9) n v) 50 4 (zi ((n : Int) + 1))
def ntM (m : xi_M) (n : Nat) : xi_M := xi_wI (wrM m 24 (34 * n) (fun k => m.1 21 (0 + k)) 34) 15 9 (zi ((n : Int) + 1))
theorem Dd_at {m m1 : xi_M} {c d : Nat} {w v : Nat → Int} (h7 : m1.1 (c + 7) d = m.1 (c + 7) d) (h8 : m1.1 (c + 8) d = m.1 (c + 8) d) (h9 : m1.1 (c + 9) d = m.1 (c + 9) d) (hd : Dd m c d w v) : Dd m1 c d w v := by
  unfold Dd at hd ⊢
  rw [h7, h8, h9]
  exact hd
theorem CC_ps {m m2 : xi_M} {t : TT} {r : RR} {k : KK} {f : FF} {v : Nat → Int} {s o x : Int32} (h : CC m (t, r, k, f)) (hf : RF m2 50 v) (h4 : m2.1 50 4 = zi ((r.1 : Int) + 1)) (h7 : ∀ b, 57 ≤ b → b < 60 → m2.1 b = (ntC m r.1 s o x).1 b) (ho : ∀ b, b < 50 ∨ 60 ≤ b → m2.1 b = m.1 b) (hl : m2.2 = m.2) (hd : Dd m2 50 r.1 (r.2 r.1) v) : CC m2 (t, psR r v, k, f) := by
  have hC : CR m 50 r := h.2.1
  refine ⟨CS_fr (fun b x y => ho b (by omega)) h.1, ⟨?_, ?_, fun d hd2 => ?_⟩, CK_fr (fun b x y => ho b (by omega)) h.2.2.1, CF_fr (ho 0 (by omega)) (ho 4 (by omega)) (by rw [hl]) h.2.2.2⟩
  · rw [ps_n]; exact hf
  · rw [h4]; rfl
  · by_cases e : d = r.1
    · subst e
      rw [ps_o (Nat.le_refl _), show (psR r v).2 (r.1 + 1) = v from if_pos rfl]
      exact hd
    · have hlt : d < r.1 := by
        have : d < r.1 + 1 := hd2
        omega
      rw [ps_o (by omega), ps_o (by omega)]
      refine Dd_at ?_ ?_ ?_ (hC.2.2 d hlt)
      · rw [h7 (50 + 7) (by omega) (by omega), ntC, wI_o (by omega), wI_o (by omega), wI_o (by omega), mw_ne (by omega)]
      · rw [h7 (50 + 8) (by omega) (by omega), ntC, wI_o (by omega), wI_o (by omega), mw_ne (by omega), wI_o (by omega)]
      · rw [h7 (50 + 9) (by omega) (by omega), ntC, wI_o (by omega), mw_ne (by omega), wI_o (by omega), wI_o (by omega)]
theorem MM_ps {m m2 : xi_M} {t : TT} {r : RR} {k : KK} {f : FF} {v : Nat → Int} (h : MM m (t, r, k, f)) (hf : ∀ j, j < 34 → m2.1 21 j = zi (v j)) (h15 : m2.1 15 = (ntM m r.1).1 15) (h24 : m2.1 24 = (ntM m r.1).1 24) (ho : ∀ b, b ≠ 15 → b ≠ 21 → b ≠ 24 → m2.1 b = m.1 b) (hl : m2.2 = m.2) : MM m2 (t, psR r v, k, f) := by
  have hC : MR m r := h.2.1
  have hF : MF m f := h.2.2.2
  refine ⟨MS_fr (fun b x y => ho b (by omega) (by omega) (by omega)) h.1, ⟨?_, ?_, fun d hd2 => ?_⟩, MK_fr (fun b x y => ho b (by omega) (by omega) (by omega)) h.2.2.1, ?_⟩
  · rw [ps_n]; exact hf
  · rw [h15, ntM, mw_eq]; rfl
  · have hlt : d < r.1 + 1 := hd2
    rw [ps_o (by omega)]
    intro j hj
    rw [h24, ntM, wI_o (by omega), wr_if]
    by_cases e : d = r.1
    · subst e
      rw [if_pos (by omega), show 0 + (34 * r.1 + j - 34 * r.1) = j by omega, hC.1 j hj]
    · rw [if_neg (by omega), hC.2.2 d (by omega) j hj]
  · obtain ⟨q1, q2, q3, q4, q5⟩ := hF
    refine ⟨?_, fun j hj => ?_, ?_, ?_, ?_⟩
    · rw [h15, ntM, mw_ne (by omega), wr_o (by omega)]; exact q1
    · rw [ho 28 (by omega) (by omega) (by omega)]; exact q2 j hj
    · rw [h15, ntM, mw_ne (by omega), wr_o (by omega)]; exact q3
    · rw [hl]; exact q4
    · rw [hl]; exact q5
theorem OR_ps {r : RR} {v : Nat → Int} (h : OR r) (hw : Wk (r.2 r.1)) (h1 : r.1 < 40) (hv : Wk v) : OR (psR r v) := by
  refine ⟨by show r.1 + 1 ≤ 40; omega, Or.inr fun d hd => ?_⟩
  have hd2 : d ≤ r.1 + 1 := hd
  by_cases e : d = r.1 + 1
  · rw [show (psR r v).2 d = v from if_pos e]; exact hv
  · rw [ps_o (by omega)]
    rcases h.2 with ⟨e0, h0⟩ | h0
    · have : d = r.1 := by omega
      rw [this]; exact hw
    · exact h0 d (by omega)
theorem pN_up {w : Nat → Int} {j : Nat} {v : Int} (h : j ≠ 1) : pN (upW w j v) = pN w := by unfold pN; rw [up_n (fun e => h e.symm)]
section
variable {S : xi_S} {m : xi_M} {w : Nat → Int}
theorem C_note (hs : ShR S 50) {n : Nat} (hN : m.1 50 4 = zi (n : Nat)) (hn : n < 40) (s o v : Int32) : E_X6_note S 50 s o v m = some (none, ntC m n s o v) := by
  unfold E_X6_note ntC
  repeat (first | (with_reducible refine (if_pos ?_).trans ?_; focus (simp (disch := omega) only [zi_f, zi_0, zi_1, zi_31, zi_all, zi_8, zi_16, zi_add, zi_sub, zi_mul, zi_neg, zi_lt, zi_le, zi_eq, zi_div, zi_t, zi_n, xb_I, xb_J, xb_V, xb_s, if_pos, if_neg, if_true, if_false, true_and, and_true, true_or, or_true, false_or, or_false, not_true, not_false_iff, zb_z, zb_o, zb_ft, tn_0, tn_1, tn_2, tn_3, tn_c, Int.reduceToNat, te_0, te_1, tk_0, tk_1, tk_m, ts_1, or_0, bp_f, sR_s0 hs, sR_s5 hs, sR_s6 hs, sR_s7 hs, sR_s8 hs, sR_s9 hs, sR_s10 hs, sR_s11 hs, sR_s12 hs, sR_s13 hs, sR_k1 hs, sR_k2 hs, sR_k3 hs, sR_k4 hs, sR_k5 hs, sR_k6 hs, sR_k7 hs, sR_k8 hs, sR_k9 hs, sR_l1 hs, sR_l2 hs, sR_l3 hs, sR_l4 hs, sR_l5 hs, sR_l6 hs, sR_l7 hs, sR_l8 hs, sR_l9 hs, hN, wI_o] <;> omega)) | (with_reducible refine (if_neg ?_).trans ?_; focus (simp (disch := omega) only [zi_f, zi_0, zi_1, zi_31, zi_all, zi_8, zi_16, zi_add, zi_sub, zi_mul, zi_neg, zi_lt, zi_le, zi_eq, zi_div, zi_t, zi_n, xb_I, xb_J, xb_V, xb_s, if_pos, if_neg, if_true, if_false, true_and, and_true, true_or, or_true, false_or, or_false, not_true, not_false_iff, zb_z, zb_o, zb_ft, tn_0, tn_1, tn_2, tn_3, tn_c, Int.reduceToNat, te_0, te_1, tk_0, tk_1, tk_m, ts_1, or_0, bp_f, sR_s0 hs, sR_s5 hs, sR_s6 hs, sR_s7 hs, sR_s8 hs, sR_s9 hs, sR_s10 hs, sR_s11 hs, sR_s12 hs, sR_s13 hs, sR_k1 hs, sR_k2 hs, sR_k3 hs, sR_k4 hs, sR_k5 hs, sR_k6 hs, sR_k7 hs, sR_k8 hs, sR_k9 hs, sR_l1 hs, sR_l2 hs, sR_l3 hs, sR_l4 hs, sR_l5 hs, sR_l6 hs, sR_l7 hs, sR_l8 hs, sR_l9 hs, hN, wI_o] <;> omega)) | ((conv => lhs; arg 1; simp (disch := omega) only [zi_f, zi_0, zi_1, zi_31, zi_all, zi_8, zi_16, zi_add, zi_sub, zi_mul, zi_neg, zi_lt, zi_le, zi_eq, zi_div, zi_t, zi_n, xb_I, xb_J, xb_V, xb_s, if_pos, if_neg, if_true, if_false, true_and, and_true, true_or, or_true, false_or, or_false, not_true, not_false_iff, zb_z, zb_o, zb_ft, tn_0, tn_1, tn_2, tn_3, tn_c, Int.reduceToNat, te_0, te_1, tk_0, tk_1, tk_m, ts_1, or_0, bp_f, sR_s0 hs, sR_s5 hs, sR_s6 hs, sR_s7 hs, sR_s8 hs, sR_s9 hs, sR_s10 hs, sR_s11 hs, sR_s12 hs, sR_s13 hs, sR_k1 hs, sR_k2 hs, sR_k3 hs, sR_k4 hs, sR_k5 hs, sR_k6 hs, sR_k7 hs, sR_k8 hs, sR_k9 hs, sR_l1 hs, sR_l2 hs, sR_l3 hs, sR_l4 hs, sR_l5 hs, sR_l6 hs, sR_l7 hs, sR_l8 hs, sR_l9 hs, hN, wI_o]); first | with_reducible refine xb_I.trans ?_ | with_reducible refine xb_V.trans ?_ | with_reducible refine xb_J.trans ?_ | with_reducible refine xb_s.trans ?_))
  first | (simp (disch := omega) only [zi_f, zi_0, zi_1, zi_31, zi_all, zi_8, zi_16, zi_add, zi_sub, zi_mul, zi_neg, zi_lt, zi_le, zi_eq, zi_div, zi_t, zi_n, xb_I, xb_J, xb_V, xb_s, if_pos, if_neg, if_true, if_false, true_and, and_true, true_or, or_true, false_or, or_false, not_true, not_false_iff, zb_z, zb_o, zb_ft, tn_0, tn_1, tn_2, tn_3, tn_c, Int.reduceToNat, te_0, te_1, tk_0, tk_1, tk_m, ts_1, or_0, bp_f, vI, sR_s0 hs, sR_s5 hs, sR_s6 hs, sR_s7 hs, sR_s8 hs, sR_s9 hs, sR_s10 hs, sR_s11 hs, sR_s12 hs, sR_s13 hs, sR_k1 hs, sR_k2 hs, sR_k3 hs, sR_k4 hs, sR_k5 hs, sR_k6 hs, sR_k7 hs, sR_k8 hs, sR_k9 hs, sR_l1 hs, sR_l2 hs, sR_l3 hs, sR_l4 hs, sR_l5 hs, sR_l6 hs, sR_l7 hs, sR_l8 hs, sR_l9 hs, hN, wI_o]; done) | rfl | (simp (disch := omega) only [zi_f, zi_0, zi_1, zi_31, zi_all, zi_8, zi_16, zi_add, zi_sub, zi_mul, zi_neg, zi_lt, zi_le, zi_eq, zi_div, zi_t, zi_n, xb_I, xb_J, xb_V, xb_s, if_pos, if_neg, if_true, if_false, true_and, and_true, true_or, or_true, false_or, or_false, not_true, not_false_iff, zb_z, zb_o, zb_ft, tn_0, tn_1, tn_2, tn_3, tn_c, Int.reduceToNat, te_0, te_1, tk_0, tk_1, tk_m, ts_1, or_0, bp_f, vI, sR_s0 hs, sR_s5 hs, sR_s6 hs, sR_s7 hs, sR_s8 hs, sR_s9 hs, sR_s10 hs, sR_s11 hs, sR_s12 hs, sR_s13 hs, sR_k1 hs, sR_k2 hs, sR_k3 hs, sR_k4 hs, sR_k5 hs, sR_k6 hs, sR_k7 hs, sR_k8 hs, sR_k9 hs, sR_l1 hs, sR_l2 hs, sR_l3 hs, sR_l4 hs, sR_l5 hs, sR_l6 hs, sR_l7 hs, sR_l8 hs, sR_l9 hs, hN, wI_o]; rfl)
theorem M_copies {a b : Nat} {la lb o p n : Nat} (h1 : S.1 a = 0) (h2 : S.1 b = 0) (h3 : S.2.1 a = la) (h4 : S.2.1 b = lb) (h5 : o + n ≤ la) (h6 : p + n ≤ lb) (h7 : la ≤ 9000) (h8 : lb ≤ 9000) (hab : a ≠ b) {xo xp xn : Int} (e1 : xo = o) (e2 : xp = p) (e3 : xn = n) : E_X9_copies S a (zi xo) b (zi xp) (zi xn) m = some (none, wrM m b p (fun k => m.1 a (o + k)) n) := by
  subst e1 e2 e3
  unfold E_X9_copies
  refine lp_all (fun q j => G_X9_copies_3 S q a (zi o) b (zi p) (zi n) (zi j) (wrM m b p (fun k => m.1 a (o + k)) j)) n 10000 (fun j q hj => ?_) (fun q => ?_) (by omega)
  · have t1 : ((o : Int) + (j : Int)).toNat = o + j := by omega
    have t2 : ((p : Int) + (j : Int)).toNat = p + j := by omega
    simp only [G_X9_copies_3]
    rw [wr_s]
    repeat (first | (with_reducible refine (if_pos ?_).trans ?_; focus (simp (disch := omega) only [zi_f, zi_0, zi_1, zi_31, zi_all, zi_8, zi_16, zi_add, zi_sub, zi_mul, zi_neg, zi_lt, zi_le, zi_eq, zi_div, zi_t, zi_n, xb_I, xb_J, xb_V, xb_s, if_pos, if_neg, if_true, if_false, true_and, and_true, true_or, or_true, false_or, or_false, not_true, not_false_iff, zb_z, zb_o, zb_ft, tn_0, tn_1, tn_2, tn_3, tn_c, Int.reduceToNat, te_0, te_1, tk_0, tk_1, tk_m, ts_1, or_0, bp_f, h1, h2, h3, h4, t1, t2, wr_o] <;> omega)) | (with_reducible refine (if_neg ?_).trans ?_; focus (simp (disch := omega) only [zi_f, zi_0, zi_1, zi_31, zi_all, zi_8, zi_16, zi_add, zi_sub, zi_mul, zi_neg, zi_lt, zi_le, zi_eq, zi_div, zi_t, zi_n, xb_I, xb_J, xb_V, xb_s, if_pos, if_neg, if_true, if_false, true_and, and_true, true_or, or_true, false_or, or_false, not_true, not_false_iff, zb_z, zb_o, zb_ft, tn_0, tn_1, tn_2, tn_3, tn_c, Int.reduceToNat, te_0, te_1, tk_0, tk_1, tk_m, ts_1, or_0, bp_f, h1, h2, h3, h4, t1, t2, wr_o] <;> omega)) | ((conv => lhs; arg 1; simp (disch := omega) only [zi_f, zi_0, zi_1, zi_31, zi_all, zi_8, zi_16, zi_add, zi_sub, zi_mul, zi_neg, zi_lt, zi_le, zi_eq, zi_div, zi_t, zi_n, xb_I, xb_J, xb_V, xb_s, if_pos, if_neg, if_true, if_false, true_and, and_true, true_or, or_true, false_or, or_false, not_true, not_false_iff, zb_z, zb_o, zb_ft, tn_0, tn_1, tn_2, tn_3, tn_c, Int.reduceToNat, te_0, te_1, tk_0, tk_1, tk_m, ts_1, or_0, bp_f, h1, h2, h3, h4, t1, t2, wr_o]); first | with_reducible refine xb_I.trans ?_ | with_reducible refine xb_V.trans ?_ | with_reducible refine xb_J.trans ?_ | with_reducible refine xb_s.trans ?_))
    first | (simp (disch := omega) only [zi_f, zi_0, zi_1, zi_31, zi_all, zi_8, zi_16, zi_add, zi_sub, zi_mul, zi_neg, zi_lt, zi_le, zi_eq, zi_div, zi_t, zi_n, xb_I, xb_J, xb_V, xb_s, if_pos, if_neg, if_true, if_false, true_and, and_true, true_or, or_true, false_or, or_false, not_true, not_false_iff, zb_z, zb_o, zb_ft, tn_0, tn_1, tn_2, tn_3, tn_c, Int.reduceToNat, te_0, te_1, tk_0, tk_1, tk_m, ts_1, or_0, bp_f, vI, h1, h2, h3, h4, t1, t2, wr_o]; done) | rfl | (simp (disch := omega) only [zi_f, zi_0, zi_1, zi_31, zi_all, zi_8, zi_16, zi_add, zi_sub, zi_mul, zi_neg, zi_lt, zi_le, zi_eq, zi_div, zi_t, zi_n, xb_I, xb_J, xb_V, xb_s, if_pos, if_neg, if_true, if_false, true_and, and_true, true_or, or_true, false_or, or_false, not_true, not_false_iff, zb_z, zb_o, zb_ft, tn_0, tn_1, tn_2, tn_3, tn_c, Int.reduceToNat, te_0, te_1, tk_0, tk_1, tk_m, ts_1, or_0, bp_f, vI, h1, h2, h3, h4, t1, t2, wr_o]; rfl)
  · simp only [G_X9_copies_3]
    repeat (first | (with_reducible refine (if_pos ?_).trans ?_; focus (simp (disch := omega) only [zi_f, zi_0, zi_1, zi_31, zi_all, zi_8, zi_16, zi_add, zi_sub, zi_mul, zi_neg, zi_lt, zi_le, zi_eq, zi_div, zi_t, zi_n, xb_I, xb_J, xb_V, xb_s, if_pos, if_neg, if_true, if_false, true_and, and_true, true_or, or_true, false_or, or_false, not_true, not_false_iff, zb_z, zb_o, zb_ft, tn_0, tn_1, tn_2, tn_3, tn_c, Int.reduceToNat, te_0, te_1, tk_0, tk_1, tk_m, ts_1, or_0, bp_f, h1] <;> omega)) | (with_reducible refine (if_neg ?_).trans ?_; focus (simp (disch := omega) only [zi_f, zi_0, zi_1, zi_31, zi_all, zi_8, zi_16, zi_add, zi_sub, zi_mul, zi_neg, zi_lt, zi_le, zi_eq, zi_div, zi_t, zi_n, xb_I, xb_J, xb_V, xb_s, if_pos, if_neg, if_true, if_false, true_and, and_true, true_or, or_true, false_or, or_false, not_true, not_false_iff, zb_z, zb_o, zb_ft, tn_0, tn_1, tn_2, tn_3, tn_c, Int.reduceToNat, te_0, te_1, tk_0, tk_1, tk_m, ts_1, or_0, bp_f, h1] <;> omega)) | ((conv => lhs; arg 1; simp (disch := omega) only [zi_f, zi_0, zi_1, zi_31, zi_all, zi_8, zi_16, zi_add, zi_sub, zi_mul, zi_neg, zi_lt, zi_le, zi_eq, zi_div, zi_t, zi_n, xb_I, xb_J, xb_V, xb_s, if_pos, if_neg, if_true, if_false, true_and, and_true, true_or, or_true, false_or, or_false, not_true, not_false_iff, zb_z, zb_o, zb_ft, tn_0, tn_1, tn_2, tn_3, tn_c, Int.reduceToNat, te_0, te_1, tk_0, tk_1, tk_m, ts_1, or_0, bp_f, h1]); first | with_reducible refine xb_I.trans ?_ | with_reducible refine xb_V.trans ?_ | with_reducible refine xb_J.trans ?_ | with_reducible refine xb_s.trans ?_))
    first | (simp (disch := omega) only [zi_f, zi_0, zi_1, zi_31, zi_all, zi_8, zi_16, zi_add, zi_sub, zi_mul, zi_neg, zi_lt, zi_le, zi_eq, zi_div, zi_t, zi_n, xb_I, xb_J, xb_V, xb_s, if_pos, if_neg, if_true, if_false, true_and, and_true, true_or, or_true, false_or, or_false, not_true, not_false_iff, zb_z, zb_o, zb_ft, tn_0, tn_1, tn_2, tn_3, tn_c, Int.reduceToNat, te_0, te_1, tk_0, tk_1, tk_m, ts_1, or_0, bp_f, vI, h1]; done) | rfl | (simp (disch := omega) only [zi_f, zi_0, zi_1, zi_31, zi_all, zi_8, zi_16, zi_add, zi_sub, zi_mul, zi_neg, zi_lt, zi_le, zi_eq, zi_div, zi_t, zi_n, xb_I, xb_J, xb_V, xb_s, if_pos, if_neg, if_true, if_false, true_and, and_true, true_or, or_true, false_or, or_false, not_true, not_false_iff, zb_z, zb_o, zb_ft, tn_0, tn_1, tn_2, tn_3, tn_c, Int.reduceToNat, te_0, te_1, tk_0, tk_1, tk_m, ts_1, or_0, bp_f, vI, h1]; rfl)
theorem M_notes (hX : ShX S) {n : Nat} (hN : m.1 15 9 = zi (n : Nat)) (hn : n < 40) : E_X9_notes S 15 m = some (none, ntM m n) := by
  have hc := M_copies (S := S) (m := m) (a := 21) (b := 24) (o := 0) (p := 34 * n) (n := 34) (sX_xk5 hX) (sX_xk8 hX) (sX_xl5 hX) (sX_xl8 hX) (by omega) (by omega) (by omega) (by omega) (by omega) (xo := 0) (xp := 34 * (n : Int)) (xn := 34) rfl (by omega) rfl
  unfold E_X9_notes ntM
  repeat (first | (with_reducible refine (if_pos ?_).trans ?_; focus (simp (disch := omega) only [zi_f, zi_0, zi_1, zi_31, zi_all, zi_8, zi_16, zi_add, zi_sub, zi_mul, zi_neg, zi_lt, zi_le, zi_eq, zi_div, zi_t, zi_n, xb_I, xb_J, xb_V, xb_s, if_pos, if_neg, if_true, if_false, true_and, and_true, true_or, or_true, false_or, or_false, not_true, not_false_iff, zb_z, zb_o, zb_ft, tn_0, tn_1, tn_2, tn_3, tn_c, Int.reduceToNat, te_0, te_1, tk_0, tk_1, tk_m, ts_1, or_0, bp_f, sX_x0 hX, sX_xr5 hX, sX_xr8 hX, hN, hc, wr_o] <;> omega)) | (with_reducible refine (if_neg ?_).trans ?_; focus (simp (disch := omega) only [zi_f, zi_0, zi_1, zi_31, zi_all, zi_8, zi_16, zi_add, zi_sub, zi_mul, zi_neg, zi_lt, zi_le, zi_eq, zi_div, zi_t, zi_n, xb_I, xb_J, xb_V, xb_s, if_pos, if_neg, if_true, if_false, true_and, and_true, true_or, or_true, false_or, or_false, not_true, not_false_iff, zb_z, zb_o, zb_ft, tn_0, tn_1, tn_2, tn_3, tn_c, Int.reduceToNat, te_0, te_1, tk_0, tk_1, tk_m, ts_1, or_0, bp_f, sX_x0 hX, sX_xr5 hX, sX_xr8 hX, hN, hc, wr_o] <;> omega)) | ((conv => lhs; arg 1; simp (disch := omega) only [zi_f, zi_0, zi_1, zi_31, zi_all, zi_8, zi_16, zi_add, zi_sub, zi_mul, zi_neg, zi_lt, zi_le, zi_eq, zi_div, zi_t, zi_n, xb_I, xb_J, xb_V, xb_s, if_pos, if_neg, if_true, if_false, true_and, and_true, true_or, or_true, false_or, or_false, not_true, not_false_iff, zb_z, zb_o, zb_ft, tn_0, tn_1, tn_2, tn_3, tn_c, Int.reduceToNat, te_0, te_1, tk_0, tk_1, tk_m, ts_1, or_0, bp_f, sX_x0 hX, sX_xr5 hX, sX_xr8 hX, hN, hc, wr_o]); first | with_reducible refine xb_I.trans ?_ | with_reducible refine xb_V.trans ?_ | with_reducible refine xb_J.trans ?_ | with_reducible refine xb_s.trans ?_))
  first | (simp (disch := omega) only [zi_f, zi_0, zi_1, zi_31, zi_all, zi_8, zi_16, zi_add, zi_sub, zi_mul, zi_neg, zi_lt, zi_le, zi_eq, zi_div, zi_t, zi_n, xb_I, xb_J, xb_V, xb_s, if_pos, if_neg, if_true, if_false, true_and, and_true, true_or, or_true, false_or, or_false, not_true, not_false_iff, zb_z, zb_o, zb_ft, tn_0, tn_1, tn_2, tn_3, tn_c, Int.reduceToNat, te_0, te_1, tk_0, tk_1, tk_m, ts_1, or_0, bp_f, vI, sX_x0 hX, sX_xr5 hX, sX_xr8 hX, hN, hc, wr_o]; done) | rfl | (simp (disch := omega) only [zi_f, zi_0, zi_1, zi_31, zi_all, zi_8, zi_16, zi_add, zi_sub, zi_mul, zi_neg, zi_lt, zi_le, zi_eq, zi_div, zi_t, zi_n, xb_I, xb_J, xb_V, xb_s, if_pos, if_neg, if_true, if_false, true_and, and_true, true_or, or_true, false_or, or_false, not_true, not_false_iff, zb_z, zb_o, zb_ft, tn_0, tn_1, tn_2, tn_3, tn_c, Int.reduceToNat, te_0, te_1, tk_0, tk_1, tk_m, ts_1, or_0, bp_f, vI, sX_x0 hX, sX_xr5 hX, sX_xr8 hX, hN, hc, wr_o]; rfl)
theorem ntM_o {n b : Nat} (h1 : b ≠ 15) (h2 : b ≠ 24) : (ntM m n).1 b = m.1 b := by rw [ntM, wI_o h1, wr_o h2]
theorem ntM_l {n : Nat} : (ntM m n).2 = m.2 := by rw [ntM, mw_l, wr_l]
theorem ntM_r {n : Nat} (hr : Row S m 21 w) : Row S (ntM m n) 21 w := ⟨hr.1, hr.2.1, by rw [ntM_o (by omega) (by omega)]; exact hr.2.2⟩
theorem ntC_o {n b : Nat} {s o v : Int32} (h : b < 50 ∨ 60 ≤ b) : (ntC m n s o v).1 b = m.1 b := by rw [ntC, wI_o (by omega), wI_o (by omega), wI_o (by omega), wI_o (by omega)]
theorem RF_nt {n : Nat} {s o v : Int32} (hf : RF m 50 w) : RF (ntC m n s o v) 50 w := by
  have e0 : ∀ j, j ≠ 4 → (ntC m n s o v).1 50 j = m.1 50 j := fun j hj => by rw [ntC, mw_ne (by omega), wI_o (by omega), wI_o (by omega), wI_o (by omega)]
  have e1 : ∀ b, 51 ≤ b → b < 57 → (ntC m n s o v).1 b = m.1 b := fun b h1 h2 => by rw [ntC, wI_o (by omega), wI_o (by omega), wI_o (by omega), wI_o (by omega)]
  obtain ⟨f0, f1, f2, f3, fc, fg, fk, fs, fp, ft⟩ := hf
  unfold RF
  rw [e0 0 (by omega), e0 1 (by omega), e0 2 (by omega), e0 3 (by omega), e1 (50 + 1) (by omega) (by omega), e1 (50 + 2) (by omega) (by omega), e1 (50 + 3) (by omega) (by omega), e1 (50 + 4) (by omega) (by omega), e1 (50 + 5) (by omega) (by omega), e1 (50 + 6) (by omega) (by omega)]
  exact ⟨f0, f1, f2, f3, fc, fg, fk, fs, fp, ft⟩
theorem nt_7 {n : Nat} {s o v : Int32} : (ntC m n s o v).1 (50 + 7) n = s := by rw [ntC, wI_o (by omega), wI_o (by omega), wI_o (by omega), mw_eq]
theorem nt_8 {n : Nat} {s o v : Int32} : (ntC m n s o v).1 (50 + 8) n = o := by rw [ntC, wI_o (by omega), wI_o (by omega), mw_eq]
theorem nt_9 {n : Nat} {s o v : Int32} : (ntC m n s o v).1 (50 + 9) n = v := by rw [ntC, wI_o (by omega), mw_eq]
theorem nt_4 {n : Nat} {s o v : Int32} : (ntC m n s o v).1 50 4 = zi ((n : Int) + 1) := by rw [ntC, mw_eq]
theorem RF_coat (hf : RF m 50 w) {k : Nat} (hk : k < 4) (v : Int) : RF (xi_wI m (50 + 1) k (zi v)) 50 (upW w (6 + k) v) := by
  obtain ⟨f0, f1, f2, f3, fc, fg, fk, fs, fp, ft⟩ := hf
  have hu : ∀ j, j < 6 ∨ 10 ≤ j → upW w (6 + k) v j = w j := fun j hj => up_n (by omega)
  have hm : ∀ b, b ≠ 50 + 1 → (xi_wI m (50 + 1) k (zi v)).1 b = m.1 b := fun b hb => wI_o hb
  have hp : pN (upW w (6 + k) v) = pN w := pN_up (by omega)
  unfold RF
  rw [hp]
  refine ⟨by rw [hm _ (by omega), hu _ (by omega)]; exact f0, by rw [hm _ (by omega), hu _ (by omega)]; exact f1, by rw [hm _ (by omega), hu _ (by omega)]; exact f2, by rw [hm _ (by omega), hu _ (by omega)]; exact f3, fun j hj => ?_, fun j hj => by rw [hm _ (by omega), hu _ (by omega)]; exact fg j hj, fun j hj => by rw [hm _ (by omega), hu _ (by omega)]; exact fk j hj, fun j hj => by rw [hm _ (by omega), hu _ (by omega)]; exact fs j hj, fun j hj => by rw [hm _ (by omega), hu _ (by omega)]; exact fp j hj, fun j hj => by rw [hm _ (by omega), hu _ (by omega)]; exact ft j hj⟩
  by_cases e : j = k
  · subst e; rw [mw_eq, up_e]
  · rw [mw_ne (by omega), up_n (by omega)]; exact fc j hj
theorem RF_wet (hf : RF m 50 w) (v : Int) : RF (xi_wI m 50 3 (zi v)) 50 (upW w 3 v) := by
  obtain ⟨f0, f1, f2, f3, fc, fg, fk, fs, fp, ft⟩ := hf
  have hu : ∀ j, j ≠ 3 → upW w 3 v j = w j := fun j hj => up_n hj
  have hm : ∀ b, b ≠ 50 → (xi_wI m 50 3 (zi v)).1 b = m.1 b := fun b hb => wI_o hb
  have hm2 : ∀ j, j ≠ 3 → (xi_wI m 50 3 (zi v)).1 50 j = m.1 50 j := fun j hj => mw_ne (by omega)
  have hp : pN (upW w 3 v) = pN w := pN_up (by omega)
  unfold RF
  rw [hp]
  exact ⟨by rw [hm2 _ (by omega), hu _ (by omega)]; exact f0, by rw [hm2 _ (by omega), hu _ (by omega)]; exact f1, by rw [hm2 _ (by omega), hu _ (by omega)]; exact f2, by rw [mw_eq, up_e], fun j hj => by rw [hm _ (by omega), hu _ (by omega)]; exact fc j hj, fun j hj => by rw [hm _ (by omega), hu _ (by omega)]; exact fg j hj, fun j hj => by rw [hm _ (by omega), hu _ (by omega)]; exact fk j hj, fun j hj => by rw [hm _ (by omega), hu _ (by omega)]; exact fs j hj, fun j hj => by rw [hm _ (by omega), hu _ (by omega)]; exact fp j hj, fun j hj => by rw [hm _ (by omega), hu _ (by omega)]; exact ft j hj⟩
theorem RF_place (hf : RF m 50 w) {i : Nat} (v : Int) : RF (xi_wI m (50 + 5) i (zi v)) 50 (upW w (12 + 4 * i) v) := by
  obtain ⟨f0, f1, f2, f3, fc, fg, fk, fs, fp, ft⟩ := hf
  have hu : ∀ j, j ≠ 12 + 4 * i → upW w (12 + 4 * i) v j = w j := fun j hj => up_n hj
  have hm : ∀ b, b ≠ 50 + 5 → (xi_wI m (50 + 5) i (zi v)).1 b = m.1 b := fun b hb => wI_o hb
  have hp : pN (upW w (12 + 4 * i) v) = pN w := pN_up (by omega)
  unfold RF
  rw [hp]
  refine ⟨by rw [hm _ (by omega), hu _ (by omega)]; exact f0, by rw [hm _ (by omega), hu _ (by omega)]; exact f1, by rw [hm _ (by omega), hu _ (by omega)]; exact f2, by rw [hm _ (by omega), hu _ (by omega)]; exact f3, fun j hj => by rw [hm _ (by omega), hu _ (by omega)]; exact fc j hj, fun j hj => by rw [hm _ (by omega), hu _ (by omega)]; exact fg j hj, fun j hj => by rw [hm _ (by omega), hu _ (by omega)]; exact fk j hj, fun j hj => by rw [hm _ (by omega), hu _ (by omega)]; exact fs j hj, fun j hj => ?_, fun j hj => by rw [hm _ (by omega), hu _ (by omega)]; exact ft j hj⟩
  by_cases e : j = i
  · subst e; rw [mw_eq, up_e]
  · rw [mw_ne (by omega), up_n (by omega)]; exact fp j hj
theorem Wk_wet {v : Int} (h : Wk w) (hv : 0 ≤ v ∧ v ≤ 1) : Wk (upW w 3 v) := by
  obtain ⟨⟨b0, b1, b3, bc, bp⟩, c, p1, st⟩ := h
  have hu : ∀ j, j ≠ 3 → upW w 3 v j = w j := fun j hj => up_n hj
  have hpN : pN (upW w 3 v) = pN w := pN_up (by omega)
  refine ⟨⟨by rw [hu _ (by omega)]; exact b0, by rw [hu _ (by omega)]; exact b1, by rw [up_e]; exact hv, fun k hk => by rw [hu _ (by omega)]; exact bc k hk, fun i hi => by rw [hu _ (by omega), hu _ (by omega), hu _ (by omega), hu _ (by omega)]; exact bp i hi⟩, fun e he => by rw [hu _ (by omega), hu _ (by omega)]; exact c e he, by rw [hu _ (by omega)]; exact p1, fun i hi => ?_⟩
  rw [hpN] at hi
  rw [hu _ (by omega)]; exact st i hi
theorem Wk_pl {i : Nat} {v : Int} (h : Wk w) (hv : 0 ≤ v ∧ v ≤ 20) : Wk (upW w (12 + 4 * i) v) := by
  obtain ⟨⟨b0, b1, b3, bc, bp⟩, c, p1, st⟩ := h
  have hu : ∀ j, j ≠ 12 + 4 * i → upW w (12 + 4 * i) v j = w j := fun j hj => up_n hj
  have hpN : pN (upW w (12 + 4 * i) v) = pN w := pN_up (by omega)
  refine ⟨⟨by rw [hu _ (by omega)]; exact b0, by rw [hu _ (by omega)]; exact b1, by rw [hu _ (by omega)]; exact b3, fun k hk => by rw [hu _ (by omega)]; exact bc k hk, fun k hk => ?_⟩, fun e he => by rw [hu _ (by omega), hu _ (by omega)]; exact c e he, by rw [hu _ (by omega)]; exact p1, fun k hk => ?_⟩
  · have q := bp k hk
    rw [hu (10 + 4 * k) (by omega), hu (11 + 4 * k) (by omega), hu (13 + 4 * k) (by omega)]
    by_cases e : k = i
    · subst e; rw [up_e]; exact ⟨q.1, q.2.1, hv, q.2.2.2⟩
    · rw [hu _ (by omega)]; exact q
  · rw [hpN] at hk
    rw [hu _ (by omega)]; exact st k hk
theorem Wk_co {k : Nat} {n : Int} (h : Wk w) (hk : k < 4) (hm : mvP (coP w) k n = true) : Wk (upW w (6 + k) (w (6 + k) + n)) := by
  obtain ⟨⟨b0, b1, b3, bc, bp⟩, c, p1, st⟩ := h
  have hpN : pN (upW w (6 + k) (w (6 + k) + n)) = pN w := pN_up (by omega)
  have c0 := c 0 (by omega)
  have c1 := c 1 (by omega)
  unfold mvP coP at hm
  rw [Bool.and_eq_true] at hm
  have hm1 := of_decide_eq_true hm.1
  refine ⟨⟨?_, ?_, ?_, fun j hj => ?_, fun i hi => ?_⟩, fun e he => ?_, ?_, fun i hi => ?_⟩
  · rw [up_n (by omega)]; exact b0
  · rw [up_n (by omega)]; exact b1
  · rw [up_n (by omega)]; exact b3
  · by_cases e : j = k
    · subst e; rw [up_e]; omega
    · rw [up_n (by omega)]; exact bc j hj
  · rw [up_n (by omega), up_n (by omega), up_n (by omega), up_n (by omega)]; exact bp i hi
  · have hce := c e he
    have hm2 := hm.2
    by_cases e1 : 6 + 2 * e = 6 + k
    · have ek : k = 2 * e := by omega
      rw [if_pos (by omega)] at hm2
      have hm3 := of_decide_eq_true hm2
      rw [e1, up_e, up_n (by omega)]
      rw [show 6 + (k + 1) = 7 + 2 * e by omega] at hm3
      omega
    · by_cases e2 : 7 + 2 * e = 6 + k
      · rw [if_neg (by omega)] at hm2
        have hm3 := of_decide_eq_true hm2
        rw [e2, up_e, up_n (by omega)]
        rw [show 6 + (k - 1) = 6 + 2 * e by omega] at hm3
        omega
      · rw [up_n (by omega), up_n (by omega)]; exact hce
  · rw [up_n (by omega)]; exact p1
  · rw [hpN] at hi
    rw [up_n (by omega)]; exact st i hi
end
