/-! text, mean, copy -/
section
variable {S : xi_S}
def sp_text (r n : Int) (q : Sg) : Option Value × Sg := if (0 ≤ r ∧ r ≤ 3) ∧ n ≤ 60 then (if 0 ≤ n then (vI n, bgT q.1 (6 + r.toNat) n (zi 32), q.2) else (vI (-3), rfQ 5 q)) else (vI (-1), q)
theorem c_text (hS : Sh S) (r : Int) (r1 : -2147483648 ≤ r) (r2 : r < 2147483648) (n : Int) (n1 : -2147483648 ≤ n) (n2 : n < 2147483648)  : Cim S (fun m => E_X8_text S 0 (zi r) (zi n) m) (sp_text r n) := by
  rintro ⟨t, rr, k, f⟩ m hO hC
  have hT := hS.1
  have hO1 : OT t := hO.1
  have hC1 : CS m t := hC.1
  unfold sp_text
  dsimp only
  by_cases h1 : 0 ≤ r ∧ r ≤ 3
  · obtain ⟨s, rfl⟩ : ∃ s : Nat, r = s := ⟨r.toNat, by omega⟩
    rw [Int.toNat_natCast]
    by_cases h2 : n ≤ 60
    · rw [if_pos ⟨h1, h2⟩]
      by_cases h3 : 0 ≤ n
      · rw [if_pos h3]
        have hbg := C_begin (m := m) hT (s := 6 + s) (by omega) n (zi 32)
        refine ⟨bgM m (6 + s) n (zi 32), ?_, CC_bg hC (by omega) (by omega), fun b _ _ => ⟨bgM_o (by omega) (by omega), by rw [bgM_l]⟩⟩
        unfold E_X8_text E_X8_begun
        simp (disch := omega) only [zi_f, zi_0, zi_1, zi_31, zi_all, zi_8, zi_16, zi_add, zi_sub, zi_mul, zi_neg, zi_lt, zi_le, zi_eq, zi_div, zi_t, zi_n, xb_I, xb_J, xb_V, xb_s, if_pos, if_neg, if_true, if_false, true_and, and_true, true_or, or_true, false_or, or_false, not_true, not_false_iff, zb_z, zb_o, zb_ft, tn_0, tn_1, tn_2, tn_3, tn_c, Int.reduceToNat, te_0, te_1, tk_0, tk_1, tk_m, ts_1, or_0, bp_f, sT_t0 hT, sT_t1 hT, sT_t2 hT, sT_t3 hT, sT_t4 hT, sT_t5 hT, sT_t6 hT, sT_t7 hT, sT_t8 hT, sT_t9 hT, sT_t10 hT, sT_a1 hT, sT_a2 hT, sT_a3 hT, sT_a4 hT, sT_b1 hT, sT_b2 hT, sT_b3 hT, sT_b4 hT, sT_d1 hT, sT_d2 hT, sT_d3 hT, sT_e1 hT, sT_e2 hT, sT_e3 hT, sT_e4 hT, sT_e5 hT, C_wt, C_wf, C_r1 hT, C_r2 hT, C_r3 hT, C_r4 hT, C_r5 hT, C_an hT, hbg]
        rfl
      · rw [if_neg h3]
        refine ⟨rfC m 5, ?_, CC_rf hC, fun b _ _ => ⟨rfC_o (by omega) (by omega), rfl⟩⟩
        unfold E_X8_text E_X8_begun
        simp (disch := omega) only [zi_f, zi_0, zi_1, zi_31, zi_all, zi_8, zi_16, zi_add, zi_sub, zi_mul, zi_neg, zi_lt, zi_le, zi_eq, zi_div, zi_t, zi_n, xb_I, xb_J, xb_V, xb_s, if_pos, if_neg, if_true, if_false, true_and, and_true, true_or, or_true, false_or, or_false, not_true, not_false_iff, zb_z, zb_o, zb_ft, tn_0, tn_1, tn_2, tn_3, tn_c, Int.reduceToNat, te_0, te_1, tk_0, tk_1, tk_m, ts_1, or_0, bp_f, sT_t0 hT, sT_t1 hT, sT_t2 hT, sT_t3 hT, sT_t4 hT, sT_t5 hT, sT_t6 hT, sT_t7 hT, sT_t8 hT, sT_t9 hT, sT_t10 hT, sT_a1 hT, sT_a2 hT, sT_a3 hT, sT_a4 hT, sT_b1 hT, sT_b2 hT, sT_b3 hT, sT_b4 hT, sT_d1 hT, sT_d2 hT, sT_d3 hT, sT_e1 hT, sT_e2 hT, sT_e3 hT, sT_e4 hT, sT_e5 hT, C_wt, C_wf, C_r1 hT, C_r2 hT, C_r3 hT, C_r4 hT, C_r5 hT, C_an hT]
        rfl
    · rw [if_neg (by omega)]
      refine ⟨m, ?_, hC, fun b _ _ => Cself⟩
      unfold E_X8_text
      simp (disch := omega) only [zi_f, zi_0, zi_1, zi_31, zi_all, zi_8, zi_16, zi_add, zi_sub, zi_mul, zi_neg, zi_lt, zi_le, zi_eq, zi_div, zi_t, zi_n, xb_I, xb_J, xb_V, xb_s, if_pos, if_neg, if_true, if_false, true_and, and_true, true_or, or_true, false_or, or_false, not_true, not_false_iff, zb_z, zb_o, zb_ft, tn_0, tn_1, tn_2, tn_3, tn_c, Int.reduceToNat, te_0, te_1, tk_0, tk_1, tk_m, ts_1, or_0, bp_f, sT_t0 hT, sT_t1 hT, sT_t2 hT, sT_t3 hT, sT_t4 hT, sT_t5 hT, sT_t6 hT, sT_t7 hT, sT_t8 hT, sT_t9 hT, sT_t10 hT, sT_a1 hT, sT_a2 hT, sT_a3 hT, sT_a4 hT, sT_b1 hT, sT_b2 hT, sT_b3 hT, sT_b4 hT, sT_d1 hT, sT_d2 hT, sT_d3 hT, sT_e1 hT, sT_e2 hT, sT_e3 hT, sT_e4 hT, sT_e5 hT, C_wt, C_wf, C_r1 hT, C_r2 hT, C_r3 hT, C_r4 hT, C_r5 hT, C_an hT]
      rfl
  · rw [if_neg (by omega)]
    refine ⟨m, ?_, hC, fun b _ _ => Cself⟩
    unfold E_X8_text
    simp (disch := omega) only [zi_f, zi_0, zi_1, zi_31, zi_all, zi_8, zi_16, zi_add, zi_sub, zi_mul, zi_neg, zi_lt, zi_le, zi_eq, zi_div, zi_t, zi_n, xb_I, xb_J, xb_V, xb_s, if_pos, if_neg, if_true, if_false, true_and, and_true, true_or, or_true, false_or, or_false, not_true, not_false_iff, zb_z, zb_o, zb_ft, tn_0, tn_1, tn_2, tn_3, tn_c, Int.reduceToNat, te_0, te_1, tk_0, tk_1, tk_m, ts_1, or_0, bp_f, sT_t0 hT, sT_t1 hT, sT_t2 hT, sT_t3 hT, sT_t4 hT, sT_t5 hT, sT_t6 hT, sT_t7 hT, sT_t8 hT, sT_t9 hT, sT_t10 hT, sT_a1 hT, sT_a2 hT, sT_a3 hT, sT_a4 hT, sT_b1 hT, sT_b2 hT, sT_b3 hT, sT_b4 hT, sT_d1 hT, sT_d2 hT, sT_d3 hT, sT_e1 hT, sT_e2 hT, sT_e3 hT, sT_e4 hT, sT_e5 hT, C_wt, C_wf, C_r1 hT, C_r2 hT, C_r3 hT, C_r4 hT, C_r5 hT, C_an hT]
    rfl
theorem m_text (hS : Sh S) (r : Int) (r1 : -2147483648 ≤ r) (r2 : r < 2147483648) (n : Int) (n1 : -2147483648 ≤ n) (n2 : n < 2147483648)  : Mim S (fun m => E_X9_text S 15 (zi r) (zi n) m) (sp_text r n) := by
  rintro ⟨t, rr, k, f⟩ m hO hC
  have hX := hS.2.2.1
  have hO1 : OT t := hO.1
  have hC1 : MS m t := hC.1
  unfold sp_text
  dsimp only
  by_cases h1 : 0 ≤ r ∧ r ≤ 3
  · obtain ⟨s, rfl⟩ : ∃ s : Nat, r = s := ⟨r.toNat, by omega⟩
    rw [Int.toNat_natCast]
    by_cases h2 : n ≤ 60
    · rw [if_pos ⟨h1, h2⟩]
      by_cases h3 : 0 ≤ n
      · rw [if_pos h3]
        refine ⟨txM m s n, ?_, MM_tx hC (by omega) n, fun b hb => ⟨by rw [txM, wr_o (by omega), wI_o (by omega)], by rw [txM, wr_l]; rfl⟩⟩
        unfold E_X9_text
        simp (disch := omega) only [zi_f, zi_0, zi_1, zi_31, zi_all, zi_8, zi_16, zi_add, zi_sub, zi_mul, zi_neg, zi_lt, zi_le, zi_eq, zi_div, zi_t, zi_n, xb_I, xb_J, xb_V, xb_s, if_pos, if_neg, if_true, if_false, true_and, and_true, true_or, or_true, false_or, or_false, not_true, not_false_iff, zb_z, zb_o, zb_ft, tn_0, tn_1, tn_2, tn_3, tn_c, Int.reduceToNat, te_0, te_1, tk_0, tk_1, tk_m, ts_1, or_0, bp_f, sX_x0 hX, sX_xr0 hX, sX_xr1 hX, sX_xr2 hX, sX_xr3 hX, sX_xr4 hX, sX_xr5 hX, sX_xr6 hX, sX_xr7 hX, sX_xr8 hX, sX_xr9 hX, sX_xr10 hX, sX_xr11 hX, sX_xr12 hX, sX_xr13 hX, sX_xk0 hX, sX_xk1 hX, sX_xk2 hX, sX_xk3 hX, sX_xk4 hX, sX_xk5 hX, sX_xk6 hX, sX_xk7 hX, sX_xk8 hX, sX_xk9 hX, sX_xk10 hX, sX_xk11 hX, sX_xk12 hX, sX_xk13 hX, sX_xl0 hX, sX_xl1 hX, sX_xl2 hX, sX_xl3 hX, sX_xl4 hX, sX_xl5 hX, sX_xl6 hX, sX_xl7 hX, sX_xl8 hX, sX_xl9 hX, sX_xl10 hX, sX_xl11 hX, sX_xl12 hX, sX_xl13 hX, M_tt]
        refine lp_all (fun q j => G_X9_text_34 S q 15 (zi s) (zi n) (zi j) (wrM (xi_wI m 18 s (zi n)) 19 (60 * s) (fun _ => zi 32) j)) 60 10000 (fun j q hj => ?_) (fun q => ?_) (by omega)
        · have e1 : (60 * (s : Int) + (j : Int)).toNat = 60 * s + j := by omega
          simp only [G_X9_text_34]
          simp (disch := omega) only [zi_f, zi_0, zi_1, zi_31, zi_all, zi_8, zi_16, zi_add, zi_sub, zi_mul, zi_neg, zi_lt, zi_le, zi_eq, zi_div, zi_t, zi_n, xb_I, xb_J, xb_V, xb_s, if_pos, if_neg, if_true, if_false, true_and, and_true, true_or, or_true, false_or, or_false, not_true, not_false_iff, zb_z, zb_o, zb_ft, tn_0, tn_1, tn_2, tn_3, tn_c, Int.reduceToNat, te_0, te_1, tk_0, tk_1, tk_m, ts_1, or_0, bp_f, sX_x0 hX, sX_xr0 hX, sX_xr1 hX, sX_xr2 hX, sX_xr3 hX, sX_xr4 hX, sX_xr5 hX, sX_xr6 hX, sX_xr7 hX, sX_xr8 hX, sX_xr9 hX, sX_xr10 hX, sX_xr11 hX, sX_xr12 hX, sX_xr13 hX, sX_xk0 hX, sX_xk1 hX, sX_xk2 hX, sX_xk3 hX, sX_xk4 hX, sX_xk5 hX, sX_xk6 hX, sX_xk7 hX, sX_xk8 hX, sX_xk9 hX, sX_xk10 hX, sX_xk11 hX, sX_xk12 hX, sX_xk13 hX, sX_xl0 hX, sX_xl1 hX, sX_xl2 hX, sX_xl3 hX, sX_xl4 hX, sX_xl5 hX, sX_xl6 hX, sX_xl7 hX, sX_xl8 hX, sX_xl9 hX, sX_xl10 hX, sX_xl11 hX, sX_xl12 hX, sX_xl13 hX, wr_s, e1]
        · simp only [G_X9_text_34]
          simp (disch := omega) only [zi_f, zi_0, zi_1, zi_31, zi_all, zi_8, zi_16, zi_add, zi_sub, zi_mul, zi_neg, zi_lt, zi_le, zi_eq, zi_div, zi_t, zi_n, xb_I, xb_J, xb_V, xb_s, if_pos, if_neg, if_true, if_false, true_and, and_true, true_or, or_true, false_or, or_false, not_true, not_false_iff, zb_z, zb_o, zb_ft, tn_0, tn_1, tn_2, tn_3, tn_c, Int.reduceToNat, te_0, te_1, tk_0, tk_1, tk_m, ts_1, or_0, bp_f, sX_x0 hX, sX_xr0 hX, sX_xr1 hX, sX_xr2 hX, sX_xr3 hX, sX_xr4 hX, sX_xr5 hX, sX_xr6 hX, sX_xr7 hX, sX_xr8 hX, sX_xr9 hX, sX_xr10 hX, sX_xr11 hX, sX_xr12 hX, sX_xr13 hX, sX_xk0 hX, sX_xk1 hX, sX_xk2 hX, sX_xk3 hX, sX_xk4 hX, sX_xk5 hX, sX_xk6 hX, sX_xk7 hX, sX_xk8 hX, sX_xk9 hX, sX_xk10 hX, sX_xk11 hX, sX_xk12 hX, sX_xk13 hX, sX_xl0 hX, sX_xl1 hX, sX_xl2 hX, sX_xl3 hX, sX_xl4 hX, sX_xl5 hX, sX_xl6 hX, sX_xl7 hX, sX_xl8 hX, sX_xl9 hX, sX_xl10 hX, sX_xl11 hX, sX_xl12 hX, sX_xl13 hX]
          rfl
      · rw [if_neg h3]
        refine ⟨rfM m 5, ?_, MM_rf hC, fun b hb => ⟨rfM_o (by omega) (by omega), rfl⟩⟩
        unfold E_X9_text
        simp (disch := omega) only [zi_f, zi_0, zi_1, zi_31, zi_all, zi_8, zi_16, zi_add, zi_sub, zi_mul, zi_neg, zi_lt, zi_le, zi_eq, zi_div, zi_t, zi_n, xb_I, xb_J, xb_V, xb_s, if_pos, if_neg, if_true, if_false, true_and, and_true, true_or, or_true, false_or, or_false, not_true, not_false_iff, zb_z, zb_o, zb_ft, tn_0, tn_1, tn_2, tn_3, tn_c, Int.reduceToNat, te_0, te_1, tk_0, tk_1, tk_m, ts_1, or_0, bp_f, sX_x0 hX, sX_xr0 hX, sX_xr1 hX, sX_xr2 hX, sX_xr3 hX, sX_xr4 hX, sX_xr5 hX, sX_xr6 hX, sX_xr7 hX, sX_xr8 hX, sX_xr9 hX, sX_xr10 hX, sX_xr11 hX, sX_xr12 hX, sX_xr13 hX, sX_xk0 hX, sX_xk1 hX, sX_xk2 hX, sX_xk3 hX, sX_xk4 hX, sX_xk5 hX, sX_xk6 hX, sX_xk7 hX, sX_xk8 hX, sX_xk9 hX, sX_xk10 hX, sX_xk11 hX, sX_xk12 hX, sX_xk13 hX, sX_xl0 hX, sX_xl1 hX, sX_xl2 hX, sX_xl3 hX, sX_xl4 hX, sX_xl5 hX, sX_xl6 hX, sX_xl7 hX, sX_xl8 hX, sX_xl9 hX, sX_xl10 hX, sX_xl11 hX, sX_xl12 hX, sX_xl13 hX, M_it, M_if, M_rt, M_rf, M_tt, M_tf, M_r1 hX, M_r2 hX, M_r3 hX, M_r4 hX, M_r5 hX, M_an hX]
        rfl
    · rw [if_neg (by omega)]
      refine ⟨m, ?_, hC, fun b _ => Cself⟩
      unfold E_X9_text
      simp (disch := omega) only [zi_f, zi_0, zi_1, zi_31, zi_all, zi_8, zi_16, zi_add, zi_sub, zi_mul, zi_neg, zi_lt, zi_le, zi_eq, zi_div, zi_t, zi_n, xb_I, xb_J, xb_V, xb_s, if_pos, if_neg, if_true, if_false, true_and, and_true, true_or, or_true, false_or, or_false, not_true, not_false_iff, zb_z, zb_o, zb_ft, tn_0, tn_1, tn_2, tn_3, tn_c, Int.reduceToNat, te_0, te_1, tk_0, tk_1, tk_m, ts_1, or_0, bp_f, sX_x0 hX, sX_xr0 hX, sX_xr1 hX, sX_xr2 hX, sX_xr3 hX, sX_xr4 hX, sX_xr5 hX, sX_xr6 hX, sX_xr7 hX, sX_xr8 hX, sX_xr9 hX, sX_xr10 hX, sX_xr11 hX, sX_xr12 hX, sX_xr13 hX, sX_xk0 hX, sX_xk1 hX, sX_xk2 hX, sX_xk3 hX, sX_xk4 hX, sX_xk5 hX, sX_xk6 hX, sX_xk7 hX, sX_xk8 hX, sX_xk9 hX, sX_xk10 hX, sX_xk11 hX, sX_xk12 hX, sX_xk13 hX, sX_xl0 hX, sX_xl1 hX, sX_xl2 hX, sX_xl3 hX, sX_xl4 hX, sX_xl5 hX, sX_xl6 hX, sX_xl7 hX, sX_xl8 hX, sX_xl9 hX, sX_xl10 hX, sX_xl11 hX, sX_xl12 hX, sX_xl13 hX, M_it, M_if, M_rt, M_rf, M_tt, M_tf, M_r1 hX, M_r2 hX, M_r3 hX, M_r4 hX, M_r5 hX, M_an hX]
      rfl
  · rw [if_neg (by omega)]
    refine ⟨m, ?_, hC, fun b _ => Cself⟩
    unfold E_X9_text
    simp (disch := omega) only [zi_f, zi_0, zi_1, zi_31, zi_all, zi_8, zi_16, zi_add, zi_sub, zi_mul, zi_neg, zi_lt, zi_le, zi_eq, zi_div, zi_t, zi_n, xb_I, xb_J, xb_V, xb_s, if_pos, if_neg, if_true, if_false, true_and, and_true, true_or, or_true, false_or, or_false, not_true, not_false_iff, zb_z, zb_o, zb_ft, tn_0, tn_1, tn_2, tn_3, tn_c, Int.reduceToNat, te_0, te_1, tk_0, tk_1, tk_m, ts_1, or_0, bp_f, sX_x0 hX, sX_xr0 hX, sX_xr1 hX, sX_xr2 hX, sX_xr3 hX, sX_xr4 hX, sX_xr5 hX, sX_xr6 hX, sX_xr7 hX, sX_xr8 hX, sX_xr9 hX, sX_xr10 hX, sX_xr11 hX, sX_xr12 hX, sX_xr13 hX, sX_xk0 hX, sX_xk1 hX, sX_xk2 hX, sX_xk3 hX, sX_xk4 hX, sX_xk5 hX, sX_xk6 hX, sX_xk7 hX, sX_xk8 hX, sX_xk9 hX, sX_xk10 hX, sX_xk11 hX, sX_xk12 hX, sX_xk13 hX, sX_xl0 hX, sX_xl1 hX, sX_xl2 hX, sX_xl3 hX, sX_xl4 hX, sX_xl5 hX, sX_xl6 hX, sX_xl7 hX, sX_xl8 hX, sX_xl9 hX, sX_xl10 hX, sX_xl11 hX, sX_xl12 hX, sX_xl13 hX, M_it, M_if, M_rt, M_rf, M_tt, M_tf, M_r1 hX, M_r2 hX, M_r3 hX, M_r4 hX, M_r5 hX, M_an hX]
    rfl
theorem o_text (r n : Int) : ∀ q, OK q → OK (sp_text r n q).2 := by
  intro q h
  unfold sp_text
  repeat' split
  · exact ⟨OT_bg h.1 (by omega) (by omega) (by unfold lenS; rw [if_neg (by omega)]; omega) (by omega), h.2⟩
  · exact h
  · exact h
def smL (f : Nat → Int32) : Nat → Int64 := fo (fun k a => a + (f k).toInt64) (zj 0)
theorem C_sum (hT : ShT S) {m : xi_M} {t : TT} (hC : CS m t) {s z : Nat} (hs : s < 6) (hz : t.1 s = z) (hz2 : z ≤ 40) : E_X7_sum S (30 + s) m = some (some (.long (smL (t.2 s) z)), m) := by
  have u := CS_yes hC (s := s) (by omega) (by omega)
  have ui := CS_it hC hs
  rw [hz] at u
  unfold E_X7_sum
  rw [zj_n0]
  refine lp_all (fun q j => G_X7_sum_4 S q (30 + s) (smL (t.2 s) j) (zi j) m) z 10000 (fun j q hj => ?_) (fun q => ?_) (by omega)
  · simp only [G_X7_sum_4]
    simp (disch := omega) only [zi_f, zi_0, zi_1, zi_31, zi_all, zi_8, zi_16, zi_add, zi_sub, zi_mul, zi_neg, zi_lt, zi_le, zi_eq, zi_div, zi_t, zi_n, xb_I, xb_J, xb_V, xb_s, if_pos, if_neg, if_true, if_false, true_and, and_true, true_or, or_true, false_or, or_false, not_true, not_false_iff, zb_z, zb_o, zb_ft, tn_0, tn_1, tn_2, tn_3, tn_c, Int.reduceToNat, te_0, te_1, tk_0, tk_1, tk_m, ts_1, or_0, bp_f, sT_t0 hT, sT_t1 hT, sT_t2 hT, sT_t3 hT, sT_t4 hT, sT_t5 hT, sT_t6 hT, sT_t7 hT, sT_t8 hT, sT_t9 hT, sT_t10 hT, sT_a1 hT, sT_a2 hT, sT_a3 hT, sT_a4 hT, sT_b1 hT, sT_b2 hT, sT_b3 hT, sT_b4 hT, sT_d1 hT, sT_d2 hT, sT_d3 hT, sT_e1 hT, sT_e2 hT, sT_e3 hT, sT_e4 hT, sT_e5 hT, u.2, ui]
    rfl
  · simp only [G_X7_sum_4]
    simp (disch := omega) only [zi_f, zi_0, zi_1, zi_31, zi_all, zi_8, zi_16, zi_add, zi_sub, zi_mul, zi_neg, zi_lt, zi_le, zi_eq, zi_div, zi_t, zi_n, xb_I, xb_J, xb_V, xb_s, if_pos, if_neg, if_true, if_false, true_and, and_true, true_or, or_true, false_or, or_false, not_true, not_false_iff, zb_z, zb_o, zb_ft, tn_0, tn_1, tn_2, tn_3, tn_c, Int.reduceToNat, te_0, te_1, tk_0, tk_1, tk_m, ts_1, or_0, bp_f, sT_t0 hT, sT_t1 hT, sT_t2 hT, sT_t3 hT, sT_t4 hT, sT_t5 hT, sT_t6 hT, sT_t7 hT, sT_t8 hT, sT_t9 hT, sT_t10 hT, sT_a1 hT, sT_a2 hT, sT_a3 hT, sT_a4 hT, sT_b1 hT, sT_b2 hT, sT_b3 hT, sT_b4 hT, sT_d1 hT, sT_d2 hT, sT_d3 hT, sT_e1 hT, sT_e2 hT, sT_e3 hT, sT_e4 hT, sT_e5 hT, u.2]
def sp_mean (r : Int) (q : Sg) : Option Value × Sg := if 0 ≤ r ∧ r ≤ 5 then (if q.1.1 r.toNat = -9 then (vI (-3), rfQ 1 q) else if q.1.1 r.toNat = 0 then (vI (-3), rfQ 4 q) else (vI 1, anQ (smL (q.1.2 r.toNat) (q.1.1 r.toNat).toNat / zj (q.1.1 r.toNat)).toInt32 q)) else (vI (-1), q)
theorem c_mean (hS : Sh S) (r : Int) (r1 : -2147483648 ≤ r) (r2 : r < 2147483648)  : Cim S (fun m => E_X8_mean S 0 (zi r) m) (sp_mean r) := by
  rintro ⟨t, rr, k, f⟩ m hO hC
  have hT := hS.1
  have hO1 : OT t := hO.1
  have hC1 : CS m t := hC.1
  unfold sp_mean
  dsimp only
  by_cases h1 : 0 ≤ r ∧ r ≤ 5
  · rw [if_pos h1]
    obtain ⟨s, rfl⟩ : ∃ s : Nat, r = s := ⟨r.toNat, by omega⟩
    rw [Int.toNat_natCast]
    have hz := OT_r hO1 (s := s) (by omega)
    by_cases hn : t.1 s = -9
    · rw [if_pos hn]
      have u := CS_no hC1 (s := s) (by omega) hn
      refine ⟨rfC m 1, ?_, CC_rf hC, fun b _ _ => ⟨rfC_o (by omega) (by omega), rfl⟩⟩
      unfold E_X8_mean
      simp (disch := omega) only [zi_f, zi_0, zi_1, zi_31, zi_all, zi_8, zi_16, zi_add, zi_sub, zi_mul, zi_neg, zi_lt, zi_le, zi_eq, zi_div, zi_t, zi_n, xb_I, xb_J, xb_V, xb_s, if_pos, if_neg, if_true, if_false, true_and, and_true, true_or, or_true, false_or, or_false, not_true, not_false_iff, zb_z, zb_o, zb_ft, tn_0, tn_1, tn_2, tn_3, tn_c, Int.reduceToNat, te_0, te_1, tk_0, tk_1, tk_m, ts_1, or_0, bp_f, sT_t0 hT, sT_t1 hT, sT_t2 hT, sT_t3 hT, sT_t4 hT, sT_t5 hT, sT_t6 hT, sT_t7 hT, sT_t8 hT, sT_t9 hT, sT_t10 hT, sT_a1 hT, sT_a2 hT, sT_a3 hT, sT_a4 hT, sT_b1 hT, sT_b2 hT, sT_b3 hT, sT_b4 hT, sT_d1 hT, sT_d2 hT, sT_d3 hT, sT_e1 hT, sT_e2 hT, sT_e3 hT, sT_e4 hT, sT_e5 hT, C_wt, C_wf, C_r1 hT, C_r2 hT, C_r3 hT, C_r4 hT, C_r5 hT, C_an hT, u]
      rfl
    · rw [if_neg hn]
      have u := CS_yes hC1 (s := s) (by omega) hn
      by_cases hi : t.1 s = 0
      · rw [if_pos hi]
        refine ⟨rfC m 4, ?_, CC_rf hC, fun b _ _ => ⟨rfC_o (by omega) (by omega), rfl⟩⟩
        unfold E_X8_mean
        simp (disch := omega) only [zi_f, zi_0, zi_1, zi_31, zi_all, zi_8, zi_16, zi_add, zi_sub, zi_mul, zi_neg, zi_lt, zi_le, zi_eq, zi_div, zi_t, zi_n, xb_I, xb_J, xb_V, xb_s, if_pos, if_neg, if_true, if_false, true_and, and_true, true_or, or_true, false_or, or_false, not_true, not_false_iff, zb_z, zb_o, zb_ft, tn_0, tn_1, tn_2, tn_3, tn_c, Int.reduceToNat, te_0, te_1, tk_0, tk_1, tk_m, ts_1, or_0, bp_f, sT_t0 hT, sT_t1 hT, sT_t2 hT, sT_t3 hT, sT_t4 hT, sT_t5 hT, sT_t6 hT, sT_t7 hT, sT_t8 hT, sT_t9 hT, sT_t10 hT, sT_a1 hT, sT_a2 hT, sT_a3 hT, sT_a4 hT, sT_b1 hT, sT_b2 hT, sT_b3 hT, sT_b4 hT, sT_d1 hT, sT_d2 hT, sT_d3 hT, sT_e1 hT, sT_e2 hT, sT_e3 hT, sT_e4 hT, sT_e5 hT, C_wt, C_wf, C_r1 hT, C_r2 hT, C_r3 hT, C_r4 hT, C_r5 hT, C_an hT, u.1, u.2]
        rfl
      · rw [if_neg hi]
        have hsm := C_sum hT hC1 (s := s) (z := (t.1 s).toNat) (by omega) (by omega) (by omega)
        refine ⟨xi_wI m 0 11 ((smL (t.2 s) (t.1 s).toNat / zj (t.1 s)).toInt32), ?_, CC_an hC, fun b _ _ => ⟨wI_o (by omega), rfl⟩⟩
        unfold E_X8_mean
        simp (disch := omega) only [zi_f, zi_0, zi_1, zi_31, zi_all, zi_8, zi_16, zi_add, zi_sub, zi_mul, zi_neg, zi_lt, zi_le, zi_eq, zi_div, zi_t, zi_n, xb_I, xb_J, xb_V, xb_s, if_pos, if_neg, if_true, if_false, true_and, and_true, true_or, or_true, false_or, or_false, not_true, not_false_iff, zb_z, zb_o, zb_ft, tn_0, tn_1, tn_2, tn_3, tn_c, Int.reduceToNat, te_0, te_1, tk_0, tk_1, tk_m, ts_1, or_0, bp_f, sT_t0 hT, sT_t1 hT, sT_t2 hT, sT_t3 hT, sT_t4 hT, sT_t5 hT, sT_t6 hT, sT_t7 hT, sT_t8 hT, sT_t9 hT, sT_t10 hT, sT_a1 hT, sT_a2 hT, sT_a3 hT, sT_a4 hT, sT_b1 hT, sT_b2 hT, sT_b3 hT, sT_b4 hT, sT_d1 hT, sT_d2 hT, sT_d3 hT, sT_e1 hT, sT_e2 hT, sT_e3 hT, sT_e4 hT, sT_e5 hT, C_wt, C_wf, C_r1 hT, C_r2 hT, C_r3 hT, C_r4 hT, C_r5 hT, C_an hT, u.1, u.2, hsm, zi_l, zj_0, zj_eq]
        rfl
  · rw [if_neg h1]
    refine ⟨m, ?_, hC, fun b _ _ => Cself⟩
    unfold E_X8_mean
    simp (disch := omega) only [zi_f, zi_0, zi_1, zi_31, zi_all, zi_8, zi_16, zi_add, zi_sub, zi_mul, zi_neg, zi_lt, zi_le, zi_eq, zi_div, zi_t, zi_n, xb_I, xb_J, xb_V, xb_s, if_pos, if_neg, if_true, if_false, true_and, and_true, true_or, or_true, false_or, or_false, not_true, not_false_iff, zb_z, zb_o, zb_ft, tn_0, tn_1, tn_2, tn_3, tn_c, Int.reduceToNat, te_0, te_1, tk_0, tk_1, tk_m, ts_1, or_0, bp_f, sT_t0 hT, sT_t1 hT, sT_t2 hT, sT_t3 hT, sT_t4 hT, sT_t5 hT, sT_t6 hT, sT_t7 hT, sT_t8 hT, sT_t9 hT, sT_t10 hT, sT_a1 hT, sT_a2 hT, sT_a3 hT, sT_a4 hT, sT_b1 hT, sT_b2 hT, sT_b3 hT, sT_b4 hT, sT_d1 hT, sT_d2 hT, sT_d3 hT, sT_e1 hT, sT_e2 hT, sT_e3 hT, sT_e4 hT, sT_e5 hT, C_wt, C_wf, C_r1 hT, C_r2 hT, C_r3 hT, C_r4 hT, C_r5 hT, C_an hT]
    rfl
theorem m_mean (hS : Sh S) (r : Int) (r1 : -2147483648 ≤ r) (r2 : r < 2147483648)  : Mim S (fun m => E_X9_mean S 15 (zi r) m) (sp_mean r) := by
  rintro ⟨t, rr, k, f⟩ m hO hC
  have hX := hS.2.2.1
  have hO1 : OT t := hO.1
  have hC1 : MS m t := hC.1
  unfold sp_mean
  dsimp only
  by_cases h1 : 0 ≤ r ∧ r ≤ 5
  · rw [if_pos h1]
    obtain ⟨s, rfl⟩ : ∃ s : Nat, r = s := ⟨r.toNat, by omega⟩
    rw [Int.toNat_natCast]
    have hz := OT_r hO1 (s := s) (by omega)
    obtain ⟨u1, u2⟩ := hC1.1 s (by omega)
    by_cases hn : t.1 s = -9
    · rw [if_pos hn]
      refine ⟨rfM m 1, ?_, MM_rf hC, fun b hb => ⟨rfM_o (by omega) (by omega), rfl⟩⟩
      unfold E_X9_mean
      simp (disch := omega) only [zi_f, zi_0, zi_1, zi_31, zi_all, zi_8, zi_16, zi_add, zi_sub, zi_mul, zi_neg, zi_lt, zi_le, zi_eq, zi_div, zi_t, zi_n, xb_I, xb_J, xb_V, xb_s, if_pos, if_neg, if_true, if_false, true_and, and_true, true_or, or_true, false_or, or_false, not_true, not_false_iff, zb_z, zb_o, zb_ft, tn_0, tn_1, tn_2, tn_3, tn_c, Int.reduceToNat, te_0, te_1, tk_0, tk_1, tk_m, ts_1, or_0, bp_f, sX_x0 hX, sX_xr0 hX, sX_xr1 hX, sX_xr2 hX, sX_xr3 hX, sX_xr4 hX, sX_xr5 hX, sX_xr6 hX, sX_xr7 hX, sX_xr8 hX, sX_xr9 hX, sX_xr10 hX, sX_xr11 hX, sX_xr12 hX, sX_xr13 hX, sX_xk0 hX, sX_xk1 hX, sX_xk2 hX, sX_xk3 hX, sX_xk4 hX, sX_xk5 hX, sX_xk6 hX, sX_xk7 hX, sX_xk8 hX, sX_xk9 hX, sX_xk10 hX, sX_xk11 hX, sX_xk12 hX, sX_xk13 hX, sX_xl0 hX, sX_xl1 hX, sX_xl2 hX, sX_xl3 hX, sX_xl4 hX, sX_xl5 hX, sX_xl6 hX, sX_xl7 hX, sX_xl8 hX, sX_xl9 hX, sX_xl10 hX, sX_xl11 hX, sX_xl12 hX, sX_xl13 hX, M_it, M_if, M_rt, M_rf, M_tt, M_tf, M_r1 hX, M_r2 hX, M_r3 hX, M_r4 hX, M_r5 hX, M_an hX, u1]
      rfl
    · rw [if_neg hn]
      by_cases hi : t.1 s = 0
      · rw [if_pos hi]
        refine ⟨rfM m 4, ?_, MM_rf hC, fun b hb => ⟨rfM_o (by omega) (by omega), rfl⟩⟩
        unfold E_X9_mean
        simp (disch := omega) only [zi_f, zi_0, zi_1, zi_31, zi_all, zi_8, zi_16, zi_add, zi_sub, zi_mul, zi_neg, zi_lt, zi_le, zi_eq, zi_div, zi_t, zi_n, xb_I, xb_J, xb_V, xb_s, if_pos, if_neg, if_true, if_false, true_and, and_true, true_or, or_true, false_or, or_false, not_true, not_false_iff, zb_z, zb_o, zb_ft, tn_0, tn_1, tn_2, tn_3, tn_c, Int.reduceToNat, te_0, te_1, tk_0, tk_1, tk_m, ts_1, or_0, bp_f, sX_x0 hX, sX_xr0 hX, sX_xr1 hX, sX_xr2 hX, sX_xr3 hX, sX_xr4 hX, sX_xr5 hX, sX_xr6 hX, sX_xr7 hX, sX_xr8 hX, sX_xr9 hX, sX_xr10 hX, sX_xr11 hX, sX_xr12 hX, sX_xr13 hX, sX_xk0 hX, sX_xk1 hX, sX_xk2 hX, sX_xk3 hX, sX_xk4 hX, sX_xk5 hX, sX_xk6 hX, sX_xk7 hX, sX_xk8 hX, sX_xk9 hX, sX_xk10 hX, sX_xk11 hX, sX_xk12 hX, sX_xk13 hX, sX_xl0 hX, sX_xl1 hX, sX_xl2 hX, sX_xl3 hX, sX_xl4 hX, sX_xl5 hX, sX_xl6 hX, sX_xl7 hX, sX_xl8 hX, sX_xl9 hX, sX_xl10 hX, sX_xl11 hX, sX_xl12 hX, sX_xl13 hX, M_it, M_if, M_rt, M_rf, M_tt, M_tf, M_r1 hX, M_r2 hX, M_r3 hX, M_r4 hX, M_r5 hX, M_an hX, u1]
        rfl
      · rw [if_neg hi]
        refine ⟨xi_wI m 15 15 ((smL (t.2 s) (t.1 s).toNat / zj (t.1 s)).toInt32), ?_, MM_an hC, fun b hb => ⟨wI_o (by omega), rfl⟩⟩
        unfold E_X9_mean
        simp (disch := omega) only [zi_f, zi_0, zi_1, zi_31, zi_all, zi_8, zi_16, zi_add, zi_sub, zi_mul, zi_neg, zi_lt, zi_le, zi_eq, zi_div, zi_t, zi_n, xb_I, xb_J, xb_V, xb_s, if_pos, if_neg, if_true, if_false, true_and, and_true, true_or, or_true, false_or, or_false, not_true, not_false_iff, zb_z, zb_o, zb_ft, tn_0, tn_1, tn_2, tn_3, tn_c, Int.reduceToNat, te_0, te_1, tk_0, tk_1, tk_m, ts_1, or_0, bp_f, sX_x0 hX, sX_xr0 hX, sX_xr1 hX, sX_xr2 hX, sX_xr3 hX, sX_xr4 hX, sX_xr5 hX, sX_xr6 hX, sX_xr7 hX, sX_xr8 hX, sX_xr9 hX, sX_xr10 hX, sX_xr11 hX, sX_xr12 hX, sX_xr13 hX, sX_xk0 hX, sX_xk1 hX, sX_xk2 hX, sX_xk3 hX, sX_xk4 hX, sX_xk5 hX, sX_xk6 hX, sX_xk7 hX, sX_xk8 hX, sX_xk9 hX, sX_xk10 hX, sX_xk11 hX, sX_xk12 hX, sX_xk13 hX, sX_xl0 hX, sX_xl1 hX, sX_xl2 hX, sX_xl3 hX, sX_xl4 hX, sX_xl5 hX, sX_xl6 hX, sX_xl7 hX, sX_xl8 hX, sX_xl9 hX, sX_xl10 hX, sX_xl11 hX, sX_xl12 hX, sX_xl13 hX, M_rt, u1, zj_n0]
        refine lp_all (fun q j => G_X9_mean_46 S q 15 (zi s) (smL (t.2 s) j) (zi j) m) (t.1 s).toNat 10000 (fun j q hj => ?_) (fun q => ?_) (by omega)
        · have e1 : (40 * (s : Int) + (j : Int)).toNat = 40 * s + j := by omega
          have e2 := u2 j (by omega)
          simp only [G_X9_mean_46]
          simp (disch := omega) only [zi_f, zi_0, zi_1, zi_31, zi_all, zi_8, zi_16, zi_add, zi_sub, zi_mul, zi_neg, zi_lt, zi_le, zi_eq, zi_div, zi_t, zi_n, xb_I, xb_J, xb_V, xb_s, if_pos, if_neg, if_true, if_false, true_and, and_true, true_or, or_true, false_or, or_false, not_true, not_false_iff, zb_z, zb_o, zb_ft, tn_0, tn_1, tn_2, tn_3, tn_c, Int.reduceToNat, te_0, te_1, tk_0, tk_1, tk_m, ts_1, or_0, bp_f, sX_x0 hX, sX_xr0 hX, sX_xr1 hX, sX_xr2 hX, sX_xr3 hX, sX_xr4 hX, sX_xr5 hX, sX_xr6 hX, sX_xr7 hX, sX_xr8 hX, sX_xr9 hX, sX_xr10 hX, sX_xr11 hX, sX_xr12 hX, sX_xr13 hX, sX_xk0 hX, sX_xk1 hX, sX_xk2 hX, sX_xk3 hX, sX_xk4 hX, sX_xk5 hX, sX_xk6 hX, sX_xk7 hX, sX_xk8 hX, sX_xk9 hX, sX_xk10 hX, sX_xk11 hX, sX_xk12 hX, sX_xk13 hX, sX_xl0 hX, sX_xl1 hX, sX_xl2 hX, sX_xl3 hX, sX_xl4 hX, sX_xl5 hX, sX_xl6 hX, sX_xl7 hX, sX_xl8 hX, sX_xl9 hX, sX_xl10 hX, sX_xl11 hX, sX_xl12 hX, sX_xl13 hX, u1, e1, e2]
          rfl
        · simp only [G_X9_mean_46]
          simp (disch := omega) only [zi_f, zi_0, zi_1, zi_31, zi_all, zi_8, zi_16, zi_add, zi_sub, zi_mul, zi_neg, zi_lt, zi_le, zi_eq, zi_div, zi_t, zi_n, xb_I, xb_J, xb_V, xb_s, if_pos, if_neg, if_true, if_false, true_and, and_true, true_or, or_true, false_or, or_false, not_true, not_false_iff, zb_z, zb_o, zb_ft, tn_0, tn_1, tn_2, tn_3, tn_c, Int.reduceToNat, te_0, te_1, tk_0, tk_1, tk_m, ts_1, or_0, bp_f, sX_x0 hX, sX_xr0 hX, sX_xr1 hX, sX_xr2 hX, sX_xr3 hX, sX_xr4 hX, sX_xr5 hX, sX_xr6 hX, sX_xr7 hX, sX_xr8 hX, sX_xr9 hX, sX_xr10 hX, sX_xr11 hX, sX_xr12 hX, sX_xr13 hX, sX_xk0 hX, sX_xk1 hX, sX_xk2 hX, sX_xk3 hX, sX_xk4 hX, sX_xk5 hX, sX_xk6 hX, sX_xk7 hX, sX_xk8 hX, sX_xk9 hX, sX_xk10 hX, sX_xk11 hX, sX_xk12 hX, sX_xk13 hX, sX_xl0 hX, sX_xl1 hX, sX_xl2 hX, sX_xl3 hX, sX_xl4 hX, sX_xl5 hX, sX_xl6 hX, sX_xl7 hX, sX_xl8 hX, sX_xl9 hX, sX_xl10 hX, sX_xl11 hX, sX_xl12 hX, sX_xl13 hX, u1, zi_l, zj_0, zj_eq, M_r1 hX, M_r2 hX, M_r3 hX, M_r4 hX, M_r5 hX, M_an hX]
          rfl
  · rw [if_neg h1]
    refine ⟨m, ?_, hC, fun b _ => Cself⟩
    unfold E_X9_mean
    simp (disch := omega) only [zi_f, zi_0, zi_1, zi_31, zi_all, zi_8, zi_16, zi_add, zi_sub, zi_mul, zi_neg, zi_lt, zi_le, zi_eq, zi_div, zi_t, zi_n, xb_I, xb_J, xb_V, xb_s, if_pos, if_neg, if_true, if_false, true_and, and_true, true_or, or_true, false_or, or_false, not_true, not_false_iff, zb_z, zb_o, zb_ft, tn_0, tn_1, tn_2, tn_3, tn_c, Int.reduceToNat, te_0, te_1, tk_0, tk_1, tk_m, ts_1, or_0, bp_f, sX_x0 hX, sX_xr0 hX, sX_xr1 hX, sX_xr2 hX, sX_xr3 hX, sX_xr4 hX, sX_xr5 hX, sX_xr6 hX, sX_xr7 hX, sX_xr8 hX, sX_xr9 hX, sX_xr10 hX, sX_xr11 hX, sX_xr12 hX, sX_xr13 hX, sX_xk0 hX, sX_xk1 hX, sX_xk2 hX, sX_xk3 hX, sX_xk4 hX, sX_xk5 hX, sX_xk6 hX, sX_xk7 hX, sX_xk8 hX, sX_xk9 hX, sX_xk10 hX, sX_xk11 hX, sX_xk12 hX, sX_xk13 hX, sX_xl0 hX, sX_xl1 hX, sX_xl2 hX, sX_xl3 hX, sX_xl4 hX, sX_xl5 hX, sX_xl6 hX, sX_xl7 hX, sX_xl8 hX, sX_xl9 hX, sX_xl10 hX, sX_xl11 hX, sX_xl12 hX, sX_xl13 hX, M_it, M_if, M_rt, M_rf, M_tt, M_tf, M_r1 hX, M_r2 hX, M_r3 hX, M_r4 hX, M_r5 hX, M_an hX]
    rfl
theorem o_mean (r : Int) : ∀ q, OK q → OK (sp_mean r q).2 := by
  intro q h
  unfold sp_mean
  repeat' split
  all_goals exact h
end
