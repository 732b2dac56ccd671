/-! fault, republic: the reference -/
section
variable {S : xi_S} {m : xi_M} {c w : Nat → Int} {u z : Nat}
theorem lt_f {z : Nat} {c : Nat → Int} {ch : Int} {s : Int × Nat} (h : (leS z c ch s).1 = -9) : s.1 = -9 := by
  by_cases e : s.1 = -9
  · exact e
  · unfold leS at h; rw [if_neg e] at h; exact h
set_option maxHeartbeats 4000000 in
theorem M_59 (hX : ShX S) (hu : u < 4) {m0 : xi_M} (hT : Tm m0 u z c) (hR : RP m0 (rcS z c).1 100) (hW : (rcS z c).1.1 = -9 → Row S m0 22 (rcS z c).2) : ∀ k, k ≤ 4 → ∃ mk, G_X9_reads_59 S 10000 15 (zi (u : Nat)) (zi 0) m0 = G_X9_reads_59 S (10000 - k) 15 (zi (u : Nat)) (zi (k : Nat)) mk ∧ RP mk (fo (coS z c) (rcS z c) k).1 (100 + 5 * k) ∧ ((fo (coS z c) (rcS z c) k).1.1 = -9 → Row S mk 22 (fo (coS z c) (rcS z c) k).2) ∧ FM m0 mk := by
  intro k
  induction k with
  | zero => exact fun _ => ⟨m0, rfl, hR, hW, FM_r m0⟩
  | succ k ih =>
    intro hk
    obtain ⟨mk, y1, y2, y3, y4⟩ := ih (by omega)
    have hP := PB_rdC z c k
    have hco := co_w z c k (by omega)
    rw [fo_s]
    generalize fo (coS z c) (rcS z c) k = q at *
    obtain ⟨ma, a1, a2, a3, a4⟩ := M_blanks hX hu (Tm_f hT y4) (by omega) y2 hP
    have Pa := PB_bl (c := c) hP
    have Fa := FM_t y4 a3
    obtain ⟨mb, b1, b2, b3, b4⟩ := M_letterR hX hu (Tm_f hT Fa) (by omega) (by omega) a2 Pa (ch := 99) (by omega)
    have Pb := PB_lt (c := c) (ch := 99) (by omega) Pa
    have Fb := FM_t Fa b3
    have hL : 0 ≤ coL k q.2 ∧ coL k q.2 ≤ 1000 := by
      unfold coL
      by_cases e : k % 2 = 1
      · rw [if_pos e]; have := hco.2.1 (k - 1) (by omega); omega
      · rw [if_neg e]; omega
    obtain ⟨N, hN, hN2⟩ : ∃ N, 10000 - k = N + 1 ∧ 10000 - (k + 1) = N := ⟨10000 - (k + 1), by omega, rfl⟩
    by_cases e : k % 2 = 1
    · obtain ⟨md, d1, d2, d3, d4⟩ := M_placeR hX hu (Tm_f hT Fb) (by omega) (by omega) b2 Pb (lo := coL k q.2) hL (v2 := mb.1 22 (6 + (k - 1)) + zi 1) (fun h => by
        have h9 : (blS z c q.1).1 = -9 := lt_f h
        rw [b4, a4, (y3 h9).2.2 (6 + (k - 1)) (by omega), zi_add]
        unfold coL
        rw [if_pos e])
      have hm2 : (k : Int) % 2 = 1 := by omega
      refine ⟨xi_wI md 22 (6 + k) (zi (twV z c (leS z c 99 (blS z c q.1)))), ?_, ?_, fun h => Row_up (Row_fr (y3 ?_) (by rw [d4, b4, a4])), FM_t (FM_t Fb d3) (FM_22 _ _ _)⟩
      · rw [y1, hN, hN2, show ((k + 1 : Nat) : Int) = (k : Int) + 1 by omega]
        clear y1 y2 y3 y4 a2 a3 a4 b2 b3 b4 d2 d3 d4 Fa Fb hT hR hW hco hN hN2 ih hP Pa Pb hL
        generalize twV z c (leS z c 99 (blS z c q.1)) = v at *
        simp only [G_X9_reads_59]
        repeat (first | (with_reducible refine (if_pos ?_).trans ?_; focus (simp (disch := omega) only [zi_f, zi_0, zi_1, zi_31, zi_all, zi_8, zi_16, zi_add, zi_sub, zi_mul, zi_neg, zi_lt, zi_le, zi_eq, zi_div, zi_t, zi_n, xb_I, xb_J, xb_V, xb_s, if_pos, if_neg, if_true, if_false, true_and, and_true, true_or, or_true, false_or, or_false, not_true, not_false_iff, zb_z, zb_o, zb_ft, tn_0, tn_1, tn_2, tn_3, tn_c, Int.reduceToNat, te_0, te_1, tk_0, tk_1, tk_m, ts_1, or_0, bp_f, sX_x0 hX, sX_xr2 hX, sX_xr3 hX, sX_xr6 hX, sX_xk2 hX, sX_xl2 hX, sX_xk3 hX, sX_xl3 hX, sX_xk6 hX, sX_xl6 hX, zi_t, ed_m, hm2, a1, b1, d1] <;> omega)) | (with_reducible refine (if_neg ?_).trans ?_; focus (simp (disch := omega) only [zi_f, zi_0, zi_1, zi_31, zi_all, zi_8, zi_16, zi_add, zi_sub, zi_mul, zi_neg, zi_lt, zi_le, zi_eq, zi_div, zi_t, zi_n, xb_I, xb_J, xb_V, xb_s, if_pos, if_neg, if_true, if_false, true_and, and_true, true_or, or_true, false_or, or_false, not_true, not_false_iff, zb_z, zb_o, zb_ft, tn_0, tn_1, tn_2, tn_3, tn_c, Int.reduceToNat, te_0, te_1, tk_0, tk_1, tk_m, ts_1, or_0, bp_f, sX_x0 hX, sX_xr2 hX, sX_xr3 hX, sX_xr6 hX, sX_xk2 hX, sX_xl2 hX, sX_xk3 hX, sX_xl3 hX, sX_xk6 hX, sX_xl6 hX, zi_t, ed_m, hm2, a1, b1, d1] <;> omega)) | ((conv => lhs; arg 1; simp (disch := omega) only [zi_f, zi_0, zi_1, zi_31, zi_all, zi_8, zi_16, zi_add, zi_sub, zi_mul, zi_neg, zi_lt, zi_le, zi_eq, zi_div, zi_t, zi_n, xb_I, xb_J, xb_V, xb_s, if_pos, if_neg, if_true, if_false, true_and, and_true, true_or, or_true, false_or, or_false, not_true, not_false_iff, zb_z, zb_o, zb_ft, tn_0, tn_1, tn_2, tn_3, tn_c, Int.reduceToNat, te_0, te_1, tk_0, tk_1, tk_m, ts_1, or_0, bp_f, sX_x0 hX, sX_xr2 hX, sX_xr3 hX, sX_xr6 hX, sX_xk2 hX, sX_xl2 hX, sX_xk3 hX, sX_xl3 hX, sX_xk6 hX, sX_xl6 hX, zi_t, ed_m, hm2, a1, b1, d1]); first | with_reducible refine xb_I.trans ?_ | with_reducible refine xb_V.trans ?_ | with_reducible refine xb_J.trans ?_ | with_reducible refine xb_s.trans ?_))
        first | (simp (disch := omega) only [zi_f, zi_0, zi_1, zi_31, zi_all, zi_8, zi_16, zi_add, zi_sub, zi_mul, zi_neg, zi_lt, zi_le, zi_eq, zi_div, zi_t, zi_n, xb_I, xb_J, xb_V, xb_s, if_pos, if_neg, if_true, if_false, true_and, and_true, true_or, or_true, false_or, or_false, not_true, not_false_iff, zb_z, zb_o, zb_ft, tn_0, tn_1, tn_2, tn_3, tn_c, Int.reduceToNat, te_0, te_1, tk_0, tk_1, tk_m, ts_1, or_0, bp_f, vI, sX_x0 hX, sX_xr2 hX, sX_xr3 hX, sX_xr6 hX, sX_xk2 hX, sX_xl2 hX, sX_xk3 hX, sX_xl3 hX, sX_xk6 hX, sX_xl6 hX, zi_t, ed_m, hm2, a1, b1, d1]; done) | rfl | (simp (disch := omega) only [zi_f, zi_0, zi_1, zi_31, zi_all, zi_8, zi_16, zi_add, zi_sub, zi_mul, zi_neg, zi_lt, zi_le, zi_eq, zi_div, zi_t, zi_n, xb_I, xb_J, xb_V, xb_s, if_pos, if_neg, if_true, if_false, true_and, and_true, true_or, or_true, false_or, or_false, not_true, not_false_iff, zb_z, zb_o, zb_ft, tn_0, tn_1, tn_2, tn_3, tn_c, Int.reduceToNat, te_0, te_1, tk_0, tk_1, tk_m, ts_1, or_0, bp_f, vI, sX_x0 hX, sX_xr2 hX, sX_xr3 hX, sX_xr6 hX, sX_xk2 hX, sX_xl2 hX, sX_xk3 hX, sX_xl3 hX, sX_xk6 hX, sX_xl6 hX, zi_t, ed_m, hm2, a1, b1, d1]; rfl)
      · have o15 : (xi_wI md 22 (6 + k) (zi (twV z c (leS z c 99 (blS z c q.1))))).1 15 = md.1 15 := wI_o (by omega)
        unfold RP
        rw [o15]
        exact RP_B d2 (by omega)
      · exact (show (blS z c q.1).1 = -9 from lt_f ((tw_v z c (coL k q.2) (leS z c 99 (blS z c q.1))).2 h).1)
    · obtain ⟨md, d1, d2, d3, d4⟩ := M_placeR hX hu (Tm_f hT Fb) (by omega) (by omega) b2 Pb (lo := coL k q.2) hL (v2 := zi 0) (fun h => by
        unfold coL
        rw [if_neg e])
      have hm2 : (k : Int) % 2 = 0 := by omega
      refine ⟨xi_wI md 22 (6 + k) (zi (twV z c (leS z c 99 (blS z c q.1)))), ?_, ?_, fun h => Row_up (Row_fr (y3 ?_) (by rw [d4, b4, a4])), FM_t (FM_t Fb d3) (FM_22 _ _ _)⟩
      · rw [y1, hN, hN2, show ((k + 1 : Nat) : Int) = (k : Int) + 1 by omega]
        clear y1 y2 y3 y4 a2 a3 a4 b2 b3 b4 d2 d3 d4 Fa Fb hT hR hW hco hN hN2 ih hP Pa Pb hL
        generalize twV z c (leS z c 99 (blS z c q.1)) = v at *
        simp only [G_X9_reads_59]
        repeat (first | (with_reducible refine (if_pos ?_).trans ?_; focus (simp (disch := omega) only [zi_f, zi_0, zi_1, zi_31, zi_all, zi_8, zi_16, zi_add, zi_sub, zi_mul, zi_neg, zi_lt, zi_le, zi_eq, zi_div, zi_t, zi_n, xb_I, xb_J, xb_V, xb_s, if_pos, if_neg, if_true, if_false, true_and, and_true, true_or, or_true, false_or, or_false, not_true, not_false_iff, zb_z, zb_o, zb_ft, tn_0, tn_1, tn_2, tn_3, tn_c, Int.reduceToNat, te_0, te_1, tk_0, tk_1, tk_m, ts_1, or_0, bp_f, sX_x0 hX, sX_xr2 hX, sX_xr3 hX, sX_xr6 hX, sX_xk2 hX, sX_xl2 hX, sX_xk3 hX, sX_xl3 hX, sX_xk6 hX, sX_xl6 hX, zi_t, ed_m, hm2, a1, b1, d1] <;> omega)) | (with_reducible refine (if_neg ?_).trans ?_; focus (simp (disch := omega) only [zi_f, zi_0, zi_1, zi_31, zi_all, zi_8, zi_16, zi_add, zi_sub, zi_mul, zi_neg, zi_lt, zi_le, zi_eq, zi_div, zi_t, zi_n, xb_I, xb_J, xb_V, xb_s, if_pos, if_neg, if_true, if_false, true_and, and_true, true_or, or_true, false_or, or_false, not_true, not_false_iff, zb_z, zb_o, zb_ft, tn_0, tn_1, tn_2, tn_3, tn_c, Int.reduceToNat, te_0, te_1, tk_0, tk_1, tk_m, ts_1, or_0, bp_f, sX_x0 hX, sX_xr2 hX, sX_xr3 hX, sX_xr6 hX, sX_xk2 hX, sX_xl2 hX, sX_xk3 hX, sX_xl3 hX, sX_xk6 hX, sX_xl6 hX, zi_t, ed_m, hm2, a1, b1, d1] <;> omega)) | ((conv => lhs; arg 1; simp (disch := omega) only [zi_f, zi_0, zi_1, zi_31, zi_all, zi_8, zi_16, zi_add, zi_sub, zi_mul, zi_neg, zi_lt, zi_le, zi_eq, zi_div, zi_t, zi_n, xb_I, xb_J, xb_V, xb_s, if_pos, if_neg, if_true, if_false, true_and, and_true, true_or, or_true, false_or, or_false, not_true, not_false_iff, zb_z, zb_o, zb_ft, tn_0, tn_1, tn_2, tn_3, tn_c, Int.reduceToNat, te_0, te_1, tk_0, tk_1, tk_m, ts_1, or_0, bp_f, sX_x0 hX, sX_xr2 hX, sX_xr3 hX, sX_xr6 hX, sX_xk2 hX, sX_xl2 hX, sX_xk3 hX, sX_xl3 hX, sX_xk6 hX, sX_xl6 hX, zi_t, ed_m, hm2, a1, b1, d1]); first | with_reducible refine xb_I.trans ?_ | with_reducible refine xb_V.trans ?_ | with_reducible refine xb_J.trans ?_ | with_reducible refine xb_s.trans ?_))
        first | (simp (disch := omega) only [zi_f, zi_0, zi_1, zi_31, zi_all, zi_8, zi_16, zi_add, zi_sub, zi_mul, zi_neg, zi_lt, zi_le, zi_eq, zi_div, zi_t, zi_n, xb_I, xb_J, xb_V, xb_s, if_pos, if_neg, if_true, if_false, true_and, and_true, true_or, or_true, false_or, or_false, not_true, not_false_iff, zb_z, zb_o, zb_ft, tn_0, tn_1, tn_2, tn_3, tn_c, Int.reduceToNat, te_0, te_1, tk_0, tk_1, tk_m, ts_1, or_0, bp_f, vI, sX_x0 hX, sX_xr2 hX, sX_xr3 hX, sX_xr6 hX, sX_xk2 hX, sX_xl2 hX, sX_xk3 hX, sX_xl3 hX, sX_xk6 hX, sX_xl6 hX, zi_t, ed_m, hm2, a1, b1, d1]; done) | rfl | (simp (disch := omega) only [zi_f, zi_0, zi_1, zi_31, zi_all, zi_8, zi_16, zi_add, zi_sub, zi_mul, zi_neg, zi_lt, zi_le, zi_eq, zi_div, zi_t, zi_n, xb_I, xb_J, xb_V, xb_s, if_pos, if_neg, if_true, if_false, true_and, and_true, true_or, or_true, false_or, or_false, not_true, not_false_iff, zb_z, zb_o, zb_ft, tn_0, tn_1, tn_2, tn_3, tn_c, Int.reduceToNat, te_0, te_1, tk_0, tk_1, tk_m, ts_1, or_0, bp_f, vI, sX_x0 hX, sX_xr2 hX, sX_xr3 hX, sX_xr6 hX, sX_xk2 hX, sX_xl2 hX, sX_xk3 hX, sX_xl3 hX, sX_xk6 hX, sX_xl6 hX, zi_t, ed_m, hm2, a1, b1, d1]; rfl)
      · have o15 : (xi_wI md 22 (6 + k) (zi (twV z c (leS z c 99 (blS z c q.1))))).1 15 = md.1 15 := wI_o (by omega)
        unfold RP
        rw [o15]
        exact RP_B d2 (by omega)
      · exact (show (blS z c q.1).1 = -9 from lt_f ((tw_v z c (coL k q.2) (leS z c 99 (blS z c q.1))).2 h).1)
set_option maxHeartbeats 4000000 in
theorem M_reads (hX : ShX S) (hu : u < 4) (hT : Tm m u z c) : ∃ m1, E_X9_reads S 15 (zi (u : Nat)) m = some (some (.int (zi (rdP z c).1.1)), m1) ∧ ((rdP z c).1.1 = -9 → Row S m1 22 (rdP z c).2) ∧ FM m m1 := by
  have hF0 : FM m (wrM m 22 0 (fun _ => zi 0) 34) := ⟨fun b _ x => wr_o x, fun k _ _ => by rw [wr_o (by omega)], wr_l _ _ _ _ _⟩
  have hr0 : Row S (wrM m 22 0 (fun _ => zi 0) 34) 22 (fun _ => 0) := ⟨sX_xk6 hX, sX_xl6 hX, fun k hk => by rw [wr_if, if_pos (by omega)]⟩
  have hF1 := FM_t (FM_t hF0 (FM_w _ (Or.inl rfl) (zi 0))) (FM_w _ (Or.inr rfl) (zi (-9)))
  have hr1 : Row S (xi_wI (xi_wI (wrM m 22 0 (fun _ => zi 0) 34) 15 18 (zi 0)) 15 19 (zi (-9))) 22 (fun _ => 0) := Row_fr (Row_fr hr0 (wI_o (by omega))) (wI_o (by omega))
  have hP0 : PB z (-9, 0) := ⟨Nat.zero_le _, Or.inl rfl⟩
  have hR0 : RP (xi_wI (xi_wI (wrM m 22 0 (fun _ => zi 0) 34) 15 18 (zi 0)) 15 19 (zi (-9))) (-9, 0) 60 := ⟨fun _ => by rw [mw_ne (by omega), mw_eq]; rfl, by rw [mw_eq], ⟨0, by omega, by rw [mw_ne (by omega), mw_eq]; rfl⟩⟩
  have hE : ∀ r, (∀ N, G_X9_reads_2 S (N + 1) 15 (zi (u : Nat)) (zi 34) (wrM m 22 0 (fun _ => zi 0) 34) = r) → E_X9_reads S 15 (zi (u : Nat)) m = r := by
    intro r hr
    unfold E_X9_reads
    refine lp_all (fun q j => G_X9_reads_2 S q 15 (zi (u : Nat)) (zi (j : Nat)) (wrM m 22 0 (fun _ => zi 0) j)) 34 10000 (fun j q hj => ?_) hr (by omega)
    rw [wr_s, Nat.zero_add]
    simp only [G_X9_reads_2]
    repeat (first | (with_reducible refine (if_pos ?_).trans ?_; focus (simp (disch := omega) only [zi_f, zi_0, zi_1, zi_31, zi_all, zi_8, zi_16, zi_add, zi_sub, zi_mul, zi_neg, zi_lt, zi_le, zi_eq, zi_div, zi_t, zi_n, xb_I, xb_J, xb_V, xb_s, if_pos, if_neg, if_true, if_false, true_and, and_true, true_or, or_true, false_or, or_false, not_true, not_false_iff, zb_z, zb_o, zb_ft, tn_0, tn_1, tn_2, tn_3, tn_c, Int.reduceToNat, te_0, te_1, tk_0, tk_1, tk_m, ts_1, or_0, bp_f, sX_x0 hX, sX_xr2 hX, sX_xr3 hX, sX_xr6 hX, sX_xk2 hX, sX_xl2 hX, sX_xk3 hX, sX_xl3 hX, sX_xk6 hX, sX_xl6 hX, zi_t] <;> omega)) | (with_reducible refine (if_neg ?_).trans ?_; focus (simp (disch := omega) only [zi_f, zi_0, zi_1, zi_31, zi_all, zi_8, zi_16, zi_add, zi_sub, zi_mul, zi_neg, zi_lt, zi_le, zi_eq, zi_div, zi_t, zi_n, xb_I, xb_J, xb_V, xb_s, if_pos, if_neg, if_true, if_false, true_and, and_true, true_or, or_true, false_or, or_false, not_true, not_false_iff, zb_z, zb_o, zb_ft, tn_0, tn_1, tn_2, tn_3, tn_c, Int.reduceToNat, te_0, te_1, tk_0, tk_1, tk_m, ts_1, or_0, bp_f, sX_x0 hX, sX_xr2 hX, sX_xr3 hX, sX_xr6 hX, sX_xk2 hX, sX_xl2 hX, sX_xk3 hX, sX_xl3 hX, sX_xk6 hX, sX_xl6 hX, zi_t] <;> omega)) | ((conv => lhs; arg 1; simp (disch := omega) only [zi_f, zi_0, zi_1, zi_31, zi_all, zi_8, zi_16, zi_add, zi_sub, zi_mul, zi_neg, zi_lt, zi_le, zi_eq, zi_div, zi_t, zi_n, xb_I, xb_J, xb_V, xb_s, if_pos, if_neg, if_true, if_false, true_and, and_true, true_or, or_true, false_or, or_false, not_true, not_false_iff, zb_z, zb_o, zb_ft, tn_0, tn_1, tn_2, tn_3, tn_c, Int.reduceToNat, te_0, te_1, tk_0, tk_1, tk_m, ts_1, or_0, bp_f, sX_x0 hX, sX_xr2 hX, sX_xr3 hX, sX_xr6 hX, sX_xk2 hX, sX_xl2 hX, sX_xk3 hX, sX_xl3 hX, sX_xk6 hX, sX_xl6 hX, zi_t]); first | with_reducible refine xb_I.trans ?_ | with_reducible refine xb_V.trans ?_ | with_reducible refine xb_J.trans ?_ | with_reducible refine xb_s.trans ?_))
    first | (simp (disch := omega) only [zi_f, zi_0, zi_1, zi_31, zi_all, zi_8, zi_16, zi_add, zi_sub, zi_mul, zi_neg, zi_lt, zi_le, zi_eq, zi_div, zi_t, zi_n, xb_I, xb_J, xb_V, xb_s, if_pos, if_neg, if_true, if_false, true_and, and_true, true_or, or_true, false_or, or_false, not_true, not_false_iff, zb_z, zb_o, zb_ft, tn_0, tn_1, tn_2, tn_3, tn_c, Int.reduceToNat, te_0, te_1, tk_0, tk_1, tk_m, ts_1, or_0, bp_f, vI, sX_x0 hX, sX_xr2 hX, sX_xr3 hX, sX_xr6 hX, sX_xk2 hX, sX_xl2 hX, sX_xk3 hX, sX_xl3 hX, sX_xk6 hX, sX_xl6 hX, zi_t]; done) | rfl | (simp (disch := omega) only [zi_f, zi_0, zi_1, zi_31, zi_all, zi_8, zi_16, zi_add, zi_sub, zi_mul, zi_neg, zi_lt, zi_le, zi_eq, zi_div, zi_t, zi_n, xb_I, xb_J, xb_V, xb_s, if_pos, if_neg, if_true, if_false, true_and, and_true, true_or, or_true, false_or, or_false, not_true, not_false_iff, zb_z, zb_o, zb_ft, tn_0, tn_1, tn_2, tn_3, tn_c, Int.reduceToNat, te_0, te_1, tk_0, tk_1, tk_m, ts_1, or_0, bp_f, vI, sX_x0 hX, sX_xr2 hX, sX_xr3 hX, sX_xr6 hX, sX_xk2 hX, sX_xl2 hX, sX_xk3 hX, sX_xl3 hX, sX_xk6 hX, sX_xl6 hX, zi_t]; rfl)
  generalize hm0 : wrM m 22 0 (fun _ => zi 0) 34 = m0 at *
  generalize hm1 : xi_wI (xi_wI m0 15 18 (zi 0)) 15 19 (zi (-9)) = mi at *
  obtain ⟨ma, a1, a2, a3, a4⟩ := M_blanks hX hu (Tm_f hT hF1) (by omega) hR0 hP0
  have Pa := PB_bl (c := c) hP0
  have Fa := FM_t hF1 a3
  obtain ⟨mb, b1, b2, b3, b4⟩ := M_letterR hX hu (Tm_f hT Fa) (by omega) (by omega) a2 Pa (ch := 103) (by omega)
  have Pb := PB_lt (c := c) (ch := 103) (by omega) Pa
  have Fb := FM_t Fa b3
  obtain ⟨md, d1, d2, d3, d4⟩ := M_figureR hX hu (Tm_f hT Fb) (by omega) (by omega) b2 Pb (lo := 0) (hi := 1) (by omega) (by omega)
  have Fd := FM_t (FM_t Fb d3) (FM_22 md 0 (zi (fgV z c 0 1 (leS z c 103 (blS z c (-9, 0))))))
  have hR1 : RP (xi_wI md 22 0 (zi (fgV z c 0 1 (leS z c 103 (blS z c (-9, 0)))))) (rcS z c).1 100 := by
    unfold RP
    rw [show (xi_wI md 22 0 (zi (fgV z c 0 1 (leS z c 103 (blS z c (-9, 0)))))).1 15 = md.1 15 from wI_o (by omega)]
    exact RP_B d2 (by omega)
  have hW1 : Row S (xi_wI md 22 0 (zi (fgV z c 0 1 (leS z c 103 (blS z c (-9, 0)))))) 22 (rcS z c).2 := Row_up (Row_fr hr1 (by rw [d4, b4, a4]))
  generalize hms : xi_wI md 22 0 (zi (fgV z c 0 1 (leS z c 103 (blS z c (-9, 0))))) = ms at *
  obtain ⟨mk, y1, y2, y3, y4⟩ := M_59 hX hu (Tm_f hT Fd) hR1 (fun _ => hW1) 4 (Nat.le_refl _)
  have Fk := FM_t Fd y4
  have PC : PB z (rdC z c).1 := PB_rdC z c 4
  obtain ⟨mp, p1, p2, p3, p4⟩ := M_blanks hX hu (Tm_f hT Fk) (by omega) (show RP mk (rdC z c).1 120 from y2) PC
  have Fp := FM_t Fk p3
  obtain ⟨me, e1, e2, e3⟩ := M_124 hX hu 7 0 mp 10000 (by omega) (by omega) (Tm_f hT Fp) (RP_B p2 (by omega)) (fun h => Row_fr (y3 h) p4)
  refine ⟨me, ?_, e2, FM_t Fp e3⟩
  refine hE _ fun N => ?_
  have k59 : G_X9_reads_59 S 10000 15 (zi (u : Nat)) (zi 0) ms = some (some (.int (zi (rdP z c).1.1)), me) := by
    rw [y1]
    obtain ⟨N, hN⟩ : ∃ N, 10000 - 4 = N + 1 := ⟨9995, rfl⟩
    rw [hN, show ((4 : Nat) : Int) = 4 from rfl]
    clear y1 y2 y3 y4 p2 p3 p4 e2 e3 Fk Fp Fd Fa Fb hF0 hF1 hr0 hr1 hR0 hR1 hW1 hE hms a1 a2 a3 a4 b1 b2 b3 b4 d1 d2 d3 d4 hT hN
    generalize (rdP z c).1.1 = v at *
    simp only [G_X9_reads_59]
    repeat (first | (with_reducible refine (if_pos ?_).trans ?_; focus (simp (disch := omega) only [zi_f, zi_0, zi_1, zi_31, zi_all, zi_8, zi_16, zi_add, zi_sub, zi_mul, zi_neg, zi_lt, zi_le, zi_eq, zi_div, zi_t, zi_n, xb_I, xb_J, xb_V, xb_s, if_pos, if_neg, if_true, if_false, true_and, and_true, true_or, or_true, false_or, or_false, not_true, not_false_iff, zb_z, zb_o, zb_ft, tn_0, tn_1, tn_2, tn_3, tn_c, Int.reduceToNat, te_0, te_1, tk_0, tk_1, tk_m, ts_1, or_0, bp_f, sX_x0 hX, sX_xr2 hX, sX_xr3 hX, sX_xr6 hX, sX_xk2 hX, sX_xl2 hX, sX_xk3 hX, sX_xl3 hX, sX_xk6 hX, sX_xl6 hX, zi_t, p1, e1] <;> omega)) | (with_reducible refine (if_neg ?_).trans ?_; focus (simp (disch := omega) only [zi_f, zi_0, zi_1, zi_31, zi_all, zi_8, zi_16, zi_add, zi_sub, zi_mul, zi_neg, zi_lt, zi_le, zi_eq, zi_div, zi_t, zi_n, xb_I, xb_J, xb_V, xb_s, if_pos, if_neg, if_true, if_false, true_and, and_true, true_or, or_true, false_or, or_false, not_true, not_false_iff, zb_z, zb_o, zb_ft, tn_0, tn_1, tn_2, tn_3, tn_c, Int.reduceToNat, te_0, te_1, tk_0, tk_1, tk_m, ts_1, or_0, bp_f, sX_x0 hX, sX_xr2 hX, sX_xr3 hX, sX_xr6 hX, sX_xk2 hX, sX_xl2 hX, sX_xk3 hX, sX_xl3 hX, sX_xk6 hX, sX_xl6 hX, zi_t, p1, e1] <;> omega)) | ((conv => lhs; arg 1; simp (disch := omega) only [zi_f, zi_0, zi_1, zi_31, zi_all, zi_8, zi_16, zi_add, zi_sub, zi_mul, zi_neg, zi_lt, zi_le, zi_eq, zi_div, zi_t, zi_n, xb_I, xb_J, xb_V, xb_s, if_pos, if_neg, if_true, if_false, true_and, and_true, true_or, or_true, false_or, or_false, not_true, not_false_iff, zb_z, zb_o, zb_ft, tn_0, tn_1, tn_2, tn_3, tn_c, Int.reduceToNat, te_0, te_1, tk_0, tk_1, tk_m, ts_1, or_0, bp_f, sX_x0 hX, sX_xr2 hX, sX_xr3 hX, sX_xr6 hX, sX_xk2 hX, sX_xl2 hX, sX_xk3 hX, sX_xl3 hX, sX_xk6 hX, sX_xl6 hX, zi_t, p1, e1]); first | with_reducible refine xb_I.trans ?_ | with_reducible refine xb_V.trans ?_ | with_reducible refine xb_J.trans ?_ | with_reducible refine xb_s.trans ?_))
    first | (simp (disch := omega) only [zi_f, zi_0, zi_1, zi_31, zi_all, zi_8, zi_16, zi_add, zi_sub, zi_mul, zi_neg, zi_lt, zi_le, zi_eq, zi_div, zi_t, zi_n, xb_I, xb_J, xb_V, xb_s, if_pos, if_neg, if_true, if_false, true_and, and_true, true_or, or_true, false_or, or_false, not_true, not_false_iff, zb_z, zb_o, zb_ft, tn_0, tn_1, tn_2, tn_3, tn_c, Int.reduceToNat, te_0, te_1, tk_0, tk_1, tk_m, ts_1, or_0, bp_f, vI, sX_x0 hX, sX_xr2 hX, sX_xr3 hX, sX_xr6 hX, sX_xk2 hX, sX_xl2 hX, sX_xk3 hX, sX_xl3 hX, sX_xk6 hX, sX_xl6 hX, zi_t, p1, e1]; done) | rfl | (simp (disch := omega) only [zi_f, zi_0, zi_1, zi_31, zi_all, zi_8, zi_16, zi_add, zi_sub, zi_mul, zi_neg, zi_lt, zi_le, zi_eq, zi_div, zi_t, zi_n, xb_I, xb_J, xb_V, xb_s, if_pos, if_neg, if_true, if_false, true_and, and_true, true_or, or_true, false_or, or_false, not_true, not_false_iff, zb_z, zb_o, zb_ft, tn_0, tn_1, tn_2, tn_3, tn_c, Int.reduceToNat, te_0, te_1, tk_0, tk_1, tk_m, ts_1, or_0, bp_f, vI, sX_x0 hX, sX_xr2 hX, sX_xr3 hX, sX_xr6 hX, sX_xk2 hX, sX_xl2 hX, sX_xk3 hX, sX_xl3 hX, sX_xk6 hX, sX_xl6 hX, zi_t, p1, e1]; rfl)
  clear y1 y2 y3 y4 p2 p3 p4 e1 e2 e3 Fk Fp Fd Fa Fb hF0 hF1 hr0 hr1 hR0 hR1 hW1 hE a2 a3 a4 b2 b3 b4 d2 d3 d4 hT p1
  generalize (rdP z c).1.1 = v at *
  generalize fgV z c 0 1 (leS z c 103 (blS z c (-9, 0))) = x at *
  simp only [G_X9_reads_2]
  repeat (first | (with_reducible refine (if_pos ?_).trans ?_; focus (simp (disch := omega) only [zi_f, zi_0, zi_1, zi_31, zi_all, zi_8, zi_16, zi_add, zi_sub, zi_mul, zi_neg, zi_lt, zi_le, zi_eq, zi_div, zi_t, zi_n, xb_I, xb_J, xb_V, xb_s, if_pos, if_neg, if_true, if_false, true_and, and_true, true_or, or_true, false_or, or_false, not_true, not_false_iff, zb_z, zb_o, zb_ft, tn_0, tn_1, tn_2, tn_3, tn_c, Int.reduceToNat, te_0, te_1, tk_0, tk_1, tk_m, ts_1, or_0, bp_f, sX_x0 hX, sX_xr2 hX, sX_xr3 hX, sX_xr6 hX, sX_xk2 hX, sX_xl2 hX, sX_xk3 hX, sX_xl3 hX, sX_xk6 hX, sX_xl6 hX, zi_t, hm1, a1, b1, d1, hms, k59] <;> omega)) | (with_reducible refine (if_neg ?_).trans ?_; focus (simp (disch := omega) only [zi_f, zi_0, zi_1, zi_31, zi_all, zi_8, zi_16, zi_add, zi_sub, zi_mul, zi_neg, zi_lt, zi_le, zi_eq, zi_div, zi_t, zi_n, xb_I, xb_J, xb_V, xb_s, if_pos, if_neg, if_true, if_false, true_and, and_true, true_or, or_true, false_or, or_false, not_true, not_false_iff, zb_z, zb_o, zb_ft, tn_0, tn_1, tn_2, tn_3, tn_c, Int.reduceToNat, te_0, te_1, tk_0, tk_1, tk_m, ts_1, or_0, bp_f, sX_x0 hX, sX_xr2 hX, sX_xr3 hX, sX_xr6 hX, sX_xk2 hX, sX_xl2 hX, sX_xk3 hX, sX_xl3 hX, sX_xk6 hX, sX_xl6 hX, zi_t, hm1, a1, b1, d1, hms, k59] <;> omega)) | ((conv => lhs; arg 1; simp (disch := omega) only [zi_f, zi_0, zi_1, zi_31, zi_all, zi_8, zi_16, zi_add, zi_sub, zi_mul, zi_neg, zi_lt, zi_le, zi_eq, zi_div, zi_t, zi_n, xb_I, xb_J, xb_V, xb_s, if_pos, if_neg, if_true, if_false, true_and, and_true, true_or, or_true, false_or, or_false, not_true, not_false_iff, zb_z, zb_o, zb_ft, tn_0, tn_1, tn_2, tn_3, tn_c, Int.reduceToNat, te_0, te_1, tk_0, tk_1, tk_m, ts_1, or_0, bp_f, sX_x0 hX, sX_xr2 hX, sX_xr3 hX, sX_xr6 hX, sX_xk2 hX, sX_xl2 hX, sX_xk3 hX, sX_xl3 hX, sX_xk6 hX, sX_xl6 hX, zi_t, hm1, a1, b1, d1, hms, k59]); first | with_reducible refine xb_I.trans ?_ | with_reducible refine xb_V.trans ?_ | with_reducible refine xb_J.trans ?_ | with_reducible refine xb_s.trans ?_))
  first | (simp (disch := omega) only [zi_f, zi_0, zi_1, zi_31, zi_all, zi_8, zi_16, zi_add, zi_sub, zi_mul, zi_neg, zi_lt, zi_le, zi_eq, zi_div, zi_t, zi_n, xb_I, xb_J, xb_V, xb_s, if_pos, if_neg, if_true, if_false, true_and, and_true, true_or, or_true, false_or, or_false, not_true, not_false_iff, zb_z, zb_o, zb_ft, tn_0, tn_1, tn_2, tn_3, tn_c, Int.reduceToNat, te_0, te_1, tk_0, tk_1, tk_m, ts_1, or_0, bp_f, vI, sX_x0 hX, sX_xr2 hX, sX_xr3 hX, sX_xr6 hX, sX_xk2 hX, sX_xl2 hX, sX_xk3 hX, sX_xl3 hX, sX_xk6 hX, sX_xl6 hX, zi_t, hm1, a1, b1, d1, hms, k59]; done) | rfl | (simp (disch := omega) only [zi_f, zi_0, zi_1, zi_31, zi_all, zi_8, zi_16, zi_add, zi_sub, zi_mul, zi_neg, zi_lt, zi_le, zi_eq, zi_div, zi_t, zi_n, xb_I, xb_J, xb_V, xb_s, if_pos, if_neg, if_true, if_false, true_and, and_true, true_or, or_true, false_or, or_false, not_true, not_false_iff, zb_z, zb_o, zb_ft, tn_0, tn_1, tn_2, tn_3, tn_c, Int.reduceToNat, te_0, te_1, tk_0, tk_1, tk_m, ts_1, or_0, bp_f, vI, sX_x0 hX, sX_xr2 hX, sX_xr3 hX, sX_xr6 hX, sX_xk2 hX, sX_xl2 hX, sX_xk3 hX, sX_xl3 hX, sX_xk6 hX, sX_xl6 hX, zi_t, hm1, a1, b1, d1, hms, k59]; rfl)

end
def cT (t : TT) (u : Nat) : Nat → Int := fun k => if k < 60 then (t.2 (6 + u) k).toInt else 0
theorem cT_z {t : TT} (h : OT t) {u : Nat} (hu : u < 4) : (∀ k, -128 ≤ cT t u k ∧ cT t u k ≤ 127) ∧ ∀ k, k < 60 → zi (cT t u k) = t.2 (6 + u) k := by
  have key : ∀ k, k < 60 → ∃ b : Int, -128 ≤ b ∧ b ≤ 127 ∧ t.2 (6 + u) k = zi b ∧ cT t u k = b := fun k hk => by
    obtain ⟨b, h1, h2, h3⟩ := h.2 u hu k hk
    refine ⟨b, h1, h2, h3, ?_⟩
    unfold cT
    rw [if_pos hk, h3, zi_t (by omega) (by omega)]
  refine ⟨fun k => ?_, fun k hk => ?_⟩
  · by_cases e : k < 60
    · obtain ⟨b, h1, h2, h3, h4⟩ := key k e
      rw [h4]; exact ⟨h1, h2⟩
    · unfold cT; rw [if_neg e]; omega
  · obtain ⟨b, h1, h2, h3, h4⟩ := key k hk
    rw [h3, h4]
def rdT (t : TT) (u : Nat) : (Int × Nat) × (Nat → Int) := rdP (t.1 (6 + u)).toNat (cT t u)
def sp_fault (v : Int) (q : Sg) : Option Value × Sg := if 0 ≤ v ∧ v ≤ 3 then (if q.1.1 (6 + v.toNat) = -9 then (vI (-3), rfQ 1 q) else (vI (rdT q.1 v.toNat).1.1, q)) else (vI (-1), q)
def sp_republic (v : Int) (q : Sg) : Option Value × Sg := if 0 ≤ v ∧ v ≤ 3 then (if q.1.1 (6 + v.toNat) = -9 then (vI (-3), rfQ 1 q) else if (rdT q.1 v.toNat).1.1 = -9 then (vI ((rdT q.1 v.toNat).2 1), q.1, (0, fun _ => (rdT q.1 v.toNat).2), (fun _ => -9, q.2.2.1.2), q.2.2.2) else (vI (-4), q)) else (vI (-1), q)
theorem o_fault (v : Int) : ∀ q, OK q → OK (sp_fault v q).2 := by
  intro q h
  unfold sp_fault
  repeat' split
  all_goals exact h
theorem o_republic (v : Int) : ∀ q, OK q → OK (sp_republic v q).2 := by
  intro q h
  unfold sp_republic
  by_cases h0 : 0 ≤ v ∧ v ≤ 3
  · rw [if_pos h0]
    by_cases h1 : q.1.1 (6 + v.toNat) = -9
    · rw [if_pos h1]; exact h
    · rw [if_neg h1]
      by_cases h2 : (rdT q.1 v.toNat).1.1 = -9
      · rw [if_pos h2]
        have hk := (rd_wk _ _ h2).1
        exact ⟨h.1, ⟨Nat.zero_le _, Or.inr fun d _ => hk⟩, fun j hj => Or.inl rfl⟩
      · rw [if_neg h2]; exact h
  · rw [if_neg h0]; exact h
theorem MM_FM {m m1 : xi_M} {q : Sg} (h : MM m q) (hf : FM m m1) : MM m1 q := by
  obtain ⟨t, r, k, f⟩ := q
  refine MM_f h (fun b b1 b2 _ b3 _ => hf.1 b (by omega) b3) (hf.2.1 9 (by omega) (by omega)) ?_
  obtain ⟨y1, y2, y3, y4, y5⟩ := h.2.2.2
  exact ⟨by rw [hf.2.1 13 (by omega) (by omega)]; exact y1, fun j hj => by rw [hf.1 28 (by omega) (by omega)]; exact y2 j hj, by rw [hf.2.1 15 (by omega) (by omega)]; exact y3, by rw [hf.2.2]; exact y4, by rw [hf.2.2]; exact y5⟩
section
variable {S : xi_S} {m : xi_M}
theorem Tm_of {t : TT} (hO : OT t) (hM : MS m t) {u : Nat} (hu : u < 4) (h9 : ¬ t.1 (6 + u) = -9) : Tm m u (t.1 (6 + u)).toNat (cT t u) := by
  obtain ⟨c1, c2⟩ := cT_z hO hu
  have hz := (hO.1 (6 + u) (by omega)).resolve_left h9
  unfold lenS at hz
  rw [if_neg (by omega)] at hz
  obtain ⟨y1, y2⟩ := hM.2 u hu
  refine ⟨⟨by omega, c1⟩, ?_, fun k hk => ?_⟩
  · rw [y1, show (((t.1 (6 + u)).toNat : Nat) : Int) = t.1 (6 + u) by omega]
  · rw [y2 k (by omega), c2 k (by omega)]
set_option maxHeartbeats 4000000 in
theorem m_fault (hS : Sh S) (v : Int) (v1 : -2147483648 ≤ v) (v2 : v < 2147483648) : Mim S (fun m => E_X9_fault S 15 (zi v) m) (sp_fault v) := by
  rintro ⟨t, rr, k, f⟩ m hO hC
  have hX := hS.2.2.1
  have hO1 : OT t := hO.1
  have hC1 : MS m t := hC.1
  unfold sp_fault
  dsimp only
  by_cases h1 : 0 ≤ v ∧ v ≤ 3
  · rw [if_pos h1]
    obtain ⟨u, rfl⟩ : ∃ s : Nat, v = s := ⟨v.toNat, by omega⟩
    rw [Int.toNat_natCast]
    have hz := (hC1.2 u (by omega)).1
    have hzb := hO1.1 (6 + u) (by omega)
    have hle : lenS (6 + u) = 60 := if_neg (by omega)
    rw [hle] at hzb
    by_cases h2 : t.1 (6 + u) = -9
    · rw [if_pos h2]
      rw [h2] at hz
      refine ⟨rfM m 1, ?_, MM_rf hC, fun b hb => ⟨rfM_o (by omega) (by omega), rfl⟩⟩
      unfold E_X9_fault
      repeat (first | (with_reducible refine (if_pos ?_).trans ?_; focus (simp (disch := omega) only [zi_f, zi_0, zi_1, zi_31, zi_all, zi_8, zi_16, zi_add, zi_sub, zi_mul, zi_neg, zi_lt, zi_le, zi_eq, zi_div, zi_t, zi_n, xb_I, xb_J, xb_V, xb_s, if_pos, if_neg, if_true, if_false, true_and, and_true, true_or, or_true, false_or, or_false, not_true, not_false_iff, zb_z, zb_o, zb_ft, tn_0, tn_1, tn_2, tn_3, tn_c, Int.reduceToNat, te_0, te_1, tk_0, tk_1, tk_m, ts_1, or_0, bp_f, sX_x0 hX, sX_xr2 hX, sX_xk2 hX, sX_xl2 hX, M_tt, M_tf, M_r1 hX, M_r2 hX, M_r3 hX, M_r4 hX, M_r5 hX, M_an hX, hz] <;> omega)) | (with_reducible refine (if_neg ?_).trans ?_; focus (simp (disch := omega) only [zi_f, zi_0, zi_1, zi_31, zi_all, zi_8, zi_16, zi_add, zi_sub, zi_mul, zi_neg, zi_lt, zi_le, zi_eq, zi_div, zi_t, zi_n, xb_I, xb_J, xb_V, xb_s, if_pos, if_neg, if_true, if_false, true_and, and_true, true_or, or_true, false_or, or_false, not_true, not_false_iff, zb_z, zb_o, zb_ft, tn_0, tn_1, tn_2, tn_3, tn_c, Int.reduceToNat, te_0, te_1, tk_0, tk_1, tk_m, ts_1, or_0, bp_f, sX_x0 hX, sX_xr2 hX, sX_xk2 hX, sX_xl2 hX, M_tt, M_tf, M_r1 hX, M_r2 hX, M_r3 hX, M_r4 hX, M_r5 hX, M_an hX, hz] <;> omega)) | ((conv => lhs; arg 1; simp (disch := omega) only [zi_f, zi_0, zi_1, zi_31, zi_all, zi_8, zi_16, zi_add, zi_sub, zi_mul, zi_neg, zi_lt, zi_le, zi_eq, zi_div, zi_t, zi_n, xb_I, xb_J, xb_V, xb_s, if_pos, if_neg, if_true, if_false, true_and, and_true, true_or, or_true, false_or, or_false, not_true, not_false_iff, zb_z, zb_o, zb_ft, tn_0, tn_1, tn_2, tn_3, tn_c, Int.reduceToNat, te_0, te_1, tk_0, tk_1, tk_m, ts_1, or_0, bp_f, sX_x0 hX, sX_xr2 hX, sX_xk2 hX, sX_xl2 hX, M_tt, M_tf, M_r1 hX, M_r2 hX, M_r3 hX, M_r4 hX, M_r5 hX, M_an hX, hz]); first | with_reducible refine xb_I.trans ?_ | with_reducible refine xb_V.trans ?_ | with_reducible refine xb_J.trans ?_ | with_reducible refine xb_s.trans ?_))
      first | (simp (disch := omega) only [zi_f, zi_0, zi_1, zi_31, zi_all, zi_8, zi_16, zi_add, zi_sub, zi_mul, zi_neg, zi_lt, zi_le, zi_eq, zi_div, zi_t, zi_n, xb_I, xb_J, xb_V, xb_s, if_pos, if_neg, if_true, if_false, true_and, and_true, true_or, or_true, false_or, or_false, not_true, not_false_iff, zb_z, zb_o, zb_ft, tn_0, tn_1, tn_2, tn_3, tn_c, Int.reduceToNat, te_0, te_1, tk_0, tk_1, tk_m, ts_1, or_0, bp_f, vI, sX_x0 hX, sX_xr2 hX, sX_xk2 hX, sX_xl2 hX, M_tt, M_tf, M_r1 hX, M_r2 hX, M_r3 hX, M_r4 hX, M_r5 hX, M_an hX, hz]; done) | rfl | (simp (disch := omega) only [zi_f, zi_0, zi_1, zi_31, zi_all, zi_8, zi_16, zi_add, zi_sub, zi_mul, zi_neg, zi_lt, zi_le, zi_eq, zi_div, zi_t, zi_n, xb_I, xb_J, xb_V, xb_s, if_pos, if_neg, if_true, if_false, true_and, and_true, true_or, or_true, false_or, or_false, not_true, not_false_iff, zb_z, zb_o, zb_ft, tn_0, tn_1, tn_2, tn_3, tn_c, Int.reduceToNat, te_0, te_1, tk_0, tk_1, tk_m, ts_1, or_0, bp_f, vI, sX_x0 hX, sX_xr2 hX, sX_xk2 hX, sX_xl2 hX, M_tt, M_tf, M_r1 hX, M_r2 hX, M_r3 hX, M_r4 hX, M_r5 hX, M_an hX, hz]; rfl)
    · rw [if_neg h2]
      obtain ⟨m1, e1, e2, e3⟩ := M_reads hX (u := u) (by omega) (Tm_of hO1 hC1 (by omega) h2)
      refine ⟨m1, ?_, MM_FM hC e3, fun b hb => ⟨e3.1 b (by omega) (by omega), by rw [e3.2.2]⟩⟩
      rw [show rdP (t.1 (6 + u)).toNat (cT t u) = rdT t u from rfl] at e1
      clear e2 e3
      generalize (rdT t u).1.1 = x at *
      generalize t.1 (6 + u) = y at *
      unfold E_X9_fault
      repeat (first | (with_reducible refine (if_pos ?_).trans ?_; focus (simp (disch := omega) only [zi_f, zi_0, zi_1, zi_31, zi_all, zi_8, zi_16, zi_add, zi_sub, zi_mul, zi_neg, zi_lt, zi_le, zi_eq, zi_div, zi_t, zi_n, xb_I, xb_J, xb_V, xb_s, if_pos, if_neg, if_true, if_false, true_and, and_true, true_or, or_true, false_or, or_false, not_true, not_false_iff, zb_z, zb_o, zb_ft, tn_0, tn_1, tn_2, tn_3, tn_c, Int.reduceToNat, te_0, te_1, tk_0, tk_1, tk_m, ts_1, or_0, bp_f, sX_x0 hX, sX_xr2 hX, sX_xk2 hX, sX_xl2 hX, M_tt, M_tf, M_r1 hX, M_r2 hX, M_r3 hX, M_r4 hX, M_r5 hX, M_an hX, hz, e1] <;> omega)) | (with_reducible refine (if_neg ?_).trans ?_; focus (simp (disch := omega) only [zi_f, zi_0, zi_1, zi_31, zi_all, zi_8, zi_16, zi_add, zi_sub, zi_mul, zi_neg, zi_lt, zi_le, zi_eq, zi_div, zi_t, zi_n, xb_I, xb_J, xb_V, xb_s, if_pos, if_neg, if_true, if_false, true_and, and_true, true_or, or_true, false_or, or_false, not_true, not_false_iff, zb_z, zb_o, zb_ft, tn_0, tn_1, tn_2, tn_3, tn_c, Int.reduceToNat, te_0, te_1, tk_0, tk_1, tk_m, ts_1, or_0, bp_f, sX_x0 hX, sX_xr2 hX, sX_xk2 hX, sX_xl2 hX, M_tt, M_tf, M_r1 hX, M_r2 hX, M_r3 hX, M_r4 hX, M_r5 hX, M_an hX, hz, e1] <;> omega)) | ((conv => lhs; arg 1; simp (disch := omega) only [zi_f, zi_0, zi_1, zi_31, zi_all, zi_8, zi_16, zi_add, zi_sub, zi_mul, zi_neg, zi_lt, zi_le, zi_eq, zi_div, zi_t, zi_n, xb_I, xb_J, xb_V, xb_s, if_pos, if_neg, if_true, if_false, true_and, and_true, true_or, or_true, false_or, or_false, not_true, not_false_iff, zb_z, zb_o, zb_ft, tn_0, tn_1, tn_2, tn_3, tn_c, Int.reduceToNat, te_0, te_1, tk_0, tk_1, tk_m, ts_1, or_0, bp_f, sX_x0 hX, sX_xr2 hX, sX_xk2 hX, sX_xl2 hX, M_tt, M_tf, M_r1 hX, M_r2 hX, M_r3 hX, M_r4 hX, M_r5 hX, M_an hX, hz, e1]); first | with_reducible refine xb_I.trans ?_ | with_reducible refine xb_V.trans ?_ | with_reducible refine xb_J.trans ?_ | with_reducible refine xb_s.trans ?_))
      first | (simp (disch := omega) only [zi_f, zi_0, zi_1, zi_31, zi_all, zi_8, zi_16, zi_add, zi_sub, zi_mul, zi_neg, zi_lt, zi_le, zi_eq, zi_div, zi_t, zi_n, xb_I, xb_J, xb_V, xb_s, if_pos, if_neg, if_true, if_false, true_and, and_true, true_or, or_true, false_or, or_false, not_true, not_false_iff, zb_z, zb_o, zb_ft, tn_0, tn_1, tn_2, tn_3, tn_c, Int.reduceToNat, te_0, te_1, tk_0, tk_1, tk_m, ts_1, or_0, bp_f, vI, sX_x0 hX, sX_xr2 hX, sX_xk2 hX, sX_xl2 hX, M_tt, M_tf, M_r1 hX, M_r2 hX, M_r3 hX, M_r4 hX, M_r5 hX, M_an hX, hz, e1]; done) | rfl | (simp (disch := omega) only [zi_f, zi_0, zi_1, zi_31, zi_all, zi_8, zi_16, zi_add, zi_sub, zi_mul, zi_neg, zi_lt, zi_le, zi_eq, zi_div, zi_t, zi_n, xb_I, xb_J, xb_V, xb_s, if_pos, if_neg, if_true, if_false, true_and, and_true, true_or, or_true, false_or, or_false, not_true, not_false_iff, zb_z, zb_o, zb_ft, tn_0, tn_1, tn_2, tn_3, tn_c, Int.reduceToNat, te_0, te_1, tk_0, tk_1, tk_m, ts_1, or_0, bp_f, vI, sX_x0 hX, sX_xr2 hX, sX_xk2 hX, sX_xl2 hX, M_tt, M_tf, M_r1 hX, M_r2 hX, M_r3 hX, M_r4 hX, M_r5 hX, M_an hX, hz, e1]; rfl)
  · rw [if_neg h1]
    refine ⟨m, ?_, hC, fun b _ => Cself⟩
    unfold E_X9_fault
    repeat (first | (with_reducible refine (if_pos ?_).trans ?_; focus (simp (disch := omega) only [zi_f, zi_0, zi_1, zi_31, zi_all, zi_8, zi_16, zi_add, zi_sub, zi_mul, zi_neg, zi_lt, zi_le, zi_eq, zi_div, zi_t, zi_n, xb_I, xb_J, xb_V, xb_s, if_pos, if_neg, if_true, if_false, true_and, and_true, true_or, or_true, false_or, or_false, not_true, not_false_iff, zb_z, zb_o, zb_ft, tn_0, tn_1, tn_2, tn_3, tn_c, Int.reduceToNat, te_0, te_1, tk_0, tk_1, tk_m, ts_1, or_0, bp_f, sX_x0 hX, sX_xr2 hX, sX_xk2 hX, sX_xl2 hX, M_tt, M_tf, M_r1 hX, M_r2 hX, M_r3 hX, M_r4 hX, M_r5 hX, M_an hX] <;> omega)) | (with_reducible refine (if_neg ?_).trans ?_; focus (simp (disch := omega) only [zi_f, zi_0, zi_1, zi_31, zi_all, zi_8, zi_16, zi_add, zi_sub, zi_mul, zi_neg, zi_lt, zi_le, zi_eq, zi_div, zi_t, zi_n, xb_I, xb_J, xb_V, xb_s, if_pos, if_neg, if_true, if_false, true_and, and_true, true_or, or_true, false_or, or_false, not_true, not_false_iff, zb_z, zb_o, zb_ft, tn_0, tn_1, tn_2, tn_3, tn_c, Int.reduceToNat, te_0, te_1, tk_0, tk_1, tk_m, ts_1, or_0, bp_f, sX_x0 hX, sX_xr2 hX, sX_xk2 hX, sX_xl2 hX, M_tt, M_tf, M_r1 hX, M_r2 hX, M_r3 hX, M_r4 hX, M_r5 hX, M_an hX] <;> omega)) | ((conv => lhs; arg 1; simp (disch := omega) only [zi_f, zi_0, zi_1, zi_31, zi_all, zi_8, zi_16, zi_add, zi_sub, zi_mul, zi_neg, zi_lt, zi_le, zi_eq, zi_div, zi_t, zi_n, xb_I, xb_J, xb_V, xb_s, if_pos, if_neg, if_true, if_false, true_and, and_true, true_or, or_true, false_or, or_false, not_true, not_false_iff, zb_z, zb_o, zb_ft, tn_0, tn_1, tn_2, tn_3, tn_c, Int.reduceToNat, te_0, te_1, tk_0, tk_1, tk_m, ts_1, or_0, bp_f, sX_x0 hX, sX_xr2 hX, sX_xk2 hX, sX_xl2 hX, M_tt, M_tf, M_r1 hX, M_r2 hX, M_r3 hX, M_r4 hX, M_r5 hX, M_an hX]); first | with_reducible refine xb_I.trans ?_ | with_reducible refine xb_V.trans ?_ | with_reducible refine xb_J.trans ?_ | with_reducible refine xb_s.trans ?_))
    first | (simp (disch := omega) only [zi_f, zi_0, zi_1, zi_31, zi_all, zi_8, zi_16, zi_add, zi_sub, zi_mul, zi_neg, zi_lt, zi_le, zi_eq, zi_div, zi_t, zi_n, xb_I, xb_J, xb_V, xb_s, if_pos, if_neg, if_true, if_false, true_and, and_true, true_or, or_true, false_or, or_false, not_true, not_false_iff, zb_z, zb_o, zb_ft, tn_0, tn_1, tn_2, tn_3, tn_c, Int.reduceToNat, te_0, te_1, tk_0, tk_1, tk_m, ts_1, or_0, bp_f, vI, sX_x0 hX, sX_xr2 hX, sX_xk2 hX, sX_xl2 hX, M_tt, M_tf, M_r1 hX, M_r2 hX, M_r3 hX, M_r4 hX, M_r5 hX, M_an hX]; done) | rfl | (simp (disch := omega) only [zi_f, zi_0, zi_1, zi_31, zi_all, zi_8, zi_16, zi_add, zi_sub, zi_mul, zi_neg, zi_lt, zi_le, zi_eq, zi_div, zi_t, zi_n, xb_I, xb_J, xb_V, xb_s, if_pos, if_neg, if_true, if_false, true_and, and_true, true_or, or_true, false_or, or_false, not_true, not_false_iff, zb_z, zb_o, zb_ft, tn_0, tn_1, tn_2, tn_3, tn_c, Int.reduceToNat, te_0, te_1, tk_0, tk_1, tk_m, ts_1, or_0, bp_f, vI, sX_x0 hX, sX_xr2 hX, sX_xk2 hX, sX_xl2 hX, M_tt, M_tf, M_r1 hX, M_r2 hX, M_r3 hX, M_r4 hX, M_r5 hX, M_an hX]; rfl)
set_option maxHeartbeats 4000000 in
theorem m_republic (hS : Sh S) (v : Int) (v1 : -2147483648 ≤ v) (v2 : v < 2147483648) : Mim S (fun m => E_X9_republic S 15 (zi v) m) (sp_republic v) := by
  rintro ⟨t, rr, k, f⟩ m hO hC
  have hX := hS.2.2.1
  have hO1 : OT t := hO.1
  have hC1 : MS m t := hC.1
  unfold sp_republic
  dsimp only
  by_cases h1 : 0 ≤ v ∧ v ≤ 3
  · rw [if_pos h1]
    obtain ⟨u, rfl⟩ : ∃ s : Nat, v = s := ⟨v.toNat, by omega⟩
    rw [Int.toNat_natCast]
    have hz := (hC1.2 u (by omega)).1
    have hzb := hO1.1 (6 + u) (by omega)
    have hle : lenS (6 + u) = 60 := if_neg (by omega)
    rw [hle] at hzb
    by_cases h2 : t.1 (6 + u) = -9
    · rw [if_pos h2]
      rw [h2] at hz
      refine ⟨rfM m 1, ?_, MM_rf hC, fun b hb => ⟨rfM_o (by omega) (by omega), rfl⟩⟩
      unfold E_X9_republic
      repeat (first | (with_reducible refine (if_pos ?_).trans ?_; focus (simp (disch := omega) only [zi_f, zi_0, zi_1, zi_31, zi_all, zi_8, zi_16, zi_add, zi_sub, zi_mul, zi_neg, zi_lt, zi_le, zi_eq, zi_div, zi_t, zi_n, xb_I, xb_J, xb_V, xb_s, if_pos, if_neg, if_true, if_false, true_and, and_true, true_or, or_true, false_or, or_false, not_true, not_false_iff, zb_z, zb_o, zb_ft, tn_0, tn_1, tn_2, tn_3, tn_c, Int.reduceToNat, te_0, te_1, tk_0, tk_1, tk_m, ts_1, or_0, bp_f, sX_x0 hX, sX_xr2 hX, sX_xk2 hX, sX_xl2 hX, M_tt, M_tf, M_r1 hX, M_r2 hX, M_r3 hX, M_r4 hX, M_r5 hX, M_an hX, hz] <;> omega)) | (with_reducible refine (if_neg ?_).trans ?_; focus (simp (disch := omega) only [zi_f, zi_0, zi_1, zi_31, zi_all, zi_8, zi_16, zi_add, zi_sub, zi_mul, zi_neg, zi_lt, zi_le, zi_eq, zi_div, zi_t, zi_n, xb_I, xb_J, xb_V, xb_s, if_pos, if_neg, if_true, if_false, true_and, and_true, true_or, or_true, false_or, or_false, not_true, not_false_iff, zb_z, zb_o, zb_ft, tn_0, tn_1, tn_2, tn_3, tn_c, Int.reduceToNat, te_0, te_1, tk_0, tk_1, tk_m, ts_1, or_0, bp_f, sX_x0 hX, sX_xr2 hX, sX_xk2 hX, sX_xl2 hX, M_tt, M_tf, M_r1 hX, M_r2 hX, M_r3 hX, M_r4 hX, M_r5 hX, M_an hX, hz] <;> omega)) | ((conv => lhs; arg 1; simp (disch := omega) only [zi_f, zi_0, zi_1, zi_31, zi_all, zi_8, zi_16, zi_add, zi_sub, zi_mul, zi_neg, zi_lt, zi_le, zi_eq, zi_div, zi_t, zi_n, xb_I, xb_J, xb_V, xb_s, if_pos, if_neg, if_true, if_false, true_and, and_true, true_or, or_true, false_or, or_false, not_true, not_false_iff, zb_z, zb_o, zb_ft, tn_0, tn_1, tn_2, tn_3, tn_c, Int.reduceToNat, te_0, te_1, tk_0, tk_1, tk_m, ts_1, or_0, bp_f, sX_x0 hX, sX_xr2 hX, sX_xk2 hX, sX_xl2 hX, M_tt, M_tf, M_r1 hX, M_r2 hX, M_r3 hX, M_r4 hX, M_r5 hX, M_an hX, hz]); first | with_reducible refine xb_I.trans ?_ | with_reducible refine xb_V.trans ?_ | with_reducible refine xb_J.trans ?_ | with_reducible refine xb_s.trans ?_))
      first | (simp (disch := omega) only [zi_f, zi_0, zi_1, zi_31, zi_all, zi_8, zi_16, zi_add, zi_sub, zi_mul, zi_neg, zi_lt, zi_le, zi_eq, zi_div, zi_t, zi_n, xb_I, xb_J, xb_V, xb_s, if_pos, if_neg, if_true, if_false, true_and, and_true, true_or, or_true, false_or, or_false, not_true, not_false_iff, zb_z, zb_o, zb_ft, tn_0, tn_1, tn_2, tn_3, tn_c, Int.reduceToNat, te_0, te_1, tk_0, tk_1, tk_m, ts_1, or_0, bp_f, vI, sX_x0 hX, sX_xr2 hX, sX_xk2 hX, sX_xl2 hX, M_tt, M_tf, M_r1 hX, M_r2 hX, M_r3 hX, M_r4 hX, M_r5 hX, M_an hX, hz]; done) | rfl | (simp (disch := omega) only [zi_f, zi_0, zi_1, zi_31, zi_all, zi_8, zi_16, zi_add, zi_sub, zi_mul, zi_neg, zi_lt, zi_le, zi_eq, zi_div, zi_t, zi_n, xb_I, xb_J, xb_V, xb_s, if_pos, if_neg, if_true, if_false, true_and, and_true, true_or, or_true, false_or, or_false, not_true, not_false_iff, zb_z, zb_o, zb_ft, tn_0, tn_1, tn_2, tn_3, tn_c, Int.reduceToNat, te_0, te_1, tk_0, tk_1, tk_m, ts_1, or_0, bp_f, vI, sX_x0 hX, sX_xr2 hX, sX_xk2 hX, sX_xl2 hX, M_tt, M_tf, M_r1 hX, M_r2 hX, M_r3 hX, M_r4 hX, M_r5 hX, M_an hX, hz]; rfl)
    · rw [if_neg h2]
      obtain ⟨m1, e1, e2, e3⟩ := M_reads hX (u := u) (by omega) (Tm_of hO1 hC1 (by omega) h2)
      have hPB : (rdT t u).1.1 = -9 ∨ (0 ≤ (rdT t u).1.1 ∧ (rdT t u).1.1 ≤ ((t.1 (6 + u)).toNat : Int)) := (PB_rdP (t.1 (6 + u)).toNat (cT t u) 7).2
      rw [show rdP (t.1 (6 + u)).toNat (cT t u) = rdT t u from rfl] at e1 e2
      by_cases h3 : (rdT t u).1.1 = -9
      · rw [if_pos h3]
        have hrow := e2 h3
        rw [h3] at e1
        have hcp := M_copies (S := S) (m := m1) (a := 22) (b := 21) (o := 0) (p := 0) (n := 34) (sX_xk6 hX) (sX_xk5 hX) (sX_xl6 hX) (sX_xl5 hX) (by omega) (by omega) (by omega) (by omega) (by omega) (xo := 0) (xp := 0) (xn := 34) rfl rfl rfl
        generalize hw : (rdT t u).2 = w at *
        have r21 : ∀ k, k < 34 → (wrM m1 21 0 (fun k => m1.1 22 (0 + k)) 34).1 21 k = zi (w k) := fun k hk => by rw [wr_if, if_pos (by omega), show 0 + (k - 0) = k by omega]; exact hrow.2.2 k hk
        have o21 : ∀ b, b ≠ 21 → (wrM m1 21 0 (fun k => m1.1 22 (0 + k)) 34).1 b = m1.1 b := fun b hb => wr_o hb
        have l21 : (wrM m1 21 0 (fun k => m1.1 22 (0 + k)) 34).2 = m1.2 := wr_l _ _ _ _ _
        generalize wrM m1 21 0 (fun k => m1.1 22 (0 + k)) 34 = m2 at *
        have k61 : G_X9_republic_61 S 10000 15 (zi 0) (xi_wI m2 15 9 (zi 0)) = some (vI (w 1), wrM (xi_wI m2 15 9 (zi 0)) 27 0 (fun _ => zi (-9)) 3) := by
          refine lp_all (fun q j => G_X9_republic_61 S q 15 (zi (j : Nat)) (wrM (xi_wI m2 15 9 (zi 0)) 27 0 (fun _ => zi (-9)) j)) 3 10000 (fun j q hj => ?_) (fun q => ?_) (by omega)
          · rw [wr_s, Nat.zero_add]
            clear hcp e1 e3 hC hC1 hO hO1
            simp only [G_X9_republic_61]
            repeat (first | (with_reducible refine (if_pos ?_).trans ?_; focus (simp (disch := omega) only [zi_f, zi_0, zi_1, zi_31, zi_all, zi_8, zi_16, zi_add, zi_sub, zi_mul, zi_neg, zi_lt, zi_le, zi_eq, zi_div, zi_t, zi_n, xb_I, xb_J, xb_V, xb_s, if_pos, if_neg, if_true, if_false, true_and, and_true, true_or, or_true, false_or, or_false, not_true, not_false_iff, zb_z, zb_o, zb_ft, tn_0, tn_1, tn_2, tn_3, tn_c, Int.reduceToNat, te_0, te_1, tk_0, tk_1, tk_m, ts_1, or_0, bp_f, sX_x0 hX, sX_xr11 hX, sX_xk11 hX, sX_xl11 hX, zi_t] <;> omega)) | (with_reducible refine (if_neg ?_).trans ?_; focus (simp (disch := omega) only [zi_f, zi_0, zi_1, zi_31, zi_all, zi_8, zi_16, zi_add, zi_sub, zi_mul, zi_neg, zi_lt, zi_le, zi_eq, zi_div, zi_t, zi_n, xb_I, xb_J, xb_V, xb_s, if_pos, if_neg, if_true, if_false, true_and, and_true, true_or, or_true, false_or, or_false, not_true, not_false_iff, zb_z, zb_o, zb_ft, tn_0, tn_1, tn_2, tn_3, tn_c, Int.reduceToNat, te_0, te_1, tk_0, tk_1, tk_m, ts_1, or_0, bp_f, sX_x0 hX, sX_xr11 hX, sX_xk11 hX, sX_xl11 hX, zi_t] <;> omega)) | ((conv => lhs; arg 1; simp (disch := omega) only [zi_f, zi_0, zi_1, zi_31, zi_all, zi_8, zi_16, zi_add, zi_sub, zi_mul, zi_neg, zi_lt, zi_le, zi_eq, zi_div, zi_t, zi_n, xb_I, xb_J, xb_V, xb_s, if_pos, if_neg, if_true, if_false, true_and, and_true, true_or, or_true, false_or, or_false, not_true, not_false_iff, zb_z, zb_o, zb_ft, tn_0, tn_1, tn_2, tn_3, tn_c, Int.reduceToNat, te_0, te_1, tk_0, tk_1, tk_m, ts_1, or_0, bp_f, sX_x0 hX, sX_xr11 hX, sX_xk11 hX, sX_xl11 hX, zi_t]); first | with_reducible refine xb_I.trans ?_ | with_reducible refine xb_V.trans ?_ | with_reducible refine xb_J.trans ?_ | with_reducible refine xb_s.trans ?_))
            first | (simp (disch := omega) only [zi_f, zi_0, zi_1, zi_31, zi_all, zi_8, zi_16, zi_add, zi_sub, zi_mul, zi_neg, zi_lt, zi_le, zi_eq, zi_div, zi_t, zi_n, xb_I, xb_J, xb_V, xb_s, if_pos, if_neg, if_true, if_false, true_and, and_true, true_or, or_true, false_or, or_false, not_true, not_false_iff, zb_z, zb_o, zb_ft, tn_0, tn_1, tn_2, tn_3, tn_c, Int.reduceToNat, te_0, te_1, tk_0, tk_1, tk_m, ts_1, or_0, bp_f, vI, sX_x0 hX, sX_xr11 hX, sX_xk11 hX, sX_xl11 hX, zi_t]; done) | rfl | (simp (disch := omega) only [zi_f, zi_0, zi_1, zi_31, zi_all, zi_8, zi_16, zi_add, zi_sub, zi_mul, zi_neg, zi_lt, zi_le, zi_eq, zi_div, zi_t, zi_n, xb_I, xb_J, xb_V, xb_s, if_pos, if_neg, if_true, if_false, true_and, and_true, true_or, or_true, false_or, or_false, not_true, not_false_iff, zb_z, zb_o, zb_ft, tn_0, tn_1, tn_2, tn_3, tn_c, Int.reduceToNat, te_0, te_1, tk_0, tk_1, tk_m, ts_1, or_0, bp_f, vI, sX_x0 hX, sX_xr11 hX, sX_xk11 hX, sX_xl11 hX, zi_t]; rfl)
          · have k1 : (wrM (xi_wI m2 15 9 (zi 0)) 27 0 (fun _ => zi (-9)) 3).1 21 1 = zi (w 1) := by rw [wr_o (by omega), wI_o (by omega)]; exact r21 1 (by omega)
            generalize wrM (xi_wI m2 15 9 (zi 0)) 27 0 (fun _ => zi (-9)) 3 = m3 at *
            clear hcp e1 e3 hC hC1 hO hO1 r21
            generalize w 1 = y at *
            rw [show ((3 : Nat) : Int) = 3 from rfl]
            simp only [G_X9_republic_61]
            repeat (first | (with_reducible refine (if_pos ?_).trans ?_; focus (simp (disch := omega) only [zi_f, zi_0, zi_1, zi_31, zi_all, zi_8, zi_16, zi_add, zi_sub, zi_mul, zi_neg, zi_lt, zi_le, zi_eq, zi_div, zi_t, zi_n, xb_I, xb_J, xb_V, xb_s, if_pos, if_neg, if_true, if_false, true_and, and_true, true_or, or_true, false_or, or_false, not_true, not_false_iff, zb_z, zb_o, zb_ft, tn_0, tn_1, tn_2, tn_3, tn_c, Int.reduceToNat, te_0, te_1, tk_0, tk_1, tk_m, ts_1, or_0, bp_f, sX_x0 hX, sX_xr5 hX, sX_xk5 hX, sX_xl5 hX, zi_t, k1] <;> omega)) | (with_reducible refine (if_neg ?_).trans ?_; focus (simp (disch := omega) only [zi_f, zi_0, zi_1, zi_31, zi_all, zi_8, zi_16, zi_add, zi_sub, zi_mul, zi_neg, zi_lt, zi_le, zi_eq, zi_div, zi_t, zi_n, xb_I, xb_J, xb_V, xb_s, if_pos, if_neg, if_true, if_false, true_and, and_true, true_or, or_true, false_or, or_false, not_true, not_false_iff, zb_z, zb_o, zb_ft, tn_0, tn_1, tn_2, tn_3, tn_c, Int.reduceToNat, te_0, te_1, tk_0, tk_1, tk_m, ts_1, or_0, bp_f, sX_x0 hX, sX_xr5 hX, sX_xk5 hX, sX_xl5 hX, zi_t, k1] <;> omega)) | ((conv => lhs; arg 1; simp (disch := omega) only [zi_f, zi_0, zi_1, zi_31, zi_all, zi_8, zi_16, zi_add, zi_sub, zi_mul, zi_neg, zi_lt, zi_le, zi_eq, zi_div, zi_t, zi_n, xb_I, xb_J, xb_V, xb_s, if_pos, if_neg, if_true, if_false, true_and, and_true, true_or, or_true, false_or, or_false, not_true, not_false_iff, zb_z, zb_o, zb_ft, tn_0, tn_1, tn_2, tn_3, tn_c, Int.reduceToNat, te_0, te_1, tk_0, tk_1, tk_m, ts_1, or_0, bp_f, sX_x0 hX, sX_xr5 hX, sX_xk5 hX, sX_xl5 hX, zi_t, k1]); first | with_reducible refine xb_I.trans ?_ | with_reducible refine xb_V.trans ?_ | with_reducible refine xb_J.trans ?_ | with_reducible refine xb_s.trans ?_))
            first | (simp (disch := omega) only [zi_f, zi_0, zi_1, zi_31, zi_all, zi_8, zi_16, zi_add, zi_sub, zi_mul, zi_neg, zi_lt, zi_le, zi_eq, zi_div, zi_t, zi_n, xb_I, xb_J, xb_V, xb_s, if_pos, if_neg, if_true, if_false, true_and, and_true, true_or, or_true, false_or, or_false, not_true, not_false_iff, zb_z, zb_o, zb_ft, tn_0, tn_1, tn_2, tn_3, tn_c, Int.reduceToNat, te_0, te_1, tk_0, tk_1, tk_m, ts_1, or_0, bp_f, vI, sX_x0 hX, sX_xr5 hX, sX_xk5 hX, sX_xl5 hX, zi_t, k1]; done) | rfl | (simp (disch := omega) only [zi_f, zi_0, zi_1, zi_31, zi_all, zi_8, zi_16, zi_add, zi_sub, zi_mul, zi_neg, zi_lt, zi_le, zi_eq, zi_div, zi_t, zi_n, xb_I, xb_J, xb_V, xb_s, if_pos, if_neg, if_true, if_false, true_and, and_true, true_or, or_true, false_or, or_false, not_true, not_false_iff, zb_z, zb_o, zb_ft, tn_0, tn_1, tn_2, tn_3, tn_c, Int.reduceToNat, te_0, te_1, tk_0, tk_1, tk_m, ts_1, or_0, bp_f, vI, sX_x0 hX, sX_xr5 hX, sX_xk5 hX, sX_xl5 hX, zi_t, k1]; rfl)
        have G1 : ∀ b, b ≠ 15 → b ≠ 21 → b ≠ 22 → b ≠ 27 → (wrM (xi_wI m2 15 9 (zi 0)) 27 0 (fun _ => zi (-9)) 3).1 b = m.1 b := fun b b1 b2 b3 b4 => by rw [wr_o b4, wI_o b1, o21 b b2, e3.1 b b1 b3]
        have G2 : ∀ k, k ≠ 9 → k ≠ 18 → k ≠ 19 → (wrM (xi_wI m2 15 9 (zi 0)) 27 0 (fun _ => zi (-9)) 3).1 15 k = m.1 15 k := fun k b1 b2 b3 => by rw [wr_o (by omega), mw_ne (fun x => b1 x.2), o21 15 (by omega), e3.2.1 k b2 b3]
        have G3 : (wrM (xi_wI m2 15 9 (zi 0)) 27 0 (fun _ => zi (-9)) 3).2 = m.2 := by rw [wr_l, mw_l, l21, e3.2.2]
        refine ⟨_, ?_, ⟨MS_fr (fun b x y => G1 b (by omega) (by omega) (by omega) (by omega)) hC.1, ⟨fun j hj => ?_, ?_, fun d hd => absurd hd (Nat.not_lt_zero _)⟩, fun j hj => ⟨?_, fun y => absurd rfl y⟩, ?_⟩, fun b hb => ⟨G1 b (by omega) (by omega) (by omega) (by omega), by rw [G3]⟩⟩
        · clear G1 G2 G3 r21 o21 l21 e2 e3 hC hC1 hO hO1
          generalize w 1 = n1 at *
          generalize t.1 (6 + u) = y at *
          unfold E_X9_republic
          repeat (first | (with_reducible refine (if_pos ?_).trans ?_; focus (simp (disch := omega) only [zi_f, zi_0, zi_1, zi_31, zi_all, zi_8, zi_16, zi_add, zi_sub, zi_mul, zi_neg, zi_lt, zi_le, zi_eq, zi_div, zi_t, zi_n, xb_I, xb_J, xb_V, xb_s, if_pos, if_neg, if_true, if_false, true_and, and_true, true_or, or_true, false_or, or_false, not_true, not_false_iff, zb_z, zb_o, zb_ft, tn_0, tn_1, tn_2, tn_3, tn_c, Int.reduceToNat, te_0, te_1, tk_0, tk_1, tk_m, ts_1, or_0, bp_f, sX_x0 hX, sX_xr2 hX, sX_xk2 hX, sX_xl2 hX, M_tt, M_tf, M_r1 hX, M_r2 hX, M_r3 hX, M_r4 hX, M_r5 hX, M_an hX, sX_xr6 hX, sX_xr5 hX, hz, e1, hcp, k61] <;> omega)) | (with_reducible refine (if_neg ?_).trans ?_; focus (simp (disch := omega) only [zi_f, zi_0, zi_1, zi_31, zi_all, zi_8, zi_16, zi_add, zi_sub, zi_mul, zi_neg, zi_lt, zi_le, zi_eq, zi_div, zi_t, zi_n, xb_I, xb_J, xb_V, xb_s, if_pos, if_neg, if_true, if_false, true_and, and_true, true_or, or_true, false_or, or_false, not_true, not_false_iff, zb_z, zb_o, zb_ft, tn_0, tn_1, tn_2, tn_3, tn_c, Int.reduceToNat, te_0, te_1, tk_0, tk_1, tk_m, ts_1, or_0, bp_f, sX_x0 hX, sX_xr2 hX, sX_xk2 hX, sX_xl2 hX, M_tt, M_tf, M_r1 hX, M_r2 hX, M_r3 hX, M_r4 hX, M_r5 hX, M_an hX, sX_xr6 hX, sX_xr5 hX, hz, e1, hcp, k61] <;> omega)) | ((conv => lhs; arg 1; simp (disch := omega) only [zi_f, zi_0, zi_1, zi_31, zi_all, zi_8, zi_16, zi_add, zi_sub, zi_mul, zi_neg, zi_lt, zi_le, zi_eq, zi_div, zi_t, zi_n, xb_I, xb_J, xb_V, xb_s, if_pos, if_neg, if_true, if_false, true_and, and_true, true_or, or_true, false_or, or_false, not_true, not_false_iff, zb_z, zb_o, zb_ft, tn_0, tn_1, tn_2, tn_3, tn_c, Int.reduceToNat, te_0, te_1, tk_0, tk_1, tk_m, ts_1, or_0, bp_f, sX_x0 hX, sX_xr2 hX, sX_xk2 hX, sX_xl2 hX, M_tt, M_tf, M_r1 hX, M_r2 hX, M_r3 hX, M_r4 hX, M_r5 hX, M_an hX, sX_xr6 hX, sX_xr5 hX, hz, e1, hcp, k61]); first | with_reducible refine xb_I.trans ?_ | with_reducible refine xb_V.trans ?_ | with_reducible refine xb_J.trans ?_ | with_reducible refine xb_s.trans ?_))
          first | (simp (disch := omega) only [zi_f, zi_0, zi_1, zi_31, zi_all, zi_8, zi_16, zi_add, zi_sub, zi_mul, zi_neg, zi_lt, zi_le, zi_eq, zi_div, zi_t, zi_n, xb_I, xb_J, xb_V, xb_s, if_pos, if_neg, if_true, if_false, true_and, and_true, true_or, or_true, false_or, or_false, not_true, not_false_iff, zb_z, zb_o, zb_ft, tn_0, tn_1, tn_2, tn_3, tn_c, Int.reduceToNat, te_0, te_1, tk_0, tk_1, tk_m, ts_1, or_0, bp_f, vI, sX_x0 hX, sX_xr2 hX, sX_xk2 hX, sX_xl2 hX, M_tt, M_tf, M_r1 hX, M_r2 hX, M_r3 hX, M_r4 hX, M_r5 hX, M_an hX, sX_xr6 hX, sX_xr5 hX, hz, e1, hcp, k61]; done) | rfl | (simp (disch := omega) only [zi_f, zi_0, zi_1, zi_31, zi_all, zi_8, zi_16, zi_add, zi_sub, zi_mul, zi_neg, zi_lt, zi_le, zi_eq, zi_div, zi_t, zi_n, xb_I, xb_J, xb_V, xb_s, if_pos, if_neg, if_true, if_false, true_and, and_true, true_or, or_true, false_or, or_false, not_true, not_false_iff, zb_z, zb_o, zb_ft, tn_0, tn_1, tn_2, tn_3, tn_c, Int.reduceToNat, te_0, te_1, tk_0, tk_1, tk_m, ts_1, or_0, bp_f, vI, sX_x0 hX, sX_xr2 hX, sX_xk2 hX, sX_xl2 hX, M_tt, M_tf, M_r1 hX, M_r2 hX, M_r3 hX, M_r4 hX, M_r5 hX, M_an hX, sX_xr6 hX, sX_xr5 hX, hz, e1, hcp, k61]; rfl)
        · rw [wr_o (by omega), wI_o (by omega)]; exact r21 j hj
        · rw [wr_o (by omega), mw_eq]; rfl
        · rw [wr_if, if_pos (by omega)]
        · obtain ⟨y1, y2, y3, y4, y5⟩ := hC.2.2.2
          exact ⟨by rw [G2 13 (by omega) (by omega) (by omega)]; exact y1, fun j hj => by rw [G1 28 (by omega) (by omega) (by omega) (by omega)]; exact y2 j hj, by rw [G2 15 (by omega) (by omega) (by omega)]; exact y3, by rw [G3]; exact y4, by rw [G3]; exact y5⟩
      · rw [if_neg h3]
        refine ⟨m1, ?_, MM_FM hC e3, fun b hb => ⟨e3.1 b (by omega) (by omega), by rw [e3.2.2]⟩⟩
        clear e2 e3
        have hz2 : 0 ≤ t.1 (6 + u) ∧ t.1 (6 + u) ≤ 60 := by omega
        generalize (rdT t u).1.1 = x at *
        generalize t.1 (6 + u) = y at *
        unfold E_X9_republic
        repeat (first | (with_reducible refine (if_pos ?_).trans ?_; focus (simp (disch := omega) only [zi_f, zi_0, zi_1, zi_31, zi_all, zi_8, zi_16, zi_add, zi_sub, zi_mul, zi_neg, zi_lt, zi_le, zi_eq, zi_div, zi_t, zi_n, xb_I, xb_J, xb_V, xb_s, if_pos, if_neg, if_true, if_false, true_and, and_true, true_or, or_true, false_or, or_false, not_true, not_false_iff, zb_z, zb_o, zb_ft, tn_0, tn_1, tn_2, tn_3, tn_c, Int.reduceToNat, te_0, te_1, tk_0, tk_1, tk_m, ts_1, or_0, bp_f, sX_x0 hX, sX_xr2 hX, sX_xk2 hX, sX_xl2 hX, M_tt, M_tf, M_r1 hX, M_r2 hX, M_r3 hX, M_r4 hX, M_r5 hX, M_an hX, hz, e1] <;> omega)) | (with_reducible refine (if_neg ?_).trans ?_; focus (simp (disch := omega) only [zi_f, zi_0, zi_1, zi_31, zi_all, zi_8, zi_16, zi_add, zi_sub, zi_mul, zi_neg, zi_lt, zi_le, zi_eq, zi_div, zi_t, zi_n, xb_I, xb_J, xb_V, xb_s, if_pos, if_neg, if_true, if_false, true_and, and_true, true_or, or_true, false_or, or_false, not_true, not_false_iff, zb_z, zb_o, zb_ft, tn_0, tn_1, tn_2, tn_3, tn_c, Int.reduceToNat, te_0, te_1, tk_0, tk_1, tk_m, ts_1, or_0, bp_f, sX_x0 hX, sX_xr2 hX, sX_xk2 hX, sX_xl2 hX, M_tt, M_tf, M_r1 hX, M_r2 hX, M_r3 hX, M_r4 hX, M_r5 hX, M_an hX, hz, e1] <;> omega)) | ((conv => lhs; arg 1; simp (disch := omega) only [zi_f, zi_0, zi_1, zi_31, zi_all, zi_8, zi_16, zi_add, zi_sub, zi_mul, zi_neg, zi_lt, zi_le, zi_eq, zi_div, zi_t, zi_n, xb_I, xb_J, xb_V, xb_s, if_pos, if_neg, if_true, if_false, true_and, and_true, true_or, or_true, false_or, or_false, not_true, not_false_iff, zb_z, zb_o, zb_ft, tn_0, tn_1, tn_2, tn_3, tn_c, Int.reduceToNat, te_0, te_1, tk_0, tk_1, tk_m, ts_1, or_0, bp_f, sX_x0 hX, sX_xr2 hX, sX_xk2 hX, sX_xl2 hX, M_tt, M_tf, M_r1 hX, M_r2 hX, M_r3 hX, M_r4 hX, M_r5 hX, M_an hX, hz, e1]); first | with_reducible refine xb_I.trans ?_ | with_reducible refine xb_V.trans ?_ | with_reducible refine xb_J.trans ?_ | with_reducible refine xb_s.trans ?_))
        first | (simp (disch := omega) only [zi_f, zi_0, zi_1, zi_31, zi_all, zi_8, zi_16, zi_add, zi_sub, zi_mul, zi_neg, zi_lt, zi_le, zi_eq, zi_div, zi_t, zi_n, xb_I, xb_J, xb_V, xb_s, if_pos, if_neg, if_true, if_false, true_and, and_true, true_or, or_true, false_or, or_false, not_true, not_false_iff, zb_z, zb_o, zb_ft, tn_0, tn_1, tn_2, tn_3, tn_c, Int.reduceToNat, te_0, te_1, tk_0, tk_1, tk_m, ts_1, or_0, bp_f, vI, sX_x0 hX, sX_xr2 hX, sX_xk2 hX, sX_xl2 hX, M_tt, M_tf, M_r1 hX, M_r2 hX, M_r3 hX, M_r4 hX, M_r5 hX, M_an hX, hz, e1]; done) | rfl | (simp (disch := omega) only [zi_f, zi_0, zi_1, zi_31, zi_all, zi_8, zi_16, zi_add, zi_sub, zi_mul, zi_neg, zi_lt, zi_le, zi_eq, zi_div, zi_t, zi_n, xb_I, xb_J, xb_V, xb_s, if_pos, if_neg, if_true, if_false, true_and, and_true, true_or, or_true, false_or, or_false, not_true, not_false_iff, zb_z, zb_o, zb_ft, tn_0, tn_1, tn_2, tn_3, tn_c, Int.reduceToNat, te_0, te_1, tk_0, tk_1, tk_m, ts_1, or_0, bp_f, vI, sX_x0 hX, sX_xr2 hX, sX_xk2 hX, sX_xl2 hX, M_tt, M_tf, M_r1 hX, M_r2 hX, M_r3 hX, M_r4 hX, M_r5 hX, M_an hX, hz, e1]; rfl)
  · rw [if_neg h1]
    refine ⟨m, ?_, hC, fun b _ => Cself⟩
    unfold E_X9_republic
    repeat (first | (with_reducible refine (if_pos ?_).trans ?_; focus (simp (disch := omega) only [zi_f, zi_0, zi_1, zi_31, zi_all, zi_8, zi_16, zi_add, zi_sub, zi_mul, zi_neg, zi_lt, zi_le, zi_eq, zi_div, zi_t, zi_n, xb_I, xb_J, xb_V, xb_s, if_pos, if_neg, if_true, if_false, true_and, and_true, true_or, or_true, false_or, or_false, not_true, not_false_iff, zb_z, zb_o, zb_ft, tn_0, tn_1, tn_2, tn_3, tn_c, Int.reduceToNat, te_0, te_1, tk_0, tk_1, tk_m, ts_1, or_0, bp_f, sX_x0 hX, sX_xr2 hX, sX_xk2 hX, sX_xl2 hX, M_tt, M_tf, M_r1 hX, M_r2 hX, M_r3 hX, M_r4 hX, M_r5 hX, M_an hX] <;> omega)) | (with_reducible refine (if_neg ?_).trans ?_; focus (simp (disch := omega) only [zi_f, zi_0, zi_1, zi_31, zi_all, zi_8, zi_16, zi_add, zi_sub, zi_mul, zi_neg, zi_lt, zi_le, zi_eq, zi_div, zi_t, zi_n, xb_I, xb_J, xb_V, xb_s, if_pos, if_neg, if_true, if_false, true_and, and_true, true_or, or_true, false_or, or_false, not_true, not_false_iff, zb_z, zb_o, zb_ft, tn_0, tn_1, tn_2, tn_3, tn_c, Int.reduceToNat, te_0, te_1, tk_0, tk_1, tk_m, ts_1, or_0, bp_f, sX_x0 hX, sX_xr2 hX, sX_xk2 hX, sX_xl2 hX, M_tt, M_tf, M_r1 hX, M_r2 hX, M_r3 hX, M_r4 hX, M_r5 hX, M_an hX] <;> omega)) | ((conv => lhs; arg 1; simp (disch := omega) only [zi_f, zi_0, zi_1, zi_31, zi_all, zi_8, zi_16, zi_add, zi_sub, zi_mul, zi_neg, zi_lt, zi_le, zi_eq, zi_div, zi_t, zi_n, xb_I, xb_J, xb_V, xb_s, if_pos, if_neg, if_true, if_false, true_and, and_true, true_or, or_true, false_or, or_false, not_true, not_false_iff, zb_z, zb_o, zb_ft, tn_0, tn_1, tn_2, tn_3, tn_c, Int.reduceToNat, te_0, te_1, tk_0, tk_1, tk_m, ts_1, or_0, bp_f, sX_x0 hX, sX_xr2 hX, sX_xk2 hX, sX_xl2 hX, M_tt, M_tf, M_r1 hX, M_r2 hX, M_r3 hX, M_r4 hX, M_r5 hX, M_an hX]); first | with_reducible refine xb_I.trans ?_ | with_reducible refine xb_V.trans ?_ | with_reducible refine xb_J.trans ?_ | with_reducible refine xb_s.trans ?_))
    first | (simp (disch := omega) only [zi_f, zi_0, zi_1, zi_31, zi_all, zi_8, zi_16, zi_add, zi_sub, zi_mul, zi_neg, zi_lt, zi_le, zi_eq, zi_div, zi_t, zi_n, xb_I, xb_J, xb_V, xb_s, if_pos, if_neg, if_true, if_false, true_and, and_true, true_or, or_true, false_or, or_false, not_true, not_false_iff, zb_z, zb_o, zb_ft, tn_0, tn_1, tn_2, tn_3, tn_c, Int.reduceToNat, te_0, te_1, tk_0, tk_1, tk_m, ts_1, or_0, bp_f, vI, sX_x0 hX, sX_xr2 hX, sX_xk2 hX, sX_xl2 hX, M_tt, M_tf, M_r1 hX, M_r2 hX, M_r3 hX, M_r4 hX, M_r5 hX, M_an hX]; done) | rfl | (simp (disch := omega) only [zi_f, zi_0, zi_1, zi_31, zi_all, zi_8, zi_16, zi_add, zi_sub, zi_mul, zi_neg, zi_lt, zi_le, zi_eq, zi_div, zi_t, zi_n, xb_I, xb_J, xb_V, xb_s, if_pos, if_neg, if_true, if_false, true_and, and_true, true_or, or_true, false_or, or_false, not_true, not_false_iff, zb_z, zb_o, zb_ft, tn_0, tn_1, tn_2, tn_3, tn_c, Int.reduceToNat, te_0, te_1, tk_0, tk_1, tk_m, ts_1, or_0, bp_f, vI, sX_x0 hX, sX_xr2 hX, sX_xk2 hX, sX_xl2 hX, M_tt, M_tf, M_r1 hX, M_r2 hX, M_r3 hX, M_r4 hX, M_r5 hX, M_an hX]; rfl)
end
