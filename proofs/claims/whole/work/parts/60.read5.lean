/-! the reference's reading, whole -/
theorem Row_up {S : xi_S} {m : xi_M} {w : Nat → Int} {a k : Nat} {v : Int} (h : Row S m a w) : Row S (xi_wI m a k (zi v)) a (udW w k v) := by
  refine ⟨h.1, h.2.1, fun j hj => ?_⟩
  by_cases e : j = k
  · rw [e, mw_eq, ud_e]
  · rw [mw_ne (fun x => e x.2), ud_n e]; exact h.2.2 j hj
theorem Row_fr {S : xi_S} {m m1 : xi_M} {w : Nat → Int} {a : Nat} (h : Row S m a w) (h2 : m1.1 a = m.1 a) : Row S m1 a w := ⟨h.1, h.2.1, by rw [h2]; exact h.2.2⟩
theorem tw_f {z : Nat} {c : Nat → Int} {lo : Int} {s : Int × Nat} (h : ¬ s.1 = -9) : twS z c lo s = s := by unfold twS; rw [fg_f h, fg_f h, if_neg (fun q => h q.1)]
section
variable {S : xi_S} {m : xi_M} {c w : Nat → Int} {u z : Nat}
set_option maxHeartbeats 8000000 in
theorem M_rdF (hX : ShX S) (hu : u < 4) (hT : Tm m u z c) {a i : Nat} (ha : a < z) (h1 : m.1 15 18 = zi (a : Nat)) (h2 : m.1 15 19 = zi (-9)) (hr : Row S m 22 w) (hw : w 1 = i) (hi : i ≤ 6) (hk : knP (lkP z c a) = -9 ∨ 6 ≤ i) : ∃ m1, E_X9_readsPlayer S 15 (zi (u : Nat)) m = some (none, m1) ∧ RP m1 ((a : Int), a) 200 ∧ FM m m1 := by
  have hz60 := hT.1.1
  have hlk := M_look hX hu hT (a := a) (by omega) h1
  have hlb := lk_b (z := z) hT.1.2 a
  have hkd := M_kindOf (S := S) (m := m) hlb
  have hkb := kn_b (lkP z c a)
  have h22 : m.1 22 1 = zi (i : Nat) := by rw [hr.2.2 1 (by omega), hw]
  have hfl := M_failN hX h2 (zi (a : Nat))
  have k1 : (xi_wI m 15 19 (zi (a : Nat))).1 15 18 = zi (a : Nat) := by rw [mw_ne (by omega)]; exact h1
  have F0 : FM m (xi_wI (xi_wI m 15 19 (zi (a : Nat))) 15 18 (zi ((a : Int) + 1))) := FM_t (FM_w m (Or.inr rfl) _) (FM_w _ (Or.inl rfl) _)
  have n9 : ¬ (((a : Int), a) : Int × Nat).1 = -9 := by dsimp only; omega
  have P0 : PB z ((a : Int), a) := ⟨by dsimp only; omega, Or.inr (by dsimp only; omega)⟩
  have R0 : RP (xi_wI (xi_wI m 15 19 (zi (a : Nat))) 15 18 (zi ((a : Int) + 1))) ((a : Int), a) 61 := ⟨fun y => absurd y n9, by rw [mw_ne (by omega), mw_eq], ⟨a + 1, by omega, by rw [mw_eq, show ((a + 1 : Nat) : Int) = (a : Int) + 1 by omega]⟩⟩
  obtain ⟨mb, b1, b2, b3, b4⟩ := M_figureR hX hu (Tm_f hT F0) (by omega) (by omega) R0 P0 (lo := 0) (hi := 1) (by omega) (by omega)
  rw [fg_f n9] at b2
  have Fb := FM_t F0 b3
  obtain ⟨md, d1, d2, d3, d4⟩ := M_placeR hX hu (Tm_f hT Fb) (by omega) (by omega) b2 P0 (lo := 0) (by omega) (v2 := zi 0) (fun _ => rfl)
  rw [tw_f n9] at d2
  have Fd := FM_t Fb d3
  obtain ⟨mg, g1, g2, g3, g4⟩ := M_figureR hX hu (Tm_f hT Fd) (by omega) (by omega) d2 P0 (lo := 1) (hi := 9) (by omega) (by omega)
  rw [fg_f n9] at g2
  have gw : mg.1 15 19 = zi (a : Nat) := g2.2.1
  refine ⟨mg, ?_, RP_B g2 (by omega), FM_t Fd g3⟩
  clear b2 b3 b4 d2 d3 d4 g2 g3 g4 R0 F0 Fb Fd hT hr
  generalize fgV z c 0 1 ((a : Int), a) = x1 at *
  generalize twV z c ((a : Int), a) = x2 at *
  generalize fgV z c 1 9 ((a : Int), a) = x3 at *
  generalize knP (lkP z c a) = kd at *
  generalize lkP z c a = x at *
  by_cases e : kd = -9
  · subst e
    by_cases e2 : 6 ≤ i
    · unfold E_X9_readsPlayer
      repeat (first | (with_reducible refine (if_pos ?_).trans ?_; focus (simp (disch := omega) only [zi_f, zi_0, zi_1, zi_31, zi_all, zi_8, zi_16, zi_add, zi_sub, zi_mul, zi_neg, zi_lt, zi_le, zi_eq, zi_div, zi_t, zi_n, xb_I, xb_J, xb_V, xb_s, if_pos, if_neg, if_true, if_false, true_and, and_true, true_or, or_true, false_or, or_false, not_true, not_false_iff, zb_z, zb_o, zb_ft, tn_0, tn_1, tn_2, tn_3, tn_c, Int.reduceToNat, te_0, te_1, tk_0, tk_1, tk_m, ts_1, or_0, bp_f, sX_x0 hX, sX_xr2 hX, sX_xr3 hX, sX_xr6 hX, sX_xk2 hX, sX_xl2 hX, sX_xk3 hX, sX_xl3 hX, sX_xk6 hX, sX_xl6 hX, zi_t, hlk, hkd, h22, h1, hfl, k1, b1, d1, g1, gw] <;> omega)) | (with_reducible refine (if_neg ?_).trans ?_; focus (simp (disch := omega) only [zi_f, zi_0, zi_1, zi_31, zi_all, zi_8, zi_16, zi_add, zi_sub, zi_mul, zi_neg, zi_lt, zi_le, zi_eq, zi_div, zi_t, zi_n, xb_I, xb_J, xb_V, xb_s, if_pos, if_neg, if_true, if_false, true_and, and_true, true_or, or_true, false_or, or_false, not_true, not_false_iff, zb_z, zb_o, zb_ft, tn_0, tn_1, tn_2, tn_3, tn_c, Int.reduceToNat, te_0, te_1, tk_0, tk_1, tk_m, ts_1, or_0, bp_f, sX_x0 hX, sX_xr2 hX, sX_xr3 hX, sX_xr6 hX, sX_xk2 hX, sX_xl2 hX, sX_xk3 hX, sX_xl3 hX, sX_xk6 hX, sX_xl6 hX, zi_t, hlk, hkd, h22, h1, hfl, k1, b1, d1, g1, gw] <;> omega)) | ((conv => lhs; arg 1; simp (disch := omega) only [zi_f, zi_0, zi_1, zi_31, zi_all, zi_8, zi_16, zi_add, zi_sub, zi_mul, zi_neg, zi_lt, zi_le, zi_eq, zi_div, zi_t, zi_n, xb_I, xb_J, xb_V, xb_s, if_pos, if_neg, if_true, if_false, true_and, and_true, true_or, or_true, false_or, or_false, not_true, not_false_iff, zb_z, zb_o, zb_ft, tn_0, tn_1, tn_2, tn_3, tn_c, Int.reduceToNat, te_0, te_1, tk_0, tk_1, tk_m, ts_1, or_0, bp_f, sX_x0 hX, sX_xr2 hX, sX_xr3 hX, sX_xr6 hX, sX_xk2 hX, sX_xl2 hX, sX_xk3 hX, sX_xl3 hX, sX_xk6 hX, sX_xl6 hX, zi_t, hlk, hkd, h22, h1, hfl, k1, b1, d1, g1, gw]); first | with_reducible refine xb_I.trans ?_ | with_reducible refine xb_V.trans ?_ | with_reducible refine xb_J.trans ?_ | with_reducible refine xb_s.trans ?_))
      first | (simp (disch := omega) only [zi_f, zi_0, zi_1, zi_31, zi_all, zi_8, zi_16, zi_add, zi_sub, zi_mul, zi_neg, zi_lt, zi_le, zi_eq, zi_div, zi_t, zi_n, xb_I, xb_J, xb_V, xb_s, if_pos, if_neg, if_true, if_false, true_and, and_true, true_or, or_true, false_or, or_false, not_true, not_false_iff, zb_z, zb_o, zb_ft, tn_0, tn_1, tn_2, tn_3, tn_c, Int.reduceToNat, te_0, te_1, tk_0, tk_1, tk_m, ts_1, or_0, bp_f, vI, sX_x0 hX, sX_xr2 hX, sX_xr3 hX, sX_xr6 hX, sX_xk2 hX, sX_xl2 hX, sX_xk3 hX, sX_xl3 hX, sX_xk6 hX, sX_xl6 hX, zi_t, hlk, hkd, h22, h1, hfl, k1, b1, d1, g1, gw]; done) | rfl | (simp (disch := omega) only [zi_f, zi_0, zi_1, zi_31, zi_all, zi_8, zi_16, zi_add, zi_sub, zi_mul, zi_neg, zi_lt, zi_le, zi_eq, zi_div, zi_t, zi_n, xb_I, xb_J, xb_V, xb_s, if_pos, if_neg, if_true, if_false, true_and, and_true, true_or, or_true, false_or, or_false, not_true, not_false_iff, zb_z, zb_o, zb_ft, tn_0, tn_1, tn_2, tn_3, tn_c, Int.reduceToNat, te_0, te_1, tk_0, tk_1, tk_m, ts_1, or_0, bp_f, vI, sX_x0 hX, sX_xr2 hX, sX_xr3 hX, sX_xr6 hX, sX_xk2 hX, sX_xl2 hX, sX_xk3 hX, sX_xl3 hX, sX_xk6 hX, sX_xl6 hX, zi_t, hlk, hkd, h22, h1, hfl, k1, b1, d1, g1, gw]; rfl)
    · unfold E_X9_readsPlayer
      repeat (first | (with_reducible refine (if_pos ?_).trans ?_; focus (simp (disch := omega) only [zi_f, zi_0, zi_1, zi_31, zi_all, zi_8, zi_16, zi_add, zi_sub, zi_mul, zi_neg, zi_lt, zi_le, zi_eq, zi_div, zi_t, zi_n, xb_I, xb_J, xb_V, xb_s, if_pos, if_neg, if_true, if_false, true_and, and_true, true_or, or_true, false_or, or_false, not_true, not_false_iff, zb_z, zb_o, zb_ft, tn_0, tn_1, tn_2, tn_3, tn_c, Int.reduceToNat, te_0, te_1, tk_0, tk_1, tk_m, ts_1, or_0, bp_f, sX_x0 hX, sX_xr2 hX, sX_xr3 hX, sX_xr6 hX, sX_xk2 hX, sX_xl2 hX, sX_xk3 hX, sX_xl3 hX, sX_xk6 hX, sX_xl6 hX, zi_t, hlk, hkd, h22, h1, hfl, k1, b1, d1, g1, gw] <;> omega)) | (with_reducible refine (if_neg ?_).trans ?_; focus (simp (disch := omega) only [zi_f, zi_0, zi_1, zi_31, zi_all, zi_8, zi_16, zi_add, zi_sub, zi_mul, zi_neg, zi_lt, zi_le, zi_eq, zi_div, zi_t, zi_n, xb_I, xb_J, xb_V, xb_s, if_pos, if_neg, if_true, if_false, true_and, and_true, true_or, or_true, false_or, or_false, not_true, not_false_iff, zb_z, zb_o, zb_ft, tn_0, tn_1, tn_2, tn_3, tn_c, Int.reduceToNat, te_0, te_1, tk_0, tk_1, tk_m, ts_1, or_0, bp_f, sX_x0 hX, sX_xr2 hX, sX_xr3 hX, sX_xr6 hX, sX_xk2 hX, sX_xl2 hX, sX_xk3 hX, sX_xl3 hX, sX_xk6 hX, sX_xl6 hX, zi_t, hlk, hkd, h22, h1, hfl, k1, b1, d1, g1, gw] <;> omega)) | ((conv => lhs; arg 1; simp (disch := omega) only [zi_f, zi_0, zi_1, zi_31, zi_all, zi_8, zi_16, zi_add, zi_sub, zi_mul, zi_neg, zi_lt, zi_le, zi_eq, zi_div, zi_t, zi_n, xb_I, xb_J, xb_V, xb_s, if_pos, if_neg, if_true, if_false, true_and, and_true, true_or, or_true, false_or, or_false, not_true, not_false_iff, zb_z, zb_o, zb_ft, tn_0, tn_1, tn_2, tn_3, tn_c, Int.reduceToNat, te_0, te_1, tk_0, tk_1, tk_m, ts_1, or_0, bp_f, sX_x0 hX, sX_xr2 hX, sX_xr3 hX, sX_xr6 hX, sX_xk2 hX, sX_xl2 hX, sX_xk3 hX, sX_xl3 hX, sX_xk6 hX, sX_xl6 hX, zi_t, hlk, hkd, h22, h1, hfl, k1, b1, d1, g1, gw]); first | with_reducible refine xb_I.trans ?_ | with_reducible refine xb_V.trans ?_ | with_reducible refine xb_J.trans ?_ | with_reducible refine xb_s.trans ?_))
      first | (simp (disch := omega) only [zi_f, zi_0, zi_1, zi_31, zi_all, zi_8, zi_16, zi_add, zi_sub, zi_mul, zi_neg, zi_lt, zi_le, zi_eq, zi_div, zi_t, zi_n, xb_I, xb_J, xb_V, xb_s, if_pos, if_neg, if_true, if_false, true_and, and_true, true_or, or_true, false_or, or_false, not_true, not_false_iff, zb_z, zb_o, zb_ft, tn_0, tn_1, tn_2, tn_3, tn_c, Int.reduceToNat, te_0, te_1, tk_0, tk_1, tk_m, ts_1, or_0, bp_f, vI, sX_x0 hX, sX_xr2 hX, sX_xr3 hX, sX_xr6 hX, sX_xk2 hX, sX_xl2 hX, sX_xk3 hX, sX_xl3 hX, sX_xk6 hX, sX_xl6 hX, zi_t, hlk, hkd, h22, h1, hfl, k1, b1, d1, g1, gw]; done) | rfl | (simp (disch := omega) only [zi_f, zi_0, zi_1, zi_31, zi_all, zi_8, zi_16, zi_add, zi_sub, zi_mul, zi_neg, zi_lt, zi_le, zi_eq, zi_div, zi_t, zi_n, xb_I, xb_J, xb_V, xb_s, if_pos, if_neg, if_true, if_false, true_and, and_true, true_or, or_true, false_or, or_false, not_true, not_false_iff, zb_z, zb_o, zb_ft, tn_0, tn_1, tn_2, tn_3, tn_c, Int.reduceToNat, te_0, te_1, tk_0, tk_1, tk_m, ts_1, or_0, bp_f, vI, sX_x0 hX, sX_xr2 hX, sX_xr3 hX, sX_xr6 hX, sX_xk2 hX, sX_xl2 hX, sX_xk3 hX, sX_xl3 hX, sX_xk6 hX, sX_xl6 hX, zi_t, hlk, hkd, h22, h1, hfl, k1, b1, d1, g1, gw]; rfl)
  · have e2 : 6 ≤ i := hk.resolve_left e
    unfold E_X9_readsPlayer
    repeat (first | (with_reducible refine (if_pos ?_).trans ?_; focus (simp (disch := omega) only [zi_f, zi_0, zi_1, zi_31, zi_all, zi_8, zi_16, zi_add, zi_sub, zi_mul, zi_neg, zi_lt, zi_le, zi_eq, zi_div, zi_t, zi_n, xb_I, xb_J, xb_V, xb_s, if_pos, if_neg, if_true, if_false, true_and, and_true, true_or, or_true, false_or, or_false, not_true, not_false_iff, zb_z, zb_o, zb_ft, tn_0, tn_1, tn_2, tn_3, tn_c, Int.reduceToNat, te_0, te_1, tk_0, tk_1, tk_m, ts_1, or_0, bp_f, sX_x0 hX, sX_xr2 hX, sX_xr3 hX, sX_xr6 hX, sX_xk2 hX, sX_xl2 hX, sX_xk3 hX, sX_xl3 hX, sX_xk6 hX, sX_xl6 hX, zi_t, hlk, hkd, h22, h1, hfl, k1, b1, d1, g1, gw] <;> omega)) | (with_reducible refine (if_neg ?_).trans ?_; focus (simp (disch := omega) only [zi_f, zi_0, zi_1, zi_31, zi_all, zi_8, zi_16, zi_add, zi_sub, zi_mul, zi_neg, zi_lt, zi_le, zi_eq, zi_div, zi_t, zi_n, xb_I, xb_J, xb_V, xb_s, if_pos, if_neg, if_true, if_false, true_and, and_true, true_or, or_true, false_or, or_false, not_true, not_false_iff, zb_z, zb_o, zb_ft, tn_0, tn_1, tn_2, tn_3, tn_c, Int.reduceToNat, te_0, te_1, tk_0, tk_1, tk_m, ts_1, or_0, bp_f, sX_x0 hX, sX_xr2 hX, sX_xr3 hX, sX_xr6 hX, sX_xk2 hX, sX_xl2 hX, sX_xk3 hX, sX_xl3 hX, sX_xk6 hX, sX_xl6 hX, zi_t, hlk, hkd, h22, h1, hfl, k1, b1, d1, g1, gw] <;> omega)) | ((conv => lhs; arg 1; simp (disch := omega) only [zi_f, zi_0, zi_1, zi_31, zi_all, zi_8, zi_16, zi_add, zi_sub, zi_mul, zi_neg, zi_lt, zi_le, zi_eq, zi_div, zi_t, zi_n, xb_I, xb_J, xb_V, xb_s, if_pos, if_neg, if_true, if_false, true_and, and_true, true_or, or_true, false_or, or_false, not_true, not_false_iff, zb_z, zb_o, zb_ft, tn_0, tn_1, tn_2, tn_3, tn_c, Int.reduceToNat, te_0, te_1, tk_0, tk_1, tk_m, ts_1, or_0, bp_f, sX_x0 hX, sX_xr2 hX, sX_xr3 hX, sX_xr6 hX, sX_xk2 hX, sX_xl2 hX, sX_xk3 hX, sX_xl3 hX, sX_xk6 hX, sX_xl6 hX, zi_t, hlk, hkd, h22, h1, hfl, k1, b1, d1, g1, gw]); first | with_reducible refine xb_I.trans ?_ | with_reducible refine xb_V.trans ?_ | with_reducible refine xb_J.trans ?_ | with_reducible refine xb_s.trans ?_))
    first | (simp (disch := omega) only [zi_f, zi_0, zi_1, zi_31, zi_all, zi_8, zi_16, zi_add, zi_sub, zi_mul, zi_neg, zi_lt, zi_le, zi_eq, zi_div, zi_t, zi_n, xb_I, xb_J, xb_V, xb_s, if_pos, if_neg, if_true, if_false, true_and, and_true, true_or, or_true, false_or, or_false, not_true, not_false_iff, zb_z, zb_o, zb_ft, tn_0, tn_1, tn_2, tn_3, tn_c, Int.reduceToNat, te_0, te_1, tk_0, tk_1, tk_m, ts_1, or_0, bp_f, vI, sX_x0 hX, sX_xr2 hX, sX_xr3 hX, sX_xr6 hX, sX_xk2 hX, sX_xl2 hX, sX_xk3 hX, sX_xl3 hX, sX_xk6 hX, sX_xl6 hX, zi_t, hlk, hkd, h22, h1, hfl, k1, b1, d1, g1, gw]; done) | rfl | (simp (disch := omega) only [zi_f, zi_0, zi_1, zi_31, zi_all, zi_8, zi_16, zi_add, zi_sub, zi_mul, zi_neg, zi_lt, zi_le, zi_eq, zi_div, zi_t, zi_n, xb_I, xb_J, xb_V, xb_s, if_pos, if_neg, if_true, if_false, true_and, and_true, true_or, or_true, false_or, or_false, not_true, not_false_iff, zb_z, zb_o, zb_ft, tn_0, tn_1, tn_2, tn_3, tn_c, Int.reduceToNat, te_0, te_1, tk_0, tk_1, tk_m, ts_1, or_0, bp_f, vI, sX_x0 hX, sX_xr2 hX, sX_xr3 hX, sX_xr6 hX, sX_xk2 hX, sX_xl2 hX, sX_xk3 hX, sX_xl3 hX, sX_xk6 hX, sX_xl6 hX, zi_t, hlk, hkd, h22, h1, hfl, k1, b1, d1, g1, gw]; rfl)

set_option maxHeartbeats 8000000 in
theorem M_rdO (hX : ShX S) (hu : u < 4) (hT : Tm m u z c) {a i : Nat} (ha : a < z) (h1 : m.1 15 18 = zi (a : Nat)) (h2 : m.1 15 19 = zi (-9)) (hr : Row S m 22 w) (hw : w 1 = i) (hi : i < 6) (hk : ¬ knP (lkP z c a) = -9) : ∃ m1, E_X9_readsPlayer S 15 (zi (u : Nat)) m = some (none, m1) ∧ RP m1 (p5 z c (-9, a)) 200 ∧ ((p5 z c (-9, a)).1 = -9 → Row S m1 22 (plW z c i (-9, a) w)) ∧ FM m m1 := by
  have hz60 := hT.1.1
  have hlk := M_look hX hu hT (a := a) (by omega) h1
  have hlb := lk_b (z := z) hT.1.2 a
  have hkd := M_kindOf (S := S) (m := m) hlb
  have hkb := (kn_b (lkP z c a)).resolve_left hk
  have h22 : m.1 22 1 = zi (i : Nat) := by rw [hr.2.2 1 (by omega), hw]
  have F0 : FM m (xi_wI m 15 18 (zi ((a : Int) + 1))) := FM_w _ (Or.inl rfl) _
  have P0 : PB z (p2 (-9, a)) := ⟨ha, Or.inl rfl⟩
  have R0 : RP (xi_wI m 15 18 (zi ((a : Int) + 1))) (p2 (-9, a)) 61 := ⟨fun _ => by rw [mw_eq]; show _ = zi ((a + 1 : Nat) : Int); rw [show ((a + 1 : Nat) : Int) = (a : Int) + 1 by omega], by rw [mw_ne (by omega)]; exact h2, ⟨a + 1, by omega, by rw [mw_eq, show ((a + 1 : Nat) : Int) = (a : Int) + 1 by omega]⟩⟩
  obtain ⟨mb, b1, b2, b3, b4⟩ := M_figureR hX hu (Tm_f hT F0) (by omega) (by omega) R0 P0 (lo := 0) (hi := 1) (by omega) (by omega)
  have Fb := FM_t F0 b3
  have P1 := PB_fg (c := c) (lo := 0) (hi := 1) (by omega) P0
  obtain ⟨md, d1, d2, d3, d4⟩ := M_placeR hX hu (Tm_f hT Fb) (by omega) (by omega) b2 P1 (lo := 0) (by omega) (v2 := zi 0) (fun _ => rfl)
  have Fd := FM_t Fb d3
  have P2 := PB_tw (c := c) (lo := 0) P1
  obtain ⟨mg, g1, g2, g3, g4⟩ := M_figureR hX hu (Tm_f hT Fd) (by omega) (by omega) d2 P2 (lo := 1) (hi := 9) (by omega) (by omega)
  have Fg := FM_t Fd g3
  have P3 := PB_fg (c := c) (lo := 1) (hi := 9) (by omega) P2
  have gw : mg.1 15 19 = zi (p5 z c (-9, a)).1 := g2.2.1
  have g22 : mg.1 22 = m.1 22 := by rw [g4, d4, b4, wI_o (by omega)]
  have hP5 : (p5 z c (-9, a)).1 = -9 ∨ (0 ≤ (p5 z c (-9, a)).1 ∧ (p5 z c (-9, a)).1 ≤ z) := P3.2
  have g2' : RP mg (p5 z c (-9, a)) 200 := RP_B g2 (by omega)
  have hplw : plW z c i (-9, a) w = udW (udW (udW (udW (udW w (10 + 4 * i) (knP (lkP z c a))) (11 + 4 * i) (fgV z c 0 1 (p2 (-9, a)))) (12 + 4 * i) (twV z c (fgS z c 0 1 (p2 (-9, a))))) (13 + 4 * i) (fgV z c 1 9 (twS z c 0 (fgS z c 0 1 (p2 (-9, a)))))) 1 ((i : Int) + 1) := rfl
  rw [hplw]
  clear hplw b2 b3 b4 d2 d3 d4 g2 g3 g4 R0 F0 Fb Fd hT P0 P1 P2 P3
  generalize p5 z c (-9, a) = s5 at *
  generalize fgV z c 1 9 (twS z c 0 (fgS z c 0 1 (p2 (-9, a)))) = x3 at *
  generalize twV z c (fgS z c 0 1 (p2 (-9, a))) = x2 at *
  generalize fgV z c 0 1 (p2 (-9, a)) = x1 at *
  generalize knP (lkP z c a) = kd at *
  generalize lkP z c a = x at *
  by_cases e : s5.1 = -9
  · rw [e] at gw
    have rg : Row S mg 22 w := Row_fr hr g22
    have kk : (xi_wI (xi_wI (xi_wI (xi_wI mg 22 (10 + 4 * i) (zi kd)) 22 (11 + 4 * i) (zi x1)) 22 (12 + 4 * i) (zi x2)) 22 (13 + 4 * i) (zi x3)).1 22 1 = zi (i : Nat) := by rw [mw_ne (by omega), mw_ne (by omega), mw_ne (by omega), mw_ne (by omega), g22, h22]
    refine ⟨xi_wI (xi_wI (xi_wI (xi_wI (xi_wI mg 22 (10 + 4 * i) (zi kd)) 22 (11 + 4 * i) (zi x1)) 22 (12 + 4 * i) (zi x2)) 22 (13 + 4 * i) (zi x3)) 22 1 (zi ((i : Int) + 1)), ?_, ?_, fun _ => Row_up (Row_up (Row_up (Row_up (Row_up rg)))), FM_t (FM_t (FM_t (FM_t (FM_t Fg (FM_22 _ _ _)) (FM_22 _ _ _)) (FM_22 _ _ _)) (FM_22 _ _ _)) (FM_22 _ _ _)⟩
    · clear rg Fg g2' hr g22
      unfold E_X9_readsPlayer
      repeat (first | (with_reducible refine (if_pos ?_).trans ?_; focus (simp (disch := omega) only [zi_f, zi_0, zi_1, zi_31, zi_all, zi_8, zi_16, zi_add, zi_sub, zi_mul, zi_neg, zi_lt, zi_le, zi_eq, zi_div, zi_t, zi_n, xb_I, xb_J, xb_V, xb_s, if_pos, if_neg, if_true, if_false, true_and, and_true, true_or, or_true, false_or, or_false, not_true, not_false_iff, zb_z, zb_o, zb_ft, tn_0, tn_1, tn_2, tn_3, tn_c, Int.reduceToNat, te_0, te_1, tk_0, tk_1, tk_m, ts_1, or_0, bp_f, sX_x0 hX, sX_xr2 hX, sX_xr3 hX, sX_xr6 hX, sX_xk2 hX, sX_xl2 hX, sX_xk3 hX, sX_xl3 hX, sX_xk6 hX, sX_xl6 hX, zi_t, hlk, hkd, h22, h1, b1, d1, g1, gw, kk] <;> omega)) | (with_reducible refine (if_neg ?_).trans ?_; focus (simp (disch := omega) only [zi_f, zi_0, zi_1, zi_31, zi_all, zi_8, zi_16, zi_add, zi_sub, zi_mul, zi_neg, zi_lt, zi_le, zi_eq, zi_div, zi_t, zi_n, xb_I, xb_J, xb_V, xb_s, if_pos, if_neg, if_true, if_false, true_and, and_true, true_or, or_true, false_or, or_false, not_true, not_false_iff, zb_z, zb_o, zb_ft, tn_0, tn_1, tn_2, tn_3, tn_c, Int.reduceToNat, te_0, te_1, tk_0, tk_1, tk_m, ts_1, or_0, bp_f, sX_x0 hX, sX_xr2 hX, sX_xr3 hX, sX_xr6 hX, sX_xk2 hX, sX_xl2 hX, sX_xk3 hX, sX_xl3 hX, sX_xk6 hX, sX_xl6 hX, zi_t, hlk, hkd, h22, h1, b1, d1, g1, gw, kk] <;> omega)) | ((conv => lhs; arg 1; simp (disch := omega) only [zi_f, zi_0, zi_1, zi_31, zi_all, zi_8, zi_16, zi_add, zi_sub, zi_mul, zi_neg, zi_lt, zi_le, zi_eq, zi_div, zi_t, zi_n, xb_I, xb_J, xb_V, xb_s, if_pos, if_neg, if_true, if_false, true_and, and_true, true_or, or_true, false_or, or_false, not_true, not_false_iff, zb_z, zb_o, zb_ft, tn_0, tn_1, tn_2, tn_3, tn_c, Int.reduceToNat, te_0, te_1, tk_0, tk_1, tk_m, ts_1, or_0, bp_f, sX_x0 hX, sX_xr2 hX, sX_xr3 hX, sX_xr6 hX, sX_xk2 hX, sX_xl2 hX, sX_xk3 hX, sX_xl3 hX, sX_xk6 hX, sX_xl6 hX, zi_t, hlk, hkd, h22, h1, b1, d1, g1, gw, kk]); first | with_reducible refine xb_I.trans ?_ | with_reducible refine xb_V.trans ?_ | with_reducible refine xb_J.trans ?_ | with_reducible refine xb_s.trans ?_))
      first | (simp (disch := omega) only [zi_f, zi_0, zi_1, zi_31, zi_all, zi_8, zi_16, zi_add, zi_sub, zi_mul, zi_neg, zi_lt, zi_le, zi_eq, zi_div, zi_t, zi_n, xb_I, xb_J, xb_V, xb_s, if_pos, if_neg, if_true, if_false, true_and, and_true, true_or, or_true, false_or, or_false, not_true, not_false_iff, zb_z, zb_o, zb_ft, tn_0, tn_1, tn_2, tn_3, tn_c, Int.reduceToNat, te_0, te_1, tk_0, tk_1, tk_m, ts_1, or_0, bp_f, vI, sX_x0 hX, sX_xr2 hX, sX_xr3 hX, sX_xr6 hX, sX_xk2 hX, sX_xl2 hX, sX_xk3 hX, sX_xl3 hX, sX_xk6 hX, sX_xl6 hX, zi_t, hlk, hkd, h22, h1, b1, d1, g1, gw, kk]; done) | rfl | (simp (disch := omega) only [zi_f, zi_0, zi_1, zi_31, zi_all, zi_8, zi_16, zi_add, zi_sub, zi_mul, zi_neg, zi_lt, zi_le, zi_eq, zi_div, zi_t, zi_n, xb_I, xb_J, xb_V, xb_s, if_pos, if_neg, if_true, if_false, true_and, and_true, true_or, or_true, false_or, or_false, not_true, not_false_iff, zb_z, zb_o, zb_ft, tn_0, tn_1, tn_2, tn_3, tn_c, Int.reduceToNat, te_0, te_1, tk_0, tk_1, tk_m, ts_1, or_0, bp_f, vI, sX_x0 hX, sX_xr2 hX, sX_xr3 hX, sX_xr6 hX, sX_xk2 hX, sX_xl2 hX, sX_xk3 hX, sX_xl3 hX, sX_xk6 hX, sX_xl6 hX, zi_t, hlk, hkd, h22, h1, b1, d1, g1, gw, kk]; rfl)
    · have o15 : (xi_wI (xi_wI (xi_wI (xi_wI (xi_wI mg 22 (10 + 4 * i) (zi kd)) 22 (11 + 4 * i) (zi x1)) 22 (12 + 4 * i) (zi x2)) 22 (13 + 4 * i) (zi x3)) 22 1 (zi ((i : Int) + 1))).1 15 = mg.1 15 := by rw [wI_o (by omega), wI_o (by omega), wI_o (by omega), wI_o (by omega), wI_o (by omega)]
      unfold RP
      rw [o15]
      exact g2'
  · refine ⟨mg, ?_, g2', fun y => absurd y e, Fg⟩
    clear Fg g2' hr g22
    unfold E_X9_readsPlayer
    repeat (first | (with_reducible refine (if_pos ?_).trans ?_; focus (simp (disch := omega) only [zi_f, zi_0, zi_1, zi_31, zi_all, zi_8, zi_16, zi_add, zi_sub, zi_mul, zi_neg, zi_lt, zi_le, zi_eq, zi_div, zi_t, zi_n, xb_I, xb_J, xb_V, xb_s, if_pos, if_neg, if_true, if_false, true_and, and_true, true_or, or_true, false_or, or_false, not_true, not_false_iff, zb_z, zb_o, zb_ft, tn_0, tn_1, tn_2, tn_3, tn_c, Int.reduceToNat, te_0, te_1, tk_0, tk_1, tk_m, ts_1, or_0, bp_f, sX_x0 hX, sX_xr2 hX, sX_xr3 hX, sX_xr6 hX, sX_xk2 hX, sX_xl2 hX, sX_xk3 hX, sX_xl3 hX, sX_xk6 hX, sX_xl6 hX, zi_t, hlk, hkd, h22, h1, b1, d1, g1, gw] <;> omega)) | (with_reducible refine (if_neg ?_).trans ?_; focus (simp (disch := omega) only [zi_f, zi_0, zi_1, zi_31, zi_all, zi_8, zi_16, zi_add, zi_sub, zi_mul, zi_neg, zi_lt, zi_le, zi_eq, zi_div, zi_t, zi_n, xb_I, xb_J, xb_V, xb_s, if_pos, if_neg, if_true, if_false, true_and, and_true, true_or, or_true, false_or, or_false, not_true, not_false_iff, zb_z, zb_o, zb_ft, tn_0, tn_1, tn_2, tn_3, tn_c, Int.reduceToNat, te_0, te_1, tk_0, tk_1, tk_m, ts_1, or_0, bp_f, sX_x0 hX, sX_xr2 hX, sX_xr3 hX, sX_xr6 hX, sX_xk2 hX, sX_xl2 hX, sX_xk3 hX, sX_xl3 hX, sX_xk6 hX, sX_xl6 hX, zi_t, hlk, hkd, h22, h1, b1, d1, g1, gw] <;> omega)) | ((conv => lhs; arg 1; simp (disch := omega) only [zi_f, zi_0, zi_1, zi_31, zi_all, zi_8, zi_16, zi_add, zi_sub, zi_mul, zi_neg, zi_lt, zi_le, zi_eq, zi_div, zi_t, zi_n, xb_I, xb_J, xb_V, xb_s, if_pos, if_neg, if_true, if_false, true_and, and_true, true_or, or_true, false_or, or_false, not_true, not_false_iff, zb_z, zb_o, zb_ft, tn_0, tn_1, tn_2, tn_3, tn_c, Int.reduceToNat, te_0, te_1, tk_0, tk_1, tk_m, ts_1, or_0, bp_f, sX_x0 hX, sX_xr2 hX, sX_xr3 hX, sX_xr6 hX, sX_xk2 hX, sX_xl2 hX, sX_xk3 hX, sX_xl3 hX, sX_xk6 hX, sX_xl6 hX, zi_t, hlk, hkd, h22, h1, b1, d1, g1, gw]); first | with_reducible refine xb_I.trans ?_ | with_reducible refine xb_V.trans ?_ | with_reducible refine xb_J.trans ?_ | with_reducible refine xb_s.trans ?_))
    first | (simp (disch := omega) only [zi_f, zi_0, zi_1, zi_31, zi_all, zi_8, zi_16, zi_add, zi_sub, zi_mul, zi_neg, zi_lt, zi_le, zi_eq, zi_div, zi_t, zi_n, xb_I, xb_J, xb_V, xb_s, if_pos, if_neg, if_true, if_false, true_and, and_true, true_or, or_true, false_or, or_false, not_true, not_false_iff, zb_z, zb_o, zb_ft, tn_0, tn_1, tn_2, tn_3, tn_c, Int.reduceToNat, te_0, te_1, tk_0, tk_1, tk_m, ts_1, or_0, bp_f, vI, sX_x0 hX, sX_xr2 hX, sX_xr3 hX, sX_xr6 hX, sX_xk2 hX, sX_xl2 hX, sX_xk3 hX, sX_xl3 hX, sX_xk6 hX, sX_xl6 hX, zi_t, hlk, hkd, h22, h1, b1, d1, g1, gw]; done) | rfl | (simp (disch := omega) only [zi_f, zi_0, zi_1, zi_31, zi_all, zi_8, zi_16, zi_add, zi_sub, zi_mul, zi_neg, zi_lt, zi_le, zi_eq, zi_div, zi_t, zi_n, xb_I, xb_J, xb_V, xb_s, if_pos, if_neg, if_true, if_false, true_and, and_true, true_or, or_true, false_or, or_false, not_true, not_false_iff, zb_z, zb_o, zb_ft, tn_0, tn_1, tn_2, tn_3, tn_c, Int.reduceToNat, te_0, te_1, tk_0, tk_1, tk_m, ts_1, or_0, bp_f, vI, sX_x0 hX, sX_xr2 hX, sX_xr3 hX, sX_xr6 hX, sX_xk2 hX, sX_xl2 hX, sX_xk3 hX, sX_xl3 hX, sX_xk6 hX, sX_xl6 hX, zi_t, hlk, hkd, h22, h1, b1, d1, g1, gw]; rfl)

theorem pl_f {z : Nat} {c : Nat → Int} {i : Nat} {q : (Int × Nat) × (Nat → Int)} (h : ¬ q.1.1 = -9) : (plS z c i q).1.1 = q.1.1 := by
  unfold plS
  rw [if_neg (fun y => h y.1)]
  rfl
theorem pl_ff {z : Nat} {c : Nat → Int} {q : (Int × Nat) × (Nat → Int)} (h : ¬ q.1.1 = -9) (i : Nat) : ∀ n, (fo (fun j x => plS z c (i + j) x) q n).1.1 = q.1.1 := fun n => fo_ind (P := fun _ (x : (Int × Nat) × (Nat → Int)) => x.1.1 = q.1.1) rfl (fun k x hx => by rw [pl_f (by rw [hx]; exact h), hx]) n
theorem pl_e {z : Nat} {c : Nat → Int} {q : (Int × Nat) × (Nat → Int)} (h9 : q.1.1 = -9) (hz : z ≤ (blS z c q.1).2) {i : Nat} (hi : 0 < i) (hP : PB z q.1) : ∀ n, (fo (fun j x => plS z c (i + j) x) q n).1.1 = -9 ∧ (fo (fun j x => plS z c (i + j) x) q n).2 = q.2 := by
  intro n
  have := fo_ind (f := fun j x => plS z c (i + j) x) (a := q) (P := fun _ (x : (Int × Nat) × (Nat → Int)) => x.1.1 = -9 ∧ x.2 = q.2 ∧ z ≤ (blS z c x.1).2 ∧ PB z x.1) ⟨h9, rfl, hz, hP⟩ (fun k x hx => by
    obtain ⟨y1, y2, y3, y4⟩ := hx
    have hb := bl_b (z := z) (c := c) _ x.1.2 rfl y4.1
    unfold plS
    rw [if_neg (fun y => y.2 ⟨y3, by omega⟩)]
    refine ⟨y1, y2, ?_, PB_bl y4⟩
    have hb2 := bl_b (z := z) (c := c) _ (bkQ z c x.1.2) rfl hb.2.1
    show z ≤ bkQ z c (bkQ z c x.1.2)
    have y3' : z ≤ bkQ z c x.1.2 := y3
    omega) n
  exact ⟨this.1, this.2.1⟩
set_option maxHeartbeats 4000000 in
theorem M_124 (hX : ShX S) (hu : u < 4) : ∀ (d i : Nat) (m : xi_M) (F : Nat), d < F → i + d = 7 → Tm m u z c → RP m (blS z c (fo (plS z c) (rdC z c) i).1) 300 → ((fo (plS z c) (rdC z c) i).1.1 = -9 → Row S m 22 (fo (plS z c) (rdC z c) i).2) → ∃ m1, G_X9_reads_124 S F 15 (zi (u : Nat)) m = some (some (.int (zi (rdP z c).1.1)), m1) ∧ ((rdP z c).1.1 = -9 → Row S m1 22 (rdP z c).2) ∧ FM m m1 := by
  intro d i
  induction d generalizing i with
  | zero =>
    intro m F hF hd hT hR hW
    obtain ⟨N, rfl⟩ : ∃ N, F = N + 1 := ⟨F - 1, by omega⟩
    have ei : i = 7 := by omega
    subst ei
    have hI := pl_I z c 7 (Nat.le_refl _)
    have hP := PB_rdP z c 7
    have hbl := bl_b (z := z) (c := c) _ (fo (plS z c) (rdC z c) 7).1.2 rfl hP.1
    rw [show rdP z c = fo (plS z c) (rdC z c) 7 from rfl]
    generalize fo (plS z c) (rdC z c) 7 = q at *
    have hz60 := hT.1.1
    have hw := hR.2.1
    have hw' : m.1 15 19 = zi q.1.1 := hw
    have hq := hP.2
    refine ⟨m, ?_, hW, FM_r m⟩
    by_cases e : q.1.1 = -9
    · have ha : m.1 15 18 = zi (((blS z c q.1).2 : Nat) : Int) := hR.1 e
      have hlk := M_look hX hu hT (a := (blS z c q.1).2) (by have : (blS z c q.1).2 ≤ z := hbl.2.1; omega) ha
      rcases (hI.2 e).1 with x | x
      · exact absurd x.2 (by omega)
      · have hge : z ≤ (blS z c q.1).2 := Nat.le_trans x.1 hbl.1
        have elk : lkP z c (blS z c q.1).2 = -1000 := if_neg (by omega)
        rw [elk] at hlk
        have h22 : m.1 22 1 = zi (q.2 1) := (hW e).2.2 1 (by omega)
        have hq1 := hI.1
        rw [e] at hw' ⊢
        clear hT hR hW hI hP hbl
        generalize q.2 1 = n1 at *
        simp only [G_X9_reads_124]
        repeat (first | (with_reducible refine (if_pos ?_).trans ?_; focus (simp (disch := omega) only [zi_f, zi_0, zi_1, zi_31, zi_all, zi_8, zi_16, zi_add, zi_sub, zi_mul, zi_neg, zi_lt, zi_le, zi_eq, zi_div, zi_t, zi_n, xb_I, xb_J, xb_V, xb_s, if_pos, if_neg, if_true, if_false, true_and, and_true, true_or, or_true, false_or, or_false, not_true, not_false_iff, zb_z, zb_o, zb_ft, tn_0, tn_1, tn_2, tn_3, tn_c, Int.reduceToNat, te_0, te_1, tk_0, tk_1, tk_m, ts_1, or_0, bp_f, sX_x0 hX, sX_xr2 hX, sX_xr3 hX, sX_xr6 hX, sX_xk2 hX, sX_xl2 hX, sX_xk3 hX, sX_xl3 hX, sX_xk6 hX, sX_xl6 hX, zi_t, hlk, hw', h22] <;> omega)) | (with_reducible refine (if_neg ?_).trans ?_; focus (simp (disch := omega) only [zi_f, zi_0, zi_1, zi_31, zi_all, zi_8, zi_16, zi_add, zi_sub, zi_mul, zi_neg, zi_lt, zi_le, zi_eq, zi_div, zi_t, zi_n, xb_I, xb_J, xb_V, xb_s, if_pos, if_neg, if_true, if_false, true_and, and_true, true_or, or_true, false_or, or_false, not_true, not_false_iff, zb_z, zb_o, zb_ft, tn_0, tn_1, tn_2, tn_3, tn_c, Int.reduceToNat, te_0, te_1, tk_0, tk_1, tk_m, ts_1, or_0, bp_f, sX_x0 hX, sX_xr2 hX, sX_xr3 hX, sX_xr6 hX, sX_xk2 hX, sX_xl2 hX, sX_xk3 hX, sX_xl3 hX, sX_xk6 hX, sX_xl6 hX, zi_t, hlk, hw', h22] <;> omega)) | ((conv => lhs; arg 1; simp (disch := omega) only [zi_f, zi_0, zi_1, zi_31, zi_all, zi_8, zi_16, zi_add, zi_sub, zi_mul, zi_neg, zi_lt, zi_le, zi_eq, zi_div, zi_t, zi_n, xb_I, xb_J, xb_V, xb_s, if_pos, if_neg, if_true, if_false, true_and, and_true, true_or, or_true, false_or, or_false, not_true, not_false_iff, zb_z, zb_o, zb_ft, tn_0, tn_1, tn_2, tn_3, tn_c, Int.reduceToNat, te_0, te_1, tk_0, tk_1, tk_m, ts_1, or_0, bp_f, sX_x0 hX, sX_xr2 hX, sX_xr3 hX, sX_xr6 hX, sX_xk2 hX, sX_xl2 hX, sX_xk3 hX, sX_xl3 hX, sX_xk6 hX, sX_xl6 hX, zi_t, hlk, hw', h22]); first | with_reducible refine xb_I.trans ?_ | with_reducible refine xb_V.trans ?_ | with_reducible refine xb_J.trans ?_ | with_reducible refine xb_s.trans ?_))
        first | (simp (disch := omega) only [zi_f, zi_0, zi_1, zi_31, zi_all, zi_8, zi_16, zi_add, zi_sub, zi_mul, zi_neg, zi_lt, zi_le, zi_eq, zi_div, zi_t, zi_n, xb_I, xb_J, xb_V, xb_s, if_pos, if_neg, if_true, if_false, true_and, and_true, true_or, or_true, false_or, or_false, not_true, not_false_iff, zb_z, zb_o, zb_ft, tn_0, tn_1, tn_2, tn_3, tn_c, Int.reduceToNat, te_0, te_1, tk_0, tk_1, tk_m, ts_1, or_0, bp_f, vI, sX_x0 hX, sX_xr2 hX, sX_xr3 hX, sX_xr6 hX, sX_xk2 hX, sX_xl2 hX, sX_xk3 hX, sX_xl3 hX, sX_xk6 hX, sX_xl6 hX, zi_t, hlk, hw', h22]; done) | rfl | (simp (disch := omega) only [zi_f, zi_0, zi_1, zi_31, zi_all, zi_8, zi_16, zi_add, zi_sub, zi_mul, zi_neg, zi_lt, zi_le, zi_eq, zi_div, zi_t, zi_n, xb_I, xb_J, xb_V, xb_s, if_pos, if_neg, if_true, if_false, true_and, and_true, true_or, or_true, false_or, or_false, not_true, not_false_iff, zb_z, zb_o, zb_ft, tn_0, tn_1, tn_2, tn_3, tn_c, Int.reduceToNat, te_0, te_1, tk_0, tk_1, tk_m, ts_1, or_0, bp_f, vI, sX_x0 hX, sX_xr2 hX, sX_xr3 hX, sX_xr6 hX, sX_xk2 hX, sX_xl2 hX, sX_xk3 hX, sX_xl3 hX, sX_xk6 hX, sX_xl6 hX, zi_t, hlk, hw', h22]; rfl)
    · clear hT hR hW hI hP hbl
      simp only [G_X9_reads_124]
      repeat (first | (with_reducible refine (if_pos ?_).trans ?_; focus (simp (disch := omega) only [zi_f, zi_0, zi_1, zi_31, zi_all, zi_8, zi_16, zi_add, zi_sub, zi_mul, zi_neg, zi_lt, zi_le, zi_eq, zi_div, zi_t, zi_n, xb_I, xb_J, xb_V, xb_s, if_pos, if_neg, if_true, if_false, true_and, and_true, true_or, or_true, false_or, or_false, not_true, not_false_iff, zb_z, zb_o, zb_ft, tn_0, tn_1, tn_2, tn_3, tn_c, Int.reduceToNat, te_0, te_1, tk_0, tk_1, tk_m, ts_1, or_0, bp_f, sX_x0 hX, sX_xr2 hX, sX_xr3 hX, sX_xr6 hX, sX_xk2 hX, sX_xl2 hX, sX_xk3 hX, sX_xl3 hX, sX_xk6 hX, sX_xl6 hX, zi_t, hw'] <;> omega)) | (with_reducible refine (if_neg ?_).trans ?_; focus (simp (disch := omega) only [zi_f, zi_0, zi_1, zi_31, zi_all, zi_8, zi_16, zi_add, zi_sub, zi_mul, zi_neg, zi_lt, zi_le, zi_eq, zi_div, zi_t, zi_n, xb_I, xb_J, xb_V, xb_s, if_pos, if_neg, if_true, if_false, true_and, and_true, true_or, or_true, false_or, or_false, not_true, not_false_iff, zb_z, zb_o, zb_ft, tn_0, tn_1, tn_2, tn_3, tn_c, Int.reduceToNat, te_0, te_1, tk_0, tk_1, tk_m, ts_1, or_0, bp_f, sX_x0 hX, sX_xr2 hX, sX_xr3 hX, sX_xr6 hX, sX_xk2 hX, sX_xl2 hX, sX_xk3 hX, sX_xl3 hX, sX_xk6 hX, sX_xl6 hX, zi_t, hw'] <;> omega)) | ((conv => lhs; arg 1; simp (disch := omega) only [zi_f, zi_0, zi_1, zi_31, zi_all, zi_8, zi_16, zi_add, zi_sub, zi_mul, zi_neg, zi_lt, zi_le, zi_eq, zi_div, zi_t, zi_n, xb_I, xb_J, xb_V, xb_s, if_pos, if_neg, if_true, if_false, true_and, and_true, true_or, or_true, false_or, or_false, not_true, not_false_iff, zb_z, zb_o, zb_ft, tn_0, tn_1, tn_2, tn_3, tn_c, Int.reduceToNat, te_0, te_1, tk_0, tk_1, tk_m, ts_1, or_0, bp_f, sX_x0 hX, sX_xr2 hX, sX_xr3 hX, sX_xr6 hX, sX_xk2 hX, sX_xl2 hX, sX_xk3 hX, sX_xl3 hX, sX_xk6 hX, sX_xl6 hX, zi_t, hw']); first | with_reducible refine xb_I.trans ?_ | with_reducible refine xb_V.trans ?_ | with_reducible refine xb_J.trans ?_ | with_reducible refine xb_s.trans ?_))
      first | (simp (disch := omega) only [zi_f, zi_0, zi_1, zi_31, zi_all, zi_8, zi_16, zi_add, zi_sub, zi_mul, zi_neg, zi_lt, zi_le, zi_eq, zi_div, zi_t, zi_n, xb_I, xb_J, xb_V, xb_s, if_pos, if_neg, if_true, if_false, true_and, and_true, true_or, or_true, false_or, or_false, not_true, not_false_iff, zb_z, zb_o, zb_ft, tn_0, tn_1, tn_2, tn_3, tn_c, Int.reduceToNat, te_0, te_1, tk_0, tk_1, tk_m, ts_1, or_0, bp_f, vI, sX_x0 hX, sX_xr2 hX, sX_xr3 hX, sX_xr6 hX, sX_xk2 hX, sX_xl2 hX, sX_xk3 hX, sX_xl3 hX, sX_xk6 hX, sX_xl6 hX, zi_t, hw']; done) | rfl | (simp (disch := omega) only [zi_f, zi_0, zi_1, zi_31, zi_all, zi_8, zi_16, zi_add, zi_sub, zi_mul, zi_neg, zi_lt, zi_le, zi_eq, zi_div, zi_t, zi_n, xb_I, xb_J, xb_V, xb_s, if_pos, if_neg, if_true, if_false, true_and, and_true, true_or, or_true, false_or, or_false, not_true, not_false_iff, zb_z, zb_o, zb_ft, tn_0, tn_1, tn_2, tn_3, tn_c, Int.reduceToNat, te_0, te_1, tk_0, tk_1, tk_m, ts_1, or_0, bp_f, vI, sX_x0 hX, sX_xr2 hX, sX_xr3 hX, sX_xr6 hX, sX_xk2 hX, sX_xl2 hX, sX_xk3 hX, sX_xl3 hX, sX_xk6 hX, sX_xl6 hX, zi_t, hw']; rfl)
  | succ d ih =>
    intro m F hF hd hT hR hW
    obtain ⟨N, rfl⟩ : ∃ N, F = N + 1 := ⟨F - 1, by omega⟩
    have hI := pl_I z c i (by omega)
    have hP := PB_rdP z c i
    have hbl := bl_b (z := z) (c := c) _ (fo (plS z c) (rdC z c) i).1.2 rfl hP.1
    have ih' := ih (i + 1)
    rw [fo_s] at ih'
    have hrd : rdP z c = fo (fun j x => plS z c (i + j) x) (fo (plS z c) (rdC z c) i) (7 - i) := by
      rw [← fo_add, show i + (7 - i) = 7 by omega]
      rfl
    have hrd2 : rdP z c = fo (fun j x => plS z c (i + 1 + j) x) (plS z c i (fo (plS z c) (rdC z c) i)) (7 - (i + 1)) := by
      rw [← fo_s (plS z c), ← fo_add, show i + 1 + (7 - (i + 1)) = 7 by omega]
      rfl
    generalize fo (plS z c) (rdC z c) i = q at *
    have hz60 := hT.1.1
    have hw' : m.1 15 19 = zi q.1.1 := hR.2.1
    have hq := hP.2
    by_cases e : q.1.1 = -9
    · have ha : m.1 15 18 = zi (((blS z c q.1).2 : Nat) : Int) := hR.1 e
      have hble : (blS z c q.1).2 ≤ z := hbl.2.1
      have hlk := M_look hX hu hT (a := (blS z c q.1).2) (by omega) ha
      have hr22 := hW e
      have h22 : m.1 22 1 = zi (q.2 1) := hr22.2.2 1 (by omega)
      have hq1 := hI.1
      by_cases e1 : z ≤ (blS z c q.1).2
      · have elk : lkP z c (blS z c q.1).2 = -1000 := if_neg (by omega)
        rw [elk] at hlk
        by_cases e2 : 0 < i
        · have key := pl_e (c := c) e e1 e2 hP (7 - i)
          rw [← hrd] at key
          refine ⟨m, ?_, fun _ => by rw [key.2]; exact hr22, FM_r m⟩
          have hn1 : 1 ≤ q.2 1 := by
            rcases (hI.2 e).1 with x | x
            · omega
            · exact x.2.2
          rw [key.1]
          rw [e] at hw'
          clear hT hR hW hI hP hbl ih ih' key hrd hrd2 hr22
          generalize q.2 1 = n1 at *
          simp only [G_X9_reads_124]
          repeat (first | (with_reducible refine (if_pos ?_).trans ?_; focus (simp (disch := omega) only [zi_f, zi_0, zi_1, zi_31, zi_all, zi_8, zi_16, zi_add, zi_sub, zi_mul, zi_neg, zi_lt, zi_le, zi_eq, zi_div, zi_t, zi_n, xb_I, xb_J, xb_V, xb_s, if_pos, if_neg, if_true, if_false, true_and, and_true, true_or, or_true, false_or, or_false, not_true, not_false_iff, zb_z, zb_o, zb_ft, tn_0, tn_1, tn_2, tn_3, tn_c, Int.reduceToNat, te_0, te_1, tk_0, tk_1, tk_m, ts_1, or_0, bp_f, sX_x0 hX, sX_xr2 hX, sX_xr3 hX, sX_xr6 hX, sX_xk2 hX, sX_xl2 hX, sX_xk3 hX, sX_xl3 hX, sX_xk6 hX, sX_xl6 hX, zi_t, hlk, hw', h22] <;> omega)) | (with_reducible refine (if_neg ?_).trans ?_; focus (simp (disch := omega) only [zi_f, zi_0, zi_1, zi_31, zi_all, zi_8, zi_16, zi_add, zi_sub, zi_mul, zi_neg, zi_lt, zi_le, zi_eq, zi_div, zi_t, zi_n, xb_I, xb_J, xb_V, xb_s, if_pos, if_neg, if_true, if_false, true_and, and_true, true_or, or_true, false_or, or_false, not_true, not_false_iff, zb_z, zb_o, zb_ft, tn_0, tn_1, tn_2, tn_3, tn_c, Int.reduceToNat, te_0, te_1, tk_0, tk_1, tk_m, ts_1, or_0, bp_f, sX_x0 hX, sX_xr2 hX, sX_xr3 hX, sX_xr6 hX, sX_xk2 hX, sX_xl2 hX, sX_xk3 hX, sX_xl3 hX, sX_xk6 hX, sX_xl6 hX, zi_t, hlk, hw', h22] <;> omega)) | ((conv => lhs; arg 1; simp (disch := omega) only [zi_f, zi_0, zi_1, zi_31, zi_all, zi_8, zi_16, zi_add, zi_sub, zi_mul, zi_neg, zi_lt, zi_le, zi_eq, zi_div, zi_t, zi_n, xb_I, xb_J, xb_V, xb_s, if_pos, if_neg, if_true, if_false, true_and, and_true, true_or, or_true, false_or, or_false, not_true, not_false_iff, zb_z, zb_o, zb_ft, tn_0, tn_1, tn_2, tn_3, tn_c, Int.reduceToNat, te_0, te_1, tk_0, tk_1, tk_m, ts_1, or_0, bp_f, sX_x0 hX, sX_xr2 hX, sX_xr3 hX, sX_xr6 hX, sX_xk2 hX, sX_xl2 hX, sX_xk3 hX, sX_xl3 hX, sX_xk6 hX, sX_xl6 hX, zi_t, hlk, hw', h22]); first | with_reducible refine xb_I.trans ?_ | with_reducible refine xb_V.trans ?_ | with_reducible refine xb_J.trans ?_ | with_reducible refine xb_s.trans ?_))
          first | (simp (disch := omega) only [zi_f, zi_0, zi_1, zi_31, zi_all, zi_8, zi_16, zi_add, zi_sub, zi_mul, zi_neg, zi_lt, zi_le, zi_eq, zi_div, zi_t, zi_n, xb_I, xb_J, xb_V, xb_s, if_pos, if_neg, if_true, if_false, true_and, and_true, true_or, or_true, false_or, or_false, not_true, not_false_iff, zb_z, zb_o, zb_ft, tn_0, tn_1, tn_2, tn_3, tn_c, Int.reduceToNat, te_0, te_1, tk_0, tk_1, tk_m, ts_1, or_0, bp_f, vI, sX_x0 hX, sX_xr2 hX, sX_xr3 hX, sX_xr6 hX, sX_xk2 hX, sX_xl2 hX, sX_xk3 hX, sX_xl3 hX, sX_xk6 hX, sX_xl6 hX, zi_t, hlk, hw', h22]; done) | rfl | (simp (disch := omega) only [zi_f, zi_0, zi_1, zi_31, zi_all, zi_8, zi_16, zi_add, zi_sub, zi_mul, zi_neg, zi_lt, zi_le, zi_eq, zi_div, zi_t, zi_n, xb_I, xb_J, xb_V, xb_s, if_pos, if_neg, if_true, if_false, true_and, and_true, true_or, or_true, false_or, or_false, not_true, not_false_iff, zb_z, zb_o, zb_ft, tn_0, tn_1, tn_2, tn_3, tn_c, Int.reduceToNat, te_0, te_1, tk_0, tk_1, tk_m, ts_1, or_0, bp_f, vI, sX_x0 hX, sX_xr2 hX, sX_xr3 hX, sX_xr6 hX, sX_xk2 hX, sX_xl2 hX, sX_xk3 hX, sX_xl3 hX, sX_xk6 hX, sX_xl6 hX, zi_t, hlk, hw', h22]; rfl)
        · have e0 : i = 0 := by omega
          subst e0
          have hn0 : q.2 1 = 0 := by
            rcases (hI.2 e).1 with x | x
            · exact x.1
            · exact absurd x.2.1 (by omega)
          have hpl : plS z c 0 q = ((((blS z c q.1).2 : Int), (blS z c q.1).2), q.2) := by
            unfold plS
            rw [if_pos ⟨e, fun y => absurd y.2 (by omega)⟩, if_pos (Or.inl (by rw [elk]; rfl))]
          rw [hpl] at hrd2
          have key := pl_ff (z := z) (c := c) (q := ((((blS z c q.1).2 : Int), (blS z c q.1).2), q.2)) (by dsimp only; omega) (0 + 1) (7 - (0 + 1))
          rw [← hrd2] at key
          have key' : (rdP z c).1.1 = (z : Int) := by rw [key]; show ((blS z c q.1).2 : Int) = z; omega
          have hz18 := hT.2.1
          rw [e] at hw'
          have hfl := M_failN hX hw' (zi (z : Nat))
          have k2 : (xi_wI m 15 19 (zi (z : Nat))).1 15 19 = zi (z : Nat) := mw_eq _ _ _ _
          refine ⟨xi_wI m 15 19 (zi (z : Nat)), ?_, fun y => absurd y (by rw [key']; omega), FM_w m (Or.inr rfl) _⟩
          rw [key']
          rw [hn0] at h22
          clear hT hR hW hI hP hbl ih ih' key key' hrd hrd2 hr22 hpl
          simp only [G_X9_reads_124]
          repeat (first | (with_reducible refine (if_pos ?_).trans ?_; focus (simp (disch := omega) only [zi_f, zi_0, zi_1, zi_31, zi_all, zi_8, zi_16, zi_add, zi_sub, zi_mul, zi_neg, zi_lt, zi_le, zi_eq, zi_div, zi_t, zi_n, xb_I, xb_J, xb_V, xb_s, if_pos, if_neg, if_true, if_false, true_and, and_true, true_or, or_true, false_or, or_false, not_true, not_false_iff, zb_z, zb_o, zb_ft, tn_0, tn_1, tn_2, tn_3, tn_c, Int.reduceToNat, te_0, te_1, tk_0, tk_1, tk_m, ts_1, or_0, bp_f, sX_x0 hX, sX_xr2 hX, sX_xr3 hX, sX_xr6 hX, sX_xk2 hX, sX_xl2 hX, sX_xk3 hX, sX_xl3 hX, sX_xk6 hX, sX_xl6 hX, zi_t, hlk, hw', h22, hz18, hfl, k2] <;> omega)) | (with_reducible refine (if_neg ?_).trans ?_; focus (simp (disch := omega) only [zi_f, zi_0, zi_1, zi_31, zi_all, zi_8, zi_16, zi_add, zi_sub, zi_mul, zi_neg, zi_lt, zi_le, zi_eq, zi_div, zi_t, zi_n, xb_I, xb_J, xb_V, xb_s, if_pos, if_neg, if_true, if_false, true_and, and_true, true_or, or_true, false_or, or_false, not_true, not_false_iff, zb_z, zb_o, zb_ft, tn_0, tn_1, tn_2, tn_3, tn_c, Int.reduceToNat, te_0, te_1, tk_0, tk_1, tk_m, ts_1, or_0, bp_f, sX_x0 hX, sX_xr2 hX, sX_xr3 hX, sX_xr6 hX, sX_xk2 hX, sX_xl2 hX, sX_xk3 hX, sX_xl3 hX, sX_xk6 hX, sX_xl6 hX, zi_t, hlk, hw', h22, hz18, hfl, k2] <;> omega)) | ((conv => lhs; arg 1; simp (disch := omega) only [zi_f, zi_0, zi_1, zi_31, zi_all, zi_8, zi_16, zi_add, zi_sub, zi_mul, zi_neg, zi_lt, zi_le, zi_eq, zi_div, zi_t, zi_n, xb_I, xb_J, xb_V, xb_s, if_pos, if_neg, if_true, if_false, true_and, and_true, true_or, or_true, false_or, or_false, not_true, not_false_iff, zb_z, zb_o, zb_ft, tn_0, tn_1, tn_2, tn_3, tn_c, Int.reduceToNat, te_0, te_1, tk_0, tk_1, tk_m, ts_1, or_0, bp_f, sX_x0 hX, sX_xr2 hX, sX_xr3 hX, sX_xr6 hX, sX_xk2 hX, sX_xl2 hX, sX_xk3 hX, sX_xl3 hX, sX_xk6 hX, sX_xl6 hX, zi_t, hlk, hw', h22, hz18, hfl, k2]); first | with_reducible refine xb_I.trans ?_ | with_reducible refine xb_V.trans ?_ | with_reducible refine xb_J.trans ?_ | with_reducible refine xb_s.trans ?_))
          first | (simp (disch := omega) only [zi_f, zi_0, zi_1, zi_31, zi_all, zi_8, zi_16, zi_add, zi_sub, zi_mul, zi_neg, zi_lt, zi_le, zi_eq, zi_div, zi_t, zi_n, xb_I, xb_J, xb_V, xb_s, if_pos, if_neg, if_true, if_false, true_and, and_true, true_or, or_true, false_or, or_false, not_true, not_false_iff, zb_z, zb_o, zb_ft, tn_0, tn_1, tn_2, tn_3, tn_c, Int.reduceToNat, te_0, te_1, tk_0, tk_1, tk_m, ts_1, or_0, bp_f, vI, sX_x0 hX, sX_xr2 hX, sX_xr3 hX, sX_xr6 hX, sX_xk2 hX, sX_xl2 hX, sX_xk3 hX, sX_xl3 hX, sX_xk6 hX, sX_xl6 hX, zi_t, hlk, hw', h22, hz18, hfl, k2]; done) | rfl | (simp (disch := omega) only [zi_f, zi_0, zi_1, zi_31, zi_all, zi_8, zi_16, zi_add, zi_sub, zi_mul, zi_neg, zi_lt, zi_le, zi_eq, zi_div, zi_t, zi_n, xb_I, xb_J, xb_V, xb_s, if_pos, if_neg, if_true, if_false, true_and, and_true, true_or, or_true, false_or, or_false, not_true, not_false_iff, zb_z, zb_o, zb_ft, tn_0, tn_1, tn_2, tn_3, tn_c, Int.reduceToNat, te_0, te_1, tk_0, tk_1, tk_m, ts_1, or_0, bp_f, vI, sX_x0 hX, sX_xr2 hX, sX_xr3 hX, sX_xr6 hX, sX_xk2 hX, sX_xl2 hX, sX_xk3 hX, sX_xl3 hX, sX_xk6 hX, sX_xl6 hX, zi_t, hlk, hw', h22, hz18, hfl, k2]; rfl)
      · have hlt : (blS z c q.1).2 < z := by omega
        have elk : lkP z c (blS z c q.1).2 = c (blS z c q.1).2 := if_pos hlt
        have hca := hT.1.2 (blS z c q.1).2
        have hwi : q.2 1 = i ∧ i ≤ 6 := by
          rcases (hI.2 e).1 with x | x
          · exact x
          · exact absurd (Nat.le_trans x.1 hbl.1) e1
        have heq : blS z c q.1 = (-9, (blS z c q.1).2) := by rw [← e]; rfl
        rw [e] at hw'
        by_cases e2 : knP (lkP z c (blS z c q.1).2) = -9 ∨ 6 ≤ i
        · have hpl : plS z c i q = ((((blS z c q.1).2 : Int), (blS z c q.1).2), q.2) := by
            unfold plS
            rw [if_pos ⟨e, fun y => absurd y.1 (by omega)⟩, if_pos e2]
          obtain ⟨m1, q1, q2, q3⟩ := M_rdF hX hu hT hlt ha hw' hr22 hwi.1 hwi.2 e2
          have P1 : PB z (((blS z c q.1).2 : Int), (blS z c q.1).2) := ⟨by dsimp only; omega, Or.inr (by dsimp only; omega)⟩
          obtain ⟨m2, r1, r2, r3, r4⟩ := M_blanks hX hu (Tm_f hT q3) (B := 200) (by omega) q2 P1
          rw [hpl] at ih'
          obtain ⟨m3, s1, s2, s3⟩ := ih' m2 N (by omega) (by omega) (Tm_f hT (FM_t q3 r3)) (RP_B r2 (by omega)) (fun y => absurd y (by dsimp only; omega))
          refine ⟨m3, ?_, s2, FM_t (FM_t q3 r3) s3⟩
          rw [elk] at hlk
          clear hT hR hW hI hP hbl ih ih' hrd hrd2 hr22 hpl q2 q3 r2 r3 r4 s2 s3 P1
          generalize c (blS z c q.1).2 = x at *
          generalize (rdP z c).1.1 = y at *
          simp only [G_X9_reads_124]
          repeat (first | (with_reducible refine (if_pos ?_).trans ?_; focus (simp (disch := omega) only [zi_f, zi_0, zi_1, zi_31, zi_all, zi_8, zi_16, zi_add, zi_sub, zi_mul, zi_neg, zi_lt, zi_le, zi_eq, zi_div, zi_t, zi_n, xb_I, xb_J, xb_V, xb_s, if_pos, if_neg, if_true, if_false, true_and, and_true, true_or, or_true, false_or, or_false, not_true, not_false_iff, zb_z, zb_o, zb_ft, tn_0, tn_1, tn_2, tn_3, tn_c, Int.reduceToNat, te_0, te_1, tk_0, tk_1, tk_m, ts_1, or_0, bp_f, sX_x0 hX, sX_xr2 hX, sX_xr3 hX, sX_xr6 hX, sX_xk2 hX, sX_xl2 hX, sX_xk3 hX, sX_xl3 hX, sX_xk6 hX, sX_xl6 hX, zi_t, hlk, hw', q1, r1, s1] <;> omega)) | (with_reducible refine (if_neg ?_).trans ?_; focus (simp (disch := omega) only [zi_f, zi_0, zi_1, zi_31, zi_all, zi_8, zi_16, zi_add, zi_sub, zi_mul, zi_neg, zi_lt, zi_le, zi_eq, zi_div, zi_t, zi_n, xb_I, xb_J, xb_V, xb_s, if_pos, if_neg, if_true, if_false, true_and, and_true, true_or, or_true, false_or, or_false, not_true, not_false_iff, zb_z, zb_o, zb_ft, tn_0, tn_1, tn_2, tn_3, tn_c, Int.reduceToNat, te_0, te_1, tk_0, tk_1, tk_m, ts_1, or_0, bp_f, sX_x0 hX, sX_xr2 hX, sX_xr3 hX, sX_xr6 hX, sX_xk2 hX, sX_xl2 hX, sX_xk3 hX, sX_xl3 hX, sX_xk6 hX, sX_xl6 hX, zi_t, hlk, hw', q1, r1, s1] <;> omega)) | ((conv => lhs; arg 1; simp (disch := omega) only [zi_f, zi_0, zi_1, zi_31, zi_all, zi_8, zi_16, zi_add, zi_sub, zi_mul, zi_neg, zi_lt, zi_le, zi_eq, zi_div, zi_t, zi_n, xb_I, xb_J, xb_V, xb_s, if_pos, if_neg, if_true, if_false, true_and, and_true, true_or, or_true, false_or, or_false, not_true, not_false_iff, zb_z, zb_o, zb_ft, tn_0, tn_1, tn_2, tn_3, tn_c, Int.reduceToNat, te_0, te_1, tk_0, tk_1, tk_m, ts_1, or_0, bp_f, sX_x0 hX, sX_xr2 hX, sX_xr3 hX, sX_xr6 hX, sX_xk2 hX, sX_xl2 hX, sX_xk3 hX, sX_xl3 hX, sX_xk6 hX, sX_xl6 hX, zi_t, hlk, hw', q1, r1, s1]); first | with_reducible refine xb_I.trans ?_ | with_reducible refine xb_V.trans ?_ | with_reducible refine xb_J.trans ?_ | with_reducible refine xb_s.trans ?_))
          first | (simp (disch := omega) only [zi_f, zi_0, zi_1, zi_31, zi_all, zi_8, zi_16, zi_add, zi_sub, zi_mul, zi_neg, zi_lt, zi_le, zi_eq, zi_div, zi_t, zi_n, xb_I, xb_J, xb_V, xb_s, if_pos, if_neg, if_true, if_false, true_and, and_true, true_or, or_true, false_or, or_false, not_true, not_false_iff, zb_z, zb_o, zb_ft, tn_0, tn_1, tn_2, tn_3, tn_c, Int.reduceToNat, te_0, te_1, tk_0, tk_1, tk_m, ts_1, or_0, bp_f, vI, sX_x0 hX, sX_xr2 hX, sX_xr3 hX, sX_xr6 hX, sX_xk2 hX, sX_xl2 hX, sX_xk3 hX, sX_xl3 hX, sX_xk6 hX, sX_xl6 hX, zi_t, hlk, hw', q1, r1, s1]; done) | rfl | (simp (disch := omega) only [zi_f, zi_0, zi_1, zi_31, zi_all, zi_8, zi_16, zi_add, zi_sub, zi_mul, zi_neg, zi_lt, zi_le, zi_eq, zi_div, zi_t, zi_n, xb_I, xb_J, xb_V, xb_s, if_pos, if_neg, if_true, if_false, true_and, and_true, true_or, or_true, false_or, or_false, not_true, not_false_iff, zb_z, zb_o, zb_ft, tn_0, tn_1, tn_2, tn_3, tn_c, Int.reduceToNat, te_0, te_1, tk_0, tk_1, tk_m, ts_1, or_0, bp_f, vI, sX_x0 hX, sX_xr2 hX, sX_xr3 hX, sX_xr6 hX, sX_xk2 hX, sX_xl2 hX, sX_xk3 hX, sX_xl3 hX, sX_xk6 hX, sX_xl6 hX, zi_t, hlk, hw', q1, r1, s1]; rfl)
        · have hpl : plS z c i q = (p5 z c (blS z c q.1), plW z c i (blS z c q.1) q.2) := by
            unfold plS
            rw [if_pos ⟨e, fun y => absurd y.1 (by omega)⟩, if_neg e2]
          obtain ⟨m1, q1, q2, q4, q3⟩ := M_rdO hX hu hT hlt ha hw' hr22 hwi.1 (by omega) (fun y => e2 (Or.inl y))
          rw [← heq] at q2 q4
          have P1 : PB z (p5 z c (blS z c q.1)) := by have := PB_pl (c := c) (i := i) hP; rw [hpl] at this; exact this
          obtain ⟨m2, r1, r2, r3, r4⟩ := M_blanks hX hu (Tm_f hT q3) (B := 200) (by omega) q2 P1
          rw [hpl] at ih'
          obtain ⟨m3, s1, s2, s3⟩ := ih' m2 N (by omega) (by omega) (Tm_f hT (FM_t q3 r3)) (RP_B r2 (by omega)) (fun y => Row_fr (q4 y) r4)
          refine ⟨m3, ?_, s2, FM_t (FM_t q3 r3) s3⟩
          rw [elk] at hlk
          clear hT hR hW hI hP hbl ih ih' hrd hrd2 hr22 hpl q2 q3 q4 r2 r3 r4 s2 s3 P1 heq
          generalize c (blS z c q.1).2 = x at *
          generalize (rdP z c).1.1 = y at *
          simp only [G_X9_reads_124]
          repeat (first | (with_reducible refine (if_pos ?_).trans ?_; focus (simp (disch := omega) only [zi_f, zi_0, zi_1, zi_31, zi_all, zi_8, zi_16, zi_add, zi_sub, zi_mul, zi_neg, zi_lt, zi_le, zi_eq, zi_div, zi_t, zi_n, xb_I, xb_J, xb_V, xb_s, if_pos, if_neg, if_true, if_false, true_and, and_true, true_or, or_true, false_or, or_false, not_true, not_false_iff, zb_z, zb_o, zb_ft, tn_0, tn_1, tn_2, tn_3, tn_c, Int.reduceToNat, te_0, te_1, tk_0, tk_1, tk_m, ts_1, or_0, bp_f, sX_x0 hX, sX_xr2 hX, sX_xr3 hX, sX_xr6 hX, sX_xk2 hX, sX_xl2 hX, sX_xk3 hX, sX_xl3 hX, sX_xk6 hX, sX_xl6 hX, zi_t, hlk, hw', q1, r1, s1] <;> omega)) | (with_reducible refine (if_neg ?_).trans ?_; focus (simp (disch := omega) only [zi_f, zi_0, zi_1, zi_31, zi_all, zi_8, zi_16, zi_add, zi_sub, zi_mul, zi_neg, zi_lt, zi_le, zi_eq, zi_div, zi_t, zi_n, xb_I, xb_J, xb_V, xb_s, if_pos, if_neg, if_true, if_false, true_and, and_true, true_or, or_true, false_or, or_false, not_true, not_false_iff, zb_z, zb_o, zb_ft, tn_0, tn_1, tn_2, tn_3, tn_c, Int.reduceToNat, te_0, te_1, tk_0, tk_1, tk_m, ts_1, or_0, bp_f, sX_x0 hX, sX_xr2 hX, sX_xr3 hX, sX_xr6 hX, sX_xk2 hX, sX_xl2 hX, sX_xk3 hX, sX_xl3 hX, sX_xk6 hX, sX_xl6 hX, zi_t, hlk, hw', q1, r1, s1] <;> omega)) | ((conv => lhs; arg 1; simp (disch := omega) only [zi_f, zi_0, zi_1, zi_31, zi_all, zi_8, zi_16, zi_add, zi_sub, zi_mul, zi_neg, zi_lt, zi_le, zi_eq, zi_div, zi_t, zi_n, xb_I, xb_J, xb_V, xb_s, if_pos, if_neg, if_true, if_false, true_and, and_true, true_or, or_true, false_or, or_false, not_true, not_false_iff, zb_z, zb_o, zb_ft, tn_0, tn_1, tn_2, tn_3, tn_c, Int.reduceToNat, te_0, te_1, tk_0, tk_1, tk_m, ts_1, or_0, bp_f, sX_x0 hX, sX_xr2 hX, sX_xr3 hX, sX_xr6 hX, sX_xk2 hX, sX_xl2 hX, sX_xk3 hX, sX_xl3 hX, sX_xk6 hX, sX_xl6 hX, zi_t, hlk, hw', q1, r1, s1]); first | with_reducible refine xb_I.trans ?_ | with_reducible refine xb_V.trans ?_ | with_reducible refine xb_J.trans ?_ | with_reducible refine xb_s.trans ?_))
          first | (simp (disch := omega) only [zi_f, zi_0, zi_1, zi_31, zi_all, zi_8, zi_16, zi_add, zi_sub, zi_mul, zi_neg, zi_lt, zi_le, zi_eq, zi_div, zi_t, zi_n, xb_I, xb_J, xb_V, xb_s, if_pos, if_neg, if_true, if_false, true_and, and_true, true_or, or_true, false_or, or_false, not_true, not_false_iff, zb_z, zb_o, zb_ft, tn_0, tn_1, tn_2, tn_3, tn_c, Int.reduceToNat, te_0, te_1, tk_0, tk_1, tk_m, ts_1, or_0, bp_f, vI, sX_x0 hX, sX_xr2 hX, sX_xr3 hX, sX_xr6 hX, sX_xk2 hX, sX_xl2 hX, sX_xk3 hX, sX_xl3 hX, sX_xk6 hX, sX_xl6 hX, zi_t, hlk, hw', q1, r1, s1]; done) | rfl | (simp (disch := omega) only [zi_f, zi_0, zi_1, zi_31, zi_all, zi_8, zi_16, zi_add, zi_sub, zi_mul, zi_neg, zi_lt, zi_le, zi_eq, zi_div, zi_t, zi_n, xb_I, xb_J, xb_V, xb_s, if_pos, if_neg, if_true, if_false, true_and, and_true, true_or, or_true, false_or, or_false, not_true, not_false_iff, zb_z, zb_o, zb_ft, tn_0, tn_1, tn_2, tn_3, tn_c, Int.reduceToNat, te_0, te_1, tk_0, tk_1, tk_m, ts_1, or_0, bp_f, vI, sX_x0 hX, sX_xr2 hX, sX_xr3 hX, sX_xr6 hX, sX_xk2 hX, sX_xl2 hX, sX_xk3 hX, sX_xl3 hX, sX_xk6 hX, sX_xl6 hX, zi_t, hlk, hw', q1, r1, s1]; rfl)
    · have key := pl_ff (z := z) (c := c) e i (7 - i)
      rw [← hrd] at key
      refine ⟨m, ?_, fun y => absurd (by rw [← key]; exact y) e, FM_r m⟩
      rw [key]
      clear hT hR hW hI hP hbl ih ih' key hrd hrd2
      simp only [G_X9_reads_124]
      repeat (first | (with_reducible refine (if_pos ?_).trans ?_; focus (simp (disch := omega) only [zi_f, zi_0, zi_1, zi_31, zi_all, zi_8, zi_16, zi_add, zi_sub, zi_mul, zi_neg, zi_lt, zi_le, zi_eq, zi_div, zi_t, zi_n, xb_I, xb_J, xb_V, xb_s, if_pos, if_neg, if_true, if_false, true_and, and_true, true_or, or_true, false_or, or_false, not_true, not_false_iff, zb_z, zb_o, zb_ft, tn_0, tn_1, tn_2, tn_3, tn_c, Int.reduceToNat, te_0, te_1, tk_0, tk_1, tk_m, ts_1, or_0, bp_f, sX_x0 hX, sX_xr2 hX, sX_xr3 hX, sX_xr6 hX, sX_xk2 hX, sX_xl2 hX, sX_xk3 hX, sX_xl3 hX, sX_xk6 hX, sX_xl6 hX, zi_t, hw'] <;> omega)) | (with_reducible refine (if_neg ?_).trans ?_; focus (simp (disch := omega) only [zi_f, zi_0, zi_1, zi_31, zi_all, zi_8, zi_16, zi_add, zi_sub, zi_mul, zi_neg, zi_lt, zi_le, zi_eq, zi_div, zi_t, zi_n, xb_I, xb_J, xb_V, xb_s, if_pos, if_neg, if_true, if_false, true_and, and_true, true_or, or_true, false_or, or_false, not_true, not_false_iff, zb_z, zb_o, zb_ft, tn_0, tn_1, tn_2, tn_3, tn_c, Int.reduceToNat, te_0, te_1, tk_0, tk_1, tk_m, ts_1, or_0, bp_f, sX_x0 hX, sX_xr2 hX, sX_xr3 hX, sX_xr6 hX, sX_xk2 hX, sX_xl2 hX, sX_xk3 hX, sX_xl3 hX, sX_xk6 hX, sX_xl6 hX, zi_t, hw'] <;> omega)) | ((conv => lhs; arg 1; simp (disch := omega) only [zi_f, zi_0, zi_1, zi_31, zi_all, zi_8, zi_16, zi_add, zi_sub, zi_mul, zi_neg, zi_lt, zi_le, zi_eq, zi_div, zi_t, zi_n, xb_I, xb_J, xb_V, xb_s, if_pos, if_neg, if_true, if_false, true_and, and_true, true_or, or_true, false_or, or_false, not_true, not_false_iff, zb_z, zb_o, zb_ft, tn_0, tn_1, tn_2, tn_3, tn_c, Int.reduceToNat, te_0, te_1, tk_0, tk_1, tk_m, ts_1, or_0, bp_f, sX_x0 hX, sX_xr2 hX, sX_xr3 hX, sX_xr6 hX, sX_xk2 hX, sX_xl2 hX, sX_xk3 hX, sX_xl3 hX, sX_xk6 hX, sX_xl6 hX, zi_t, hw']); first | with_reducible refine xb_I.trans ?_ | with_reducible refine xb_V.trans ?_ | with_reducible refine xb_J.trans ?_ | with_reducible refine xb_s.trans ?_))
      first | (simp (disch := omega) only [zi_f, zi_0, zi_1, zi_31, zi_all, zi_8, zi_16, zi_add, zi_sub, zi_mul, zi_neg, zi_lt, zi_le, zi_eq, zi_div, zi_t, zi_n, xb_I, xb_J, xb_V, xb_s, if_pos, if_neg, if_true, if_false, true_and, and_true, true_or, or_true, false_or, or_false, not_true, not_false_iff, zb_z, zb_o, zb_ft, tn_0, tn_1, tn_2, tn_3, tn_c, Int.reduceToNat, te_0, te_1, tk_0, tk_1, tk_m, ts_1, or_0, bp_f, vI, sX_x0 hX, sX_xr2 hX, sX_xr3 hX, sX_xr6 hX, sX_xk2 hX, sX_xl2 hX, sX_xk3 hX, sX_xl3 hX, sX_xk6 hX, sX_xl6 hX, zi_t, hw']; done) | rfl | (simp (disch := omega) only [zi_f, zi_0, zi_1, zi_31, zi_all, zi_8, zi_16, zi_add, zi_sub, zi_mul, zi_neg, zi_lt, zi_le, zi_eq, zi_div, zi_t, zi_n, xb_I, xb_J, xb_V, xb_s, if_pos, if_neg, if_true, if_false, true_and, and_true, true_or, or_true, false_or, or_false, not_true, not_false_iff, zb_z, zb_o, zb_ft, tn_0, tn_1, tn_2, tn_3, tn_c, Int.reduceToNat, te_0, te_1, tk_0, tk_1, tk_m, ts_1, or_0, bp_f, vI, sX_x0 hX, sX_xr2 hX, sX_xr3 hX, sX_xr6 hX, sX_xk2 hX, sX_xl2 hX, sX_xk3 hX, sX_xl3 hX, sX_xk6 hX, sX_xl6 hX, zi_t, hw']; rfl)

end
