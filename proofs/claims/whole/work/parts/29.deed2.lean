/-! deeds: terms, coats, weather, places -/
def plP (w : Nat → Int) : Nat → Int := fun k => if k = 2 then w 2 + 1 else if k = 4 then w 4 + cntP (fun i => scP w i && sdP w 0 i) (pN w) else if k = 5 then w 5 + cntP (fun i => scP w i && sdP w 1 i) (pN w) else w k
theorem pl_o {w : Nat → Int} {k : Nat} (h2 : k ≠ 2) (h4 : k ≠ 4) (h5 : k ≠ 5) : plP w k = w k := by unfold plP; rw [if_neg h2, if_neg h4, if_neg h5]
theorem pl_n (w : Nat → Int) : pN (plP w) = pN w := by unfold pN; rw [pl_o (by omega) (by omega) (by omega)]
theorem Wk_pl2 {w : Nat → Int} (h : Wk w) : Wk (plP w) := by
  obtain ⟨⟨b0, b1, b3, bc, bp⟩, c, p1, st⟩ := h
  have hu : ∀ j, j = 0 ∨ j = 1 ∨ j = 3 ∨ 6 ≤ j → plP w j = w j := fun j hj => pl_o (by omega) (by omega) (by omega)
  refine ⟨⟨by rw [hu _ (by omega)]; exact b0, by rw [hu _ (by omega)]; exact b1, by rw [hu _ (by omega)]; exact b3, fun k hk => by rw [hu _ (by omega)]; exact bc k hk, fun i hi => by rw [hu _ (by omega), hu _ (by omega), hu _ (by omega), hu _ (by omega)]; exact bp i hi⟩, fun e he => by rw [hu _ (by omega), hu _ (by omega)]; exact c e he, by rw [hu _ (by omega)]; exact p1, fun i hi => ?_⟩
  rw [pl_n] at hi
  rw [hu _ (by omega)]; exact st i hi
theorem RF_cong {m : xi_M} {c : Nat} {w v : Nat → Int} (h : ∀ k, k < 34 → w k = v k) (h6 : pN w ≤ 6) (hf : RF m c w) : RF m c v := by
  obtain ⟨f0, f1, f2, f3, fc, fg, fk, fs, fp, ft⟩ := hf
  have hp : pN v = pN w := by unfold pN; rw [h 1 (by omega)]
  unfold RF
  rw [hp, ← h 0 (by omega), ← h 1 (by omega), ← h 2 (by omega), ← h 3 (by omega)]
  exact ⟨f0, f1, f2, f3, fun j hj => by rw [← h _ (by omega)]; exact fc j hj, fun j hj => by rw [← h _ (by omega)]; exact fg j hj, fun j hj => by rw [← h _ (by omega)]; exact fk j hj, fun j hj => by rw [← h _ (by omega)]; exact fs j hj, fun j hj => by rw [← h _ (by omega)]; exact fp j hj, fun j hj => by rw [← h _ (by omega)]; exact ft j hj⟩
section
variable {S : xi_S} {m : xi_M} {w : Nat → Int}
theorem RF_goal (hf : RF m 50 w) {k : Nat} (hk : k < 2) (v : Int) : RF (xi_wI m (50 + 2) k (zi v)) 50 (upW w (4 + k) v) := by
  obtain ⟨f0, f1, f2, f3, fc, fg, fk, fs, fp, ft⟩ := hf
  have hu : ∀ j, j < 4 ∨ 6 ≤ j → upW w (4 + k) v j = w j := fun j hj => up_n (by omega)
  have hm : ∀ b, b ≠ 50 + 2 → (xi_wI m (50 + 2) k (zi v)).1 b = m.1 b := fun b hb => wI_o hb
  have hp : pN (upW w (4 + k) v) = pN w := pN_up (by omega)
  unfold RF
  rw [hp]
  refine ⟨by rw [hm _ (by omega), hu _ (by omega)]; exact f0, by rw [hm _ (by omega), hu _ (by omega)]; exact f1, by rw [hm _ (by omega), hu _ (by omega)]; exact f2, by rw [hm _ (by omega), hu _ (by omega)]; exact f3, fun j hj => by rw [hm _ (by omega), hu _ (by omega)]; exact fc j hj, fun j hj => ?_, fun j hj => by rw [hm _ (by omega), hu _ (by omega)]; exact fk j hj, fun j hj => by rw [hm _ (by omega), hu _ (by omega)]; exact fs j hj, fun j hj => by rw [hm _ (by omega), hu _ (by omega)]; exact fp j hj, fun j hj => by rw [hm _ (by omega), hu _ (by omega)]; exact ft j hj⟩
  by_cases e : j = k
  · subst e; rw [mw_eq, up_e]
  · rw [mw_ne (by omega), up_n (by omega)]; exact fg j hj
theorem RF_terms (hf : RF m 50 w) (v : Int) : RF (xi_wI m 50 2 (zi v)) 50 (upW w 2 v) := by
  obtain ⟨f0, f1, f2, f3, fc, fg, fk, fs, fp, ft⟩ := hf
  have hu : ∀ j, j ≠ 2 → upW w 2 v j = w j := fun j hj => up_n hj
  have hm : ∀ b, b ≠ 50 → (xi_wI m 50 2 (zi v)).1 b = m.1 b := fun b hb => wI_o hb
  have hm2 : ∀ j, j ≠ 2 → (xi_wI m 50 2 (zi v)).1 50 j = m.1 50 j := fun j hj => mw_ne (by omega)
  have hp : pN (upW w 2 v) = pN w := pN_up (by omega)
  unfold RF
  rw [hp]
  exact ⟨by rw [hm2 _ (by omega), hu _ (by omega)]; exact f0, by rw [hm2 _ (by omega), hu _ (by omega)]; exact f1, by rw [mw_eq, up_e], by rw [hm2 _ (by omega), hu _ (by omega)]; exact f3, fun j hj => by rw [hm _ (by omega), hu _ (by omega)]; exact fc j hj, fun j hj => by rw [hm _ (by omega), hu _ (by omega)]; exact fg j hj, fun j hj => by rw [hm _ (by omega), hu _ (by omega)]; exact fk j hj, fun j hj => by rw [hm _ (by omega), hu _ (by omega)]; exact fs j hj, fun j hj => by rw [hm _ (by omega), hu _ (by omega)]; exact fp j hj, fun j hj => by rw [hm _ (by omega), hu _ (by omega)]; exact ft j hj⟩
theorem Bd_goal (hb : Bd w) {k : Nat} (hk : k = 4 ∨ k = 5 ∨ k = 2) (v : Int) : Bd (upW w k v) := by
  obtain ⟨b0, b1, b3, bc, bp⟩ := hb
  have hu : ∀ j, j = 0 ∨ j = 1 ∨ j = 3 ∨ 6 ≤ j → upW w k v j = w j := fun j hj => up_n (by omega)
  exact ⟨by rw [hu _ (by omega)]; exact b0, by rw [hu _ (by omega)]; exact b1, by rw [hu _ (by omega)]; exact b3, fun j hj => by rw [hu _ (by omega)]; exact bc j hj, fun i hi => by rw [hu _ (by omega), hu _ (by omega), hu _ (by omega), hu _ (by omega)]; exact bp i hi⟩
def agM (m : xi_M) (w : Nat → Int) (f : Nat → Bool) (x : Int) : xi_M := xi_wI (xi_wI m (50 + 2) 0 (zi (w 4 + x * cntP (fun i => f i && sdP w 0 i) (pN w)))) (50 + 2) 1 (zi (w 5 + x * cntP (fun i => f i && sdP w 1 i) (pN w)))
theorem C_addGoals (hs : ShR S 50) (hf : RF m 50 w) (hb : Bd w) (f : Nat → Bool) (x : Int) : E_X6_addGoals S 50 (setP f (pN w)) (zi x) m = some (none, agM m w f x) := by
  have hn := hb.n
  have h0 := C_membersOf hs hf hb (s := 0) (by omega)
  have hf2 := RF_goal hf (k := 0) (by omega) (w 4 + x * cntP (fun i => f i && sdP w 0 i) (pN w))
  have h1 := C_membersOf hs hf2 (Bd_goal hb (by omega) _) (s := 1) (by omega)
  rw [pN_up (by omega), set_cong (g := sdP w 1) (fun i hi => by unfold sdP; rw [up_n (by omega)])] at h1
  have a0 := set_and f (sdP w 0) (n := pN w) (by omega)
  have a1 := set_and f (sdP w 1) (n := pN w) (by omega)
  have c0 := bc_set (fun i => f i && sdP w 0 i) (pN w) hn.2
  have c1 := bc_set (fun i => f i && sdP w 1 i) (pN w) hn.2
  have g4 : m.1 (50 + 2) 0 = zi (w 4) := hf.2.2.2.2.2.1 0 (by omega)
  have g5 : m.1 (50 + 2) 1 = zi (w 5) := hf.2.2.2.2.2.1 1 (by omega)
  have g6 : ∀ y : Int32, (xi_wI m (50 + 2) 0 y).1 (50 + 2) 1 = zi (w 5) := fun y => by rw [mw_ne (by omega)]; exact g5
  unfold E_X6_addGoals agM
  repeat (first | (with_reducible refine (if_pos ?_).trans ?_; focus (simp (disch := omega) only [zi_f, zi_0, zi_1, zi_31, zi_all, zi_8, zi_16, zi_add, zi_sub, zi_mul, zi_neg, zi_lt, zi_le, zi_eq, zi_div, zi_t, zi_n, xb_I, xb_J, xb_V, xb_s, if_pos, if_neg, if_true, if_false, true_and, and_true, true_or, or_true, false_or, or_false, not_true, not_false_iff, zb_z, zb_o, zb_ft, tn_0, tn_1, tn_2, tn_3, tn_c, Int.reduceToNat, te_0, te_1, tk_0, tk_1, tk_m, ts_1, or_0, bp_f, sR_s0 hs, sR_s5 hs, sR_s6 hs, sR_s7 hs, sR_s8 hs, sR_s9 hs, sR_s10 hs, sR_s11 hs, sR_s12 hs, sR_s13 hs, sR_k1 hs, sR_k2 hs, sR_k3 hs, sR_k4 hs, sR_k5 hs, sR_k6 hs, sR_k7 hs, sR_k8 hs, sR_k9 hs, sR_l1 hs, sR_l2 hs, sR_l3 hs, sR_l4 hs, sR_l5 hs, sR_l6 hs, sR_l7 hs, sR_l8 hs, sR_l9 hs, h0, h1, C_bc, a0, a1, c0, c1, g4, g5, g6] <;> omega)) | (with_reducible refine (if_neg ?_).trans ?_; focus (simp (disch := omega) only [zi_f, zi_0, zi_1, zi_31, zi_all, zi_8, zi_16, zi_add, zi_sub, zi_mul, zi_neg, zi_lt, zi_le, zi_eq, zi_div, zi_t, zi_n, xb_I, xb_J, xb_V, xb_s, if_pos, if_neg, if_true, if_false, true_and, and_true, true_or, or_true, false_or, or_false, not_true, not_false_iff, zb_z, zb_o, zb_ft, tn_0, tn_1, tn_2, tn_3, tn_c, Int.reduceToNat, te_0, te_1, tk_0, tk_1, tk_m, ts_1, or_0, bp_f, sR_s0 hs, sR_s5 hs, sR_s6 hs, sR_s7 hs, sR_s8 hs, sR_s9 hs, sR_s10 hs, sR_s11 hs, sR_s12 hs, sR_s13 hs, sR_k1 hs, sR_k2 hs, sR_k3 hs, sR_k4 hs, sR_k5 hs, sR_k6 hs, sR_k7 hs, sR_k8 hs, sR_k9 hs, sR_l1 hs, sR_l2 hs, sR_l3 hs, sR_l4 hs, sR_l5 hs, sR_l6 hs, sR_l7 hs, sR_l8 hs, sR_l9 hs, h0, h1, C_bc, a0, a1, c0, c1, g4, g5, g6] <;> omega)) | ((conv => lhs; arg 1; simp (disch := omega) only [zi_f, zi_0, zi_1, zi_31, zi_all, zi_8, zi_16, zi_add, zi_sub, zi_mul, zi_neg, zi_lt, zi_le, zi_eq, zi_div, zi_t, zi_n, xb_I, xb_J, xb_V, xb_s, if_pos, if_neg, if_true, if_false, true_and, and_true, true_or, or_true, false_or, or_false, not_true, not_false_iff, zb_z, zb_o, zb_ft, tn_0, tn_1, tn_2, tn_3, tn_c, Int.reduceToNat, te_0, te_1, tk_0, tk_1, tk_m, ts_1, or_0, bp_f, sR_s0 hs, sR_s5 hs, sR_s6 hs, sR_s7 hs, sR_s8 hs, sR_s9 hs, sR_s10 hs, sR_s11 hs, sR_s12 hs, sR_s13 hs, sR_k1 hs, sR_k2 hs, sR_k3 hs, sR_k4 hs, sR_k5 hs, sR_k6 hs, sR_k7 hs, sR_k8 hs, sR_k9 hs, sR_l1 hs, sR_l2 hs, sR_l3 hs, sR_l4 hs, sR_l5 hs, sR_l6 hs, sR_l7 hs, sR_l8 hs, sR_l9 hs, h0, h1, C_bc, a0, a1, c0, c1, g4, g5, g6]); first | with_reducible refine xb_I.trans ?_ | with_reducible refine xb_V.trans ?_ | with_reducible refine xb_J.trans ?_ | with_reducible refine xb_s.trans ?_))
  first | (simp (disch := omega) only [zi_f, zi_0, zi_1, zi_31, zi_all, zi_8, zi_16, zi_add, zi_sub, zi_mul, zi_neg, zi_lt, zi_le, zi_eq, zi_div, zi_t, zi_n, xb_I, xb_J, xb_V, xb_s, if_pos, if_neg, if_true, if_false, true_and, and_true, true_or, or_true, false_or, or_false, not_true, not_false_iff, zb_z, zb_o, zb_ft, tn_0, tn_1, tn_2, tn_3, tn_c, Int.reduceToNat, te_0, te_1, tk_0, tk_1, tk_m, ts_1, or_0, bp_f, vI, sR_s0 hs, sR_s5 hs, sR_s6 hs, sR_s7 hs, sR_s8 hs, sR_s9 hs, sR_s10 hs, sR_s11 hs, sR_s12 hs, sR_s13 hs, sR_k1 hs, sR_k2 hs, sR_k3 hs, sR_k4 hs, sR_k5 hs, sR_k6 hs, sR_k7 hs, sR_k8 hs, sR_k9 hs, sR_l1 hs, sR_l2 hs, sR_l3 hs, sR_l4 hs, sR_l5 hs, sR_l6 hs, sR_l7 hs, sR_l8 hs, sR_l9 hs, h0, h1, C_bc, a0, a1, c0, c1, g4, g5, g6]; done) | rfl | (simp (disch := omega) only [zi_f, zi_0, zi_1, zi_31, zi_all, zi_8, zi_16, zi_add, zi_sub, zi_mul, zi_neg, zi_lt, zi_le, zi_eq, zi_div, zi_t, zi_n, xb_I, xb_J, xb_V, xb_s, if_pos, if_neg, if_true, if_false, true_and, and_true, true_or, or_true, false_or, or_false, not_true, not_false_iff, zb_z, zb_o, zb_ft, tn_0, tn_1, tn_2, tn_3, tn_c, Int.reduceToNat, te_0, te_1, tk_0, tk_1, tk_m, ts_1, or_0, bp_f, vI, sR_s0 hs, sR_s5 hs, sR_s6 hs, sR_s7 hs, sR_s8 hs, sR_s9 hs, sR_s10 hs, sR_s11 hs, sR_s12 hs, sR_s13 hs, sR_k1 hs, sR_k2 hs, sR_k3 hs, sR_k4 hs, sR_k5 hs, sR_k6 hs, sR_k7 hs, sR_k8 hs, sR_k9 hs, sR_l1 hs, sR_l2 hs, sR_l3 hs, sR_l4 hs, sR_l5 hs, sR_l6 hs, sR_l7 hs, sR_l8 hs, sR_l9 hs, h0, h1, C_bc, a0, a1, c0, c1, g4, g5, g6]; rfl)
theorem ag_o {f : Nat → Bool} {x : Int} {b : Nat} (h : b ≠ 50 + 2) : (agM m w f x).1 b = m.1 b := by rw [agM, wI_o h, wI_o h]
theorem RF_ag (hf : RF m 50 w) (f : Nat → Bool) (x : Int) : RF (agM m w f x) 50 (upW (upW w 4 (w 4 + x * cntP (fun i => f i && sdP w 0 i) (pN w))) 5 (w 5 + x * cntP (fun i => f i && sdP w 1 i) (pN w))) := RF_goal (RF_goal hf (k := 0) (by omega) _) (k := 1) (by omega) _
/-- what every deed of the class gives -/
def Cd1 (S : xi_S) (e : Option xi_R) (m : xi_M) (q : Sg) : Prop := ∃ m2, e = some (none, m2) ∧ CC m2 q ∧ ∀ b, 15 ≤ b → b < 30 → m2.1 b = m.1 b ∧ m2.2 b = m.2 b
theorem C_move (hS : Sh S) {t : TT} {r : RR} {k : KK} {f : FF} (hC : CC m (t, r, k, f)) (hw : Wk (r.2 r.1)) (hn : r.1 < 40) {c : Nat} (hc : c < 4) {x : Int} (hx : -1000 ≤ x ∧ x ≤ 1000) : Cd1 S (E_X6_moveCoat S 50 (zi c) (zi x) m) m (t, psR r (upW (r.2 r.1) (6 + c) (r.2 r.1 (6 + c) + x)), k, f) := by
  have hs : ShR S 50 := hS.2.2.2 0 (by omega)
  have hf : RF m 50 (r.2 r.1) := hC.2.1.1
  have hN : m.1 50 4 = zi (r.1 : Nat) := hC.2.1.2.1
  have fc := hf.2.2.2.2.1 c hc
  have hnt := C_note hs hN hn (zi 1) (zi c) (zi (r.2 r.1 (6 + c)))
  have e1 : (ntC m r.1 (zi 1) (zi c) (zi (r.2 r.1 (6 + c)))).1 (50 + 1) c = zi (r.2 r.1 (6 + c)) := (RF_nt hf).2.2.2.2.1 c hc
  refine ⟨xi_wI (ntC m r.1 (zi 1) (zi c) (zi (r.2 r.1 (6 + c)))) (50 + 1) c (zi (r.2 r.1 (6 + c) + x)), ?_, ?_, fun b h1 h2 => ⟨by rw [wI_o (by omega), ntC_o (by omega)], rfl⟩⟩
  · unfold E_X6_moveCoat
    repeat (first | (with_reducible refine (if_pos ?_).trans ?_; focus (simp (disch := omega) only [zi_f, zi_0, zi_1, zi_31, zi_all, zi_8, zi_16, zi_add, zi_sub, zi_mul, zi_neg, zi_lt, zi_le, zi_eq, zi_div, zi_t, zi_n, xb_I, xb_J, xb_V, xb_s, if_pos, if_neg, if_true, if_false, true_and, and_true, true_or, or_true, false_or, or_false, not_true, not_false_iff, zb_z, zb_o, zb_ft, tn_0, tn_1, tn_2, tn_3, tn_c, Int.reduceToNat, te_0, te_1, tk_0, tk_1, tk_m, ts_1, or_0, bp_f, sR_s0 hs, sR_s5 hs, sR_s6 hs, sR_s7 hs, sR_s8 hs, sR_s9 hs, sR_s10 hs, sR_s11 hs, sR_s12 hs, sR_s13 hs, sR_k1 hs, sR_k2 hs, sR_k3 hs, sR_k4 hs, sR_k5 hs, sR_k6 hs, sR_k7 hs, sR_k8 hs, sR_k9 hs, sR_l1 hs, sR_l2 hs, sR_l3 hs, sR_l4 hs, sR_l5 hs, sR_l6 hs, sR_l7 hs, sR_l8 hs, sR_l9 hs, fc, hnt, e1] <;> omega)) | (with_reducible refine (if_neg ?_).trans ?_; focus (simp (disch := omega) only [zi_f, zi_0, zi_1, zi_31, zi_all, zi_8, zi_16, zi_add, zi_sub, zi_mul, zi_neg, zi_lt, zi_le, zi_eq, zi_div, zi_t, zi_n, xb_I, xb_J, xb_V, xb_s, if_pos, if_neg, if_true, if_false, true_and, and_true, true_or, or_true, false_or, or_false, not_true, not_false_iff, zb_z, zb_o, zb_ft, tn_0, tn_1, tn_2, tn_3, tn_c, Int.reduceToNat, te_0, te_1, tk_0, tk_1, tk_m, ts_1, or_0, bp_f, sR_s0 hs, sR_s5 hs, sR_s6 hs, sR_s7 hs, sR_s8 hs, sR_s9 hs, sR_s10 hs, sR_s11 hs, sR_s12 hs, sR_s13 hs, sR_k1 hs, sR_k2 hs, sR_k3 hs, sR_k4 hs, sR_k5 hs, sR_k6 hs, sR_k7 hs, sR_k8 hs, sR_k9 hs, sR_l1 hs, sR_l2 hs, sR_l3 hs, sR_l4 hs, sR_l5 hs, sR_l6 hs, sR_l7 hs, sR_l8 hs, sR_l9 hs, fc, hnt, e1] <;> omega)) | ((conv => lhs; arg 1; simp (disch := omega) only [zi_f, zi_0, zi_1, zi_31, zi_all, zi_8, zi_16, zi_add, zi_sub, zi_mul, zi_neg, zi_lt, zi_le, zi_eq, zi_div, zi_t, zi_n, xb_I, xb_J, xb_V, xb_s, if_pos, if_neg, if_true, if_false, true_and, and_true, true_or, or_true, false_or, or_false, not_true, not_false_iff, zb_z, zb_o, zb_ft, tn_0, tn_1, tn_2, tn_3, tn_c, Int.reduceToNat, te_0, te_1, tk_0, tk_1, tk_m, ts_1, or_0, bp_f, sR_s0 hs, sR_s5 hs, sR_s6 hs, sR_s7 hs, sR_s8 hs, sR_s9 hs, sR_s10 hs, sR_s11 hs, sR_s12 hs, sR_s13 hs, sR_k1 hs, sR_k2 hs, sR_k3 hs, sR_k4 hs, sR_k5 hs, sR_k6 hs, sR_k7 hs, sR_k8 hs, sR_k9 hs, sR_l1 hs, sR_l2 hs, sR_l3 hs, sR_l4 hs, sR_l5 hs, sR_l6 hs, sR_l7 hs, sR_l8 hs, sR_l9 hs, fc, hnt, e1]); first | with_reducible refine xb_I.trans ?_ | with_reducible refine xb_V.trans ?_ | with_reducible refine xb_J.trans ?_ | with_reducible refine xb_s.trans ?_))
    first | (simp (disch := omega) only [zi_f, zi_0, zi_1, zi_31, zi_all, zi_8, zi_16, zi_add, zi_sub, zi_mul, zi_neg, zi_lt, zi_le, zi_eq, zi_div, zi_t, zi_n, xb_I, xb_J, xb_V, xb_s, if_pos, if_neg, if_true, if_false, true_and, and_true, true_or, or_true, false_or, or_false, not_true, not_false_iff, zb_z, zb_o, zb_ft, tn_0, tn_1, tn_2, tn_3, tn_c, Int.reduceToNat, te_0, te_1, tk_0, tk_1, tk_m, ts_1, or_0, bp_f, vI, sR_s0 hs, sR_s5 hs, sR_s6 hs, sR_s7 hs, sR_s8 hs, sR_s9 hs, sR_s10 hs, sR_s11 hs, sR_s12 hs, sR_s13 hs, sR_k1 hs, sR_k2 hs, sR_k3 hs, sR_k4 hs, sR_k5 hs, sR_k6 hs, sR_k7 hs, sR_k8 hs, sR_k9 hs, sR_l1 hs, sR_l2 hs, sR_l3 hs, sR_l4 hs, sR_l5 hs, sR_l6 hs, sR_l7 hs, sR_l8 hs, sR_l9 hs, fc, hnt, e1]; done) | rfl | (simp (disch := omega) only [zi_f, zi_0, zi_1, zi_31, zi_all, zi_8, zi_16, zi_add, zi_sub, zi_mul, zi_neg, zi_lt, zi_le, zi_eq, zi_div, zi_t, zi_n, xb_I, xb_J, xb_V, xb_s, if_pos, if_neg, if_true, if_false, true_and, and_true, true_or, or_true, false_or, or_false, not_true, not_false_iff, zb_z, zb_o, zb_ft, tn_0, tn_1, tn_2, tn_3, tn_c, Int.reduceToNat, te_0, te_1, tk_0, tk_1, tk_m, ts_1, or_0, bp_f, vI, sR_s0 hs, sR_s5 hs, sR_s6 hs, sR_s7 hs, sR_s8 hs, sR_s9 hs, sR_s10 hs, sR_s11 hs, sR_s12 hs, sR_s13 hs, sR_k1 hs, sR_k2 hs, sR_k3 hs, sR_k4 hs, sR_k5 hs, sR_k6 hs, sR_k7 hs, sR_k8 hs, sR_k9 hs, sR_l1 hs, sR_l2 hs, sR_l3 hs, sR_l4 hs, sR_l5 hs, sR_l6 hs, sR_l7 hs, sR_l8 hs, sR_l9 hs, fc, hnt, e1]; rfl)
  · refine CC_ps (s := zi 1) (o := zi c) (x := zi (r.2 r.1 (6 + c))) hC (RF_coat (RF_nt hf) hc _) (by rw [wI_o (by omega), nt_4]) (fun b h1 h2 => wI_o (by omega)) (fun b hb => by rw [wI_o (by omega), ntC_o hb]) rfl ?_
    refine Or.inr (Or.inl ⟨by rw [wI_o (by omega), nt_7], c, hc, by rw [wI_o (by omega), nt_8], by rw [wI_o (by omega), nt_9], fun j hj hne => by rw [up_n hne]⟩)
theorem C_turn (hS : Sh S) {t : TT} {r : RR} {k : KK} {f : FF} (hC : CC m (t, r, k, f)) (hn : r.1 < 40) (x : Int) : Cd1 S (E_X6_turnWeather S 50 (zi x) m) m (t, psR r (upW (r.2 r.1) 3 x), k, f) := by
  have hs : ShR S 50 := hS.2.2.2 0 (by omega)
  have hf : RF m 50 (r.2 r.1) := hC.2.1.1
  have hN : m.1 50 4 = zi (r.1 : Nat) := hC.2.1.2.1
  have f3 := hf.2.2.2.1
  have hnt := C_note hs hN hn (zi 2) (zi 0) (zi (r.2 r.1 3))
  refine ⟨xi_wI (ntC m r.1 (zi 2) (zi 0) (zi (r.2 r.1 3))) 50 3 (zi x), ?_, ?_, fun b h1 h2 => ⟨by rw [wI_o (by omega), ntC_o (by omega)], rfl⟩⟩
  · unfold E_X6_turnWeather
    repeat (first | (with_reducible refine (if_pos ?_).trans ?_; focus (simp (disch := omega) only [zi_f, zi_0, zi_1, zi_31, zi_all, zi_8, zi_16, zi_add, zi_sub, zi_mul, zi_neg, zi_lt, zi_le, zi_eq, zi_div, zi_t, zi_n, xb_I, xb_J, xb_V, xb_s, if_pos, if_neg, if_true, if_false, true_and, and_true, true_or, or_true, false_or, or_false, not_true, not_false_iff, zb_z, zb_o, zb_ft, tn_0, tn_1, tn_2, tn_3, tn_c, Int.reduceToNat, te_0, te_1, tk_0, tk_1, tk_m, ts_1, or_0, bp_f, sR_s0 hs, sR_s5 hs, sR_s6 hs, sR_s7 hs, sR_s8 hs, sR_s9 hs, sR_s10 hs, sR_s11 hs, sR_s12 hs, sR_s13 hs, sR_k1 hs, sR_k2 hs, sR_k3 hs, sR_k4 hs, sR_k5 hs, sR_k6 hs, sR_k7 hs, sR_k8 hs, sR_k9 hs, sR_l1 hs, sR_l2 hs, sR_l3 hs, sR_l4 hs, sR_l5 hs, sR_l6 hs, sR_l7 hs, sR_l8 hs, sR_l9 hs, f3, hnt] <;> omega)) | (with_reducible refine (if_neg ?_).trans ?_; focus (simp (disch := omega) only [zi_f, zi_0, zi_1, zi_31, zi_all, zi_8, zi_16, zi_add, zi_sub, zi_mul, zi_neg, zi_lt, zi_le, zi_eq, zi_div, zi_t, zi_n, xb_I, xb_J, xb_V, xb_s, if_pos, if_neg, if_true, if_false, true_and, and_true, true_or, or_true, false_or, or_false, not_true, not_false_iff, zb_z, zb_o, zb_ft, tn_0, tn_1, tn_2, tn_3, tn_c, Int.reduceToNat, te_0, te_1, tk_0, tk_1, tk_m, ts_1, or_0, bp_f, sR_s0 hs, sR_s5 hs, sR_s6 hs, sR_s7 hs, sR_s8 hs, sR_s9 hs, sR_s10 hs, sR_s11 hs, sR_s12 hs, sR_s13 hs, sR_k1 hs, sR_k2 hs, sR_k3 hs, sR_k4 hs, sR_k5 hs, sR_k6 hs, sR_k7 hs, sR_k8 hs, sR_k9 hs, sR_l1 hs, sR_l2 hs, sR_l3 hs, sR_l4 hs, sR_l5 hs, sR_l6 hs, sR_l7 hs, sR_l8 hs, sR_l9 hs, f3, hnt] <;> omega)) | ((conv => lhs; arg 1; simp (disch := omega) only [zi_f, zi_0, zi_1, zi_31, zi_all, zi_8, zi_16, zi_add, zi_sub, zi_mul, zi_neg, zi_lt, zi_le, zi_eq, zi_div, zi_t, zi_n, xb_I, xb_J, xb_V, xb_s, if_pos, if_neg, if_true, if_false, true_and, and_true, true_or, or_true, false_or, or_false, not_true, not_false_iff, zb_z, zb_o, zb_ft, tn_0, tn_1, tn_2, tn_3, tn_c, Int.reduceToNat, te_0, te_1, tk_0, tk_1, tk_m, ts_1, or_0, bp_f, sR_s0 hs, sR_s5 hs, sR_s6 hs, sR_s7 hs, sR_s8 hs, sR_s9 hs, sR_s10 hs, sR_s11 hs, sR_s12 hs, sR_s13 hs, sR_k1 hs, sR_k2 hs, sR_k3 hs, sR_k4 hs, sR_k5 hs, sR_k6 hs, sR_k7 hs, sR_k8 hs, sR_k9 hs, sR_l1 hs, sR_l2 hs, sR_l3 hs, sR_l4 hs, sR_l5 hs, sR_l6 hs, sR_l7 hs, sR_l8 hs, sR_l9 hs, f3, hnt]); first | with_reducible refine xb_I.trans ?_ | with_reducible refine xb_V.trans ?_ | with_reducible refine xb_J.trans ?_ | with_reducible refine xb_s.trans ?_))
    first | (simp (disch := omega) only [zi_f, zi_0, zi_1, zi_31, zi_all, zi_8, zi_16, zi_add, zi_sub, zi_mul, zi_neg, zi_lt, zi_le, zi_eq, zi_div, zi_t, zi_n, xb_I, xb_J, xb_V, xb_s, if_pos, if_neg, if_true, if_false, true_and, and_true, true_or, or_true, false_or, or_false, not_true, not_false_iff, zb_z, zb_o, zb_ft, tn_0, tn_1, tn_2, tn_3, tn_c, Int.reduceToNat, te_0, te_1, tk_0, tk_1, tk_m, ts_1, or_0, bp_f, vI, sR_s0 hs, sR_s5 hs, sR_s6 hs, sR_s7 hs, sR_s8 hs, sR_s9 hs, sR_s10 hs, sR_s11 hs, sR_s12 hs, sR_s13 hs, sR_k1 hs, sR_k2 hs, sR_k3 hs, sR_k4 hs, sR_k5 hs, sR_k6 hs, sR_k7 hs, sR_k8 hs, sR_k9 hs, sR_l1 hs, sR_l2 hs, sR_l3 hs, sR_l4 hs, sR_l5 hs, sR_l6 hs, sR_l7 hs, sR_l8 hs, sR_l9 hs, f3, hnt]; done) | rfl | (simp (disch := omega) only [zi_f, zi_0, zi_1, zi_31, zi_all, zi_8, zi_16, zi_add, zi_sub, zi_mul, zi_neg, zi_lt, zi_le, zi_eq, zi_div, zi_t, zi_n, xb_I, xb_J, xb_V, xb_s, if_pos, if_neg, if_true, if_false, true_and, and_true, true_or, or_true, false_or, or_false, not_true, not_false_iff, zb_z, zb_o, zb_ft, tn_0, tn_1, tn_2, tn_3, tn_c, Int.reduceToNat, te_0, te_1, tk_0, tk_1, tk_m, ts_1, or_0, bp_f, vI, sR_s0 hs, sR_s5 hs, sR_s6 hs, sR_s7 hs, sR_s8 hs, sR_s9 hs, sR_s10 hs, sR_s11 hs, sR_s12 hs, sR_s13 hs, sR_k1 hs, sR_k2 hs, sR_k3 hs, sR_k4 hs, sR_k5 hs, sR_k6 hs, sR_k7 hs, sR_k8 hs, sR_k9 hs, sR_l1 hs, sR_l2 hs, sR_l3 hs, sR_l4 hs, sR_l5 hs, sR_l6 hs, sR_l7 hs, sR_l8 hs, sR_l9 hs, f3, hnt]; rfl)
  · refine CC_ps (s := zi 2) (o := zi 0) (x := zi (r.2 r.1 3)) hC (RF_wet (RF_nt hf) _) (by rw [mw_ne (by omega), nt_4]) (fun b h1 h2 => wI_o (by omega)) (fun b hb => by rw [wI_o (by omega), ntC_o hb]) rfl ?_
    refine Or.inr (Or.inr (Or.inl ⟨by rw [wI_o (by omega), nt_7], by rw [wI_o (by omega), nt_9], fun j hj hne => by rw [up_n hne]⟩))
theorem C_send (hS : Sh S) {t : TT} {r : RR} {k : KK} {f : FF} (hC : CC m (t, r, k, f)) (hn : r.1 < 40) (h6 : pN (r.2 r.1) ≤ 6) {i : Nat} (hi : i < pN (r.2 r.1)) (x : Int) : Cd1 S (E_X6_send S 50 (zi i) (zi x) m) m (t, psR r (upW (r.2 r.1) (12 + 4 * i) x), k, f) := by
  have hs : ShR S 50 := hS.2.2.2 0 (by omega)
  have hf : RF m 50 (r.2 r.1) := hC.2.1.1
  have hN : m.1 50 4 = zi (r.1 : Nat) := hC.2.1.2.1
  have fp := hf.2.2.2.2.2.2.2.2.1 i hi
  have hnt := C_note hs hN hn (zi 3) (zi i) (zi (r.2 r.1 (12 + 4 * i)))
  refine ⟨xi_wI (ntC m r.1 (zi 3) (zi i) (zi (r.2 r.1 (12 + 4 * i)))) (50 + 5) i (zi x), ?_, ?_, fun b h1 h2 => ⟨by rw [wI_o (by omega), ntC_o (by omega)], rfl⟩⟩
  · unfold E_X6_send
    repeat (first | (with_reducible refine (if_pos ?_).trans ?_; focus (simp (disch := omega) only [zi_f, zi_0, zi_1, zi_31, zi_all, zi_8, zi_16, zi_add, zi_sub, zi_mul, zi_neg, zi_lt, zi_le, zi_eq, zi_div, zi_t, zi_n, xb_I, xb_J, xb_V, xb_s, if_pos, if_neg, if_true, if_false, true_and, and_true, true_or, or_true, false_or, or_false, not_true, not_false_iff, zb_z, zb_o, zb_ft, tn_0, tn_1, tn_2, tn_3, tn_c, Int.reduceToNat, te_0, te_1, tk_0, tk_1, tk_m, ts_1, or_0, bp_f, sR_s0 hs, sR_s5 hs, sR_s6 hs, sR_s7 hs, sR_s8 hs, sR_s9 hs, sR_s10 hs, sR_s11 hs, sR_s12 hs, sR_s13 hs, sR_k1 hs, sR_k2 hs, sR_k3 hs, sR_k4 hs, sR_k5 hs, sR_k6 hs, sR_k7 hs, sR_k8 hs, sR_k9 hs, sR_l1 hs, sR_l2 hs, sR_l3 hs, sR_l4 hs, sR_l5 hs, sR_l6 hs, sR_l7 hs, sR_l8 hs, sR_l9 hs, fp, hnt] <;> omega)) | (with_reducible refine (if_neg ?_).trans ?_; focus (simp (disch := omega) only [zi_f, zi_0, zi_1, zi_31, zi_all, zi_8, zi_16, zi_add, zi_sub, zi_mul, zi_neg, zi_lt, zi_le, zi_eq, zi_div, zi_t, zi_n, xb_I, xb_J, xb_V, xb_s, if_pos, if_neg, if_true, if_false, true_and, and_true, true_or, or_true, false_or, or_false, not_true, not_false_iff, zb_z, zb_o, zb_ft, tn_0, tn_1, tn_2, tn_3, tn_c, Int.reduceToNat, te_0, te_1, tk_0, tk_1, tk_m, ts_1, or_0, bp_f, sR_s0 hs, sR_s5 hs, sR_s6 hs, sR_s7 hs, sR_s8 hs, sR_s9 hs, sR_s10 hs, sR_s11 hs, sR_s12 hs, sR_s13 hs, sR_k1 hs, sR_k2 hs, sR_k3 hs, sR_k4 hs, sR_k5 hs, sR_k6 hs, sR_k7 hs, sR_k8 hs, sR_k9 hs, sR_l1 hs, sR_l2 hs, sR_l3 hs, sR_l4 hs, sR_l5 hs, sR_l6 hs, sR_l7 hs, sR_l8 hs, sR_l9 hs, fp, hnt] <;> omega)) | ((conv => lhs; arg 1; simp (disch := omega) only [zi_f, zi_0, zi_1, zi_31, zi_all, zi_8, zi_16, zi_add, zi_sub, zi_mul, zi_neg, zi_lt, zi_le, zi_eq, zi_div, zi_t, zi_n, xb_I, xb_J, xb_V, xb_s, if_pos, if_neg, if_true, if_false, true_and, and_true, true_or, or_true, false_or, or_false, not_true, not_false_iff, zb_z, zb_o, zb_ft, tn_0, tn_1, tn_2, tn_3, tn_c, Int.reduceToNat, te_0, te_1, tk_0, tk_1, tk_m, ts_1, or_0, bp_f, sR_s0 hs, sR_s5 hs, sR_s6 hs, sR_s7 hs, sR_s8 hs, sR_s9 hs, sR_s10 hs, sR_s11 hs, sR_s12 hs, sR_s13 hs, sR_k1 hs, sR_k2 hs, sR_k3 hs, sR_k4 hs, sR_k5 hs, sR_k6 hs, sR_k7 hs, sR_k8 hs, sR_k9 hs, sR_l1 hs, sR_l2 hs, sR_l3 hs, sR_l4 hs, sR_l5 hs, sR_l6 hs, sR_l7 hs, sR_l8 hs, sR_l9 hs, fp, hnt]); first | with_reducible refine xb_I.trans ?_ | with_reducible refine xb_V.trans ?_ | with_reducible refine xb_J.trans ?_ | with_reducible refine xb_s.trans ?_))
    first | (simp (disch := omega) only [zi_f, zi_0, zi_1, zi_31, zi_all, zi_8, zi_16, zi_add, zi_sub, zi_mul, zi_neg, zi_lt, zi_le, zi_eq, zi_div, zi_t, zi_n, xb_I, xb_J, xb_V, xb_s, if_pos, if_neg, if_true, if_false, true_and, and_true, true_or, or_true, false_or, or_false, not_true, not_false_iff, zb_z, zb_o, zb_ft, tn_0, tn_1, tn_2, tn_3, tn_c, Int.reduceToNat, te_0, te_1, tk_0, tk_1, tk_m, ts_1, or_0, bp_f, vI, sR_s0 hs, sR_s5 hs, sR_s6 hs, sR_s7 hs, sR_s8 hs, sR_s9 hs, sR_s10 hs, sR_s11 hs, sR_s12 hs, sR_s13 hs, sR_k1 hs, sR_k2 hs, sR_k3 hs, sR_k4 hs, sR_k5 hs, sR_k6 hs, sR_k7 hs, sR_k8 hs, sR_k9 hs, sR_l1 hs, sR_l2 hs, sR_l3 hs, sR_l4 hs, sR_l5 hs, sR_l6 hs, sR_l7 hs, sR_l8 hs, sR_l9 hs, fp, hnt]; done) | rfl | (simp (disch := omega) only [zi_f, zi_0, zi_1, zi_31, zi_all, zi_8, zi_16, zi_add, zi_sub, zi_mul, zi_neg, zi_lt, zi_le, zi_eq, zi_div, zi_t, zi_n, xb_I, xb_J, xb_V, xb_s, if_pos, if_neg, if_true, if_false, true_and, and_true, true_or, or_true, false_or, or_false, not_true, not_false_iff, zb_z, zb_o, zb_ft, tn_0, tn_1, tn_2, tn_3, tn_c, Int.reduceToNat, te_0, te_1, tk_0, tk_1, tk_m, ts_1, or_0, bp_f, vI, sR_s0 hs, sR_s5 hs, sR_s6 hs, sR_s7 hs, sR_s8 hs, sR_s9 hs, sR_s10 hs, sR_s11 hs, sR_s12 hs, sR_s13 hs, sR_k1 hs, sR_k2 hs, sR_k3 hs, sR_k4 hs, sR_k5 hs, sR_k6 hs, sR_k7 hs, sR_k8 hs, sR_k9 hs, sR_l1 hs, sR_l2 hs, sR_l3 hs, sR_l4 hs, sR_l5 hs, sR_l6 hs, sR_l7 hs, sR_l8 hs, sR_l9 hs, fp, hnt]; rfl)
  · refine CC_ps (s := zi 3) (o := zi i) (x := zi (r.2 r.1 (12 + 4 * i))) hC (RF_place (RF_nt hf) _) (by rw [wI_o (by omega), nt_4]) (fun b h1 h2 => wI_o (by omega)) (fun b hb => by rw [wI_o (by omega), ntC_o hb]) rfl ?_
    refine Or.inr (Or.inr (Or.inr ⟨by rw [wI_o (by omega), nt_7], i, hi, by rw [wI_o (by omega), nt_8], by rw [wI_o (by omega), nt_9], fun j hj hne => by rw [up_n hne]⟩))
theorem C_sc0 (hS : Sh S) (hf : RF m 50 w) (hw : Wk w) : E_X6_scorers S 50 (zi 0) m = some (some (.int (setP (scP w) (pN w))), m) := by
  rw [C_scorers (hS.2.2.2 0 (by omega)) hf hw.1 hw.2.1, set_cong (fun i _ => sc_F (wb_0 i))]
theorem C_end (hS : Sh S) {t : TT} {r : RR} {k : KK} {f : FF} (hC : CC m (t, r, k, f)) (hw : Wk (r.2 r.1)) (hn : r.1 < 40) : Cd1 S (E_X6_endTerm S 50 (setP (scP (r.2 r.1)) (pN (r.2 r.1))) m) m (t, psR r (plP (r.2 r.1)), k, f) := by
  have hs : ShR S 50 := hS.2.2.2 0 (by omega)
  have hf : RF m 50 (r.2 r.1) := hC.2.1.1
  have hN : m.1 50 4 = zi (r.1 : Nat) := hC.2.1.2.1
  have h6 := hw.1.n
  have hnt := C_note hs hN hn (zi 0) (zi 0) (setP (scP (r.2 r.1)) (pN (r.2 r.1)))
  have hag := C_addGoals hs (RF_nt (n := r.1) (s := zi 0) (o := zi 0) (v := setP (scP (r.2 r.1)) (pN (r.2 r.1))) hf) hw.1 (scP (r.2 r.1)) 1
  have hra := RF_ag (RF_nt (n := r.1) (s := zi 0) (o := zi 0) (v := setP (scP (r.2 r.1)) (pN (r.2 r.1))) hf) (scP (r.2 r.1)) 1
  have f2 := hra.2.2.1
  rw [up_n (by omega), up_n (by omega)] at f2
  refine ⟨xi_wI (agM (ntC m r.1 (zi 0) (zi 0) (setP (scP (r.2 r.1)) (pN (r.2 r.1)))) (r.2 r.1) (scP (r.2 r.1)) 1) 50 2 (zi (r.2 r.1 2 + 1)), ?_, ?_, fun b h1 h2 => ⟨by rw [wI_o (by omega), ag_o (by omega), ntC_o (by omega)], rfl⟩⟩
  · unfold E_X6_endTerm
    repeat (first | (with_reducible refine (if_pos ?_).trans ?_; focus (simp (disch := omega) only [zi_f, zi_0, zi_1, zi_31, zi_all, zi_8, zi_16, zi_add, zi_sub, zi_mul, zi_neg, zi_lt, zi_le, zi_eq, zi_div, zi_t, zi_n, xb_I, xb_J, xb_V, xb_s, if_pos, if_neg, if_true, if_false, true_and, and_true, true_or, or_true, false_or, or_false, not_true, not_false_iff, zb_z, zb_o, zb_ft, tn_0, tn_1, tn_2, tn_3, tn_c, Int.reduceToNat, te_0, te_1, tk_0, tk_1, tk_m, ts_1, or_0, bp_f, sR_s0 hs, sR_s5 hs, sR_s6 hs, sR_s7 hs, sR_s8 hs, sR_s9 hs, sR_s10 hs, sR_s11 hs, sR_s12 hs, sR_s13 hs, sR_k1 hs, sR_k2 hs, sR_k3 hs, sR_k4 hs, sR_k5 hs, sR_k6 hs, sR_k7 hs, sR_k8 hs, sR_k9 hs, sR_l1 hs, sR_l2 hs, sR_l3 hs, sR_l4 hs, sR_l5 hs, sR_l6 hs, sR_l7 hs, sR_l8 hs, sR_l9 hs, hnt, hag, f2] <;> omega)) | (with_reducible refine (if_neg ?_).trans ?_; focus (simp (disch := omega) only [zi_f, zi_0, zi_1, zi_31, zi_all, zi_8, zi_16, zi_add, zi_sub, zi_mul, zi_neg, zi_lt, zi_le, zi_eq, zi_div, zi_t, zi_n, xb_I, xb_J, xb_V, xb_s, if_pos, if_neg, if_true, if_false, true_and, and_true, true_or, or_true, false_or, or_false, not_true, not_false_iff, zb_z, zb_o, zb_ft, tn_0, tn_1, tn_2, tn_3, tn_c, Int.reduceToNat, te_0, te_1, tk_0, tk_1, tk_m, ts_1, or_0, bp_f, sR_s0 hs, sR_s5 hs, sR_s6 hs, sR_s7 hs, sR_s8 hs, sR_s9 hs, sR_s10 hs, sR_s11 hs, sR_s12 hs, sR_s13 hs, sR_k1 hs, sR_k2 hs, sR_k3 hs, sR_k4 hs, sR_k5 hs, sR_k6 hs, sR_k7 hs, sR_k8 hs, sR_k9 hs, sR_l1 hs, sR_l2 hs, sR_l3 hs, sR_l4 hs, sR_l5 hs, sR_l6 hs, sR_l7 hs, sR_l8 hs, sR_l9 hs, hnt, hag, f2] <;> omega)) | ((conv => lhs; arg 1; simp (disch := omega) only [zi_f, zi_0, zi_1, zi_31, zi_all, zi_8, zi_16, zi_add, zi_sub, zi_mul, zi_neg, zi_lt, zi_le, zi_eq, zi_div, zi_t, zi_n, xb_I, xb_J, xb_V, xb_s, if_pos, if_neg, if_true, if_false, true_and, and_true, true_or, or_true, false_or, or_false, not_true, not_false_iff, zb_z, zb_o, zb_ft, tn_0, tn_1, tn_2, tn_3, tn_c, Int.reduceToNat, te_0, te_1, tk_0, tk_1, tk_m, ts_1, or_0, bp_f, sR_s0 hs, sR_s5 hs, sR_s6 hs, sR_s7 hs, sR_s8 hs, sR_s9 hs, sR_s10 hs, sR_s11 hs, sR_s12 hs, sR_s13 hs, sR_k1 hs, sR_k2 hs, sR_k3 hs, sR_k4 hs, sR_k5 hs, sR_k6 hs, sR_k7 hs, sR_k8 hs, sR_k9 hs, sR_l1 hs, sR_l2 hs, sR_l3 hs, sR_l4 hs, sR_l5 hs, sR_l6 hs, sR_l7 hs, sR_l8 hs, sR_l9 hs, hnt, hag, f2]); first | with_reducible refine xb_I.trans ?_ | with_reducible refine xb_V.trans ?_ | with_reducible refine xb_J.trans ?_ | with_reducible refine xb_s.trans ?_))
    first | (simp (disch := omega) only [zi_f, zi_0, zi_1, zi_31, zi_all, zi_8, zi_16, zi_add, zi_sub, zi_mul, zi_neg, zi_lt, zi_le, zi_eq, zi_div, zi_t, zi_n, xb_I, xb_J, xb_V, xb_s, if_pos, if_neg, if_true, if_false, true_and, and_true, true_or, or_true, false_or, or_false, not_true, not_false_iff, zb_z, zb_o, zb_ft, tn_0, tn_1, tn_2, tn_3, tn_c, Int.reduceToNat, te_0, te_1, tk_0, tk_1, tk_m, ts_1, or_0, bp_f, vI, sR_s0 hs, sR_s5 hs, sR_s6 hs, sR_s7 hs, sR_s8 hs, sR_s9 hs, sR_s10 hs, sR_s11 hs, sR_s12 hs, sR_s13 hs, sR_k1 hs, sR_k2 hs, sR_k3 hs, sR_k4 hs, sR_k5 hs, sR_k6 hs, sR_k7 hs, sR_k8 hs, sR_k9 hs, sR_l1 hs, sR_l2 hs, sR_l3 hs, sR_l4 hs, sR_l5 hs, sR_l6 hs, sR_l7 hs, sR_l8 hs, sR_l9 hs, hnt, hag, f2]; done) | rfl | (simp (disch := omega) only [zi_f, zi_0, zi_1, zi_31, zi_all, zi_8, zi_16, zi_add, zi_sub, zi_mul, zi_neg, zi_lt, zi_le, zi_eq, zi_div, zi_t, zi_n, xb_I, xb_J, xb_V, xb_s, if_pos, if_neg, if_true, if_false, true_and, and_true, true_or, or_true, false_or, or_false, not_true, not_false_iff, zb_z, zb_o, zb_ft, tn_0, tn_1, tn_2, tn_3, tn_c, Int.reduceToNat, te_0, te_1, tk_0, tk_1, tk_m, ts_1, or_0, bp_f, vI, sR_s0 hs, sR_s5 hs, sR_s6 hs, sR_s7 hs, sR_s8 hs, sR_s9 hs, sR_s10 hs, sR_s11 hs, sR_s12 hs, sR_s13 hs, sR_k1 hs, sR_k2 hs, sR_k3 hs, sR_k4 hs, sR_k5 hs, sR_k6 hs, sR_k7 hs, sR_k8 hs, sR_k9 hs, sR_l1 hs, sR_l2 hs, sR_l3 hs, sR_l4 hs, sR_l5 hs, sR_l6 hs, sR_l7 hs, sR_l8 hs, sR_l9 hs, hnt, hag, f2]; rfl)
  · refine CC_ps (s := zi 0) (o := zi 0) (x := setP (scP (r.2 r.1)) (pN (r.2 r.1))) hC (RF_cong ?_ ?_ (RF_terms hra _)) (by rw [mw_ne (by omega), ag_o (by omega), nt_4]) (fun b h1 h2 => by rw [wI_o (by omega), ag_o (by omega)]) (fun b hb => by rw [wI_o (by omega), ag_o (by omega), ntC_o hb]) rfl ?_
    · intro j hj
      unfold plP
      by_cases e2 : j = 2
      · rw [if_pos e2, e2, up_e]
      · by_cases e4 : j = 4
        · rw [if_neg e2, if_pos e4, e4, up_n (by omega), up_n (by omega), up_e, Int.one_mul]
        · by_cases e5 : j = 5
          · rw [if_neg e2, if_neg e4, if_pos e5, e5, up_n (by omega), up_e, Int.one_mul]
          · rw [if_neg e2, if_neg e4, if_neg e5, up_n e2, up_n e5, up_n e4]
    · rw [pN_up (by omega), pN_up (by omega), pN_up (by omega)]; exact h6.2
    · refine Or.inl ⟨by rw [wI_o (by omega), ag_o (by omega), nt_7], scP (r.2 r.1), by rw [wI_o (by omega), ag_o (by omega), nt_9], fun j hj => ?_⟩
      have hcong : ∀ s : Int, cntP (fun i => scP (r.2 r.1) i && sdP (plP (r.2 r.1)) s i) (pN (plP (r.2 r.1))) = cntP (fun i => scP (r.2 r.1) i && sdP (r.2 r.1) s i) (pN (r.2 r.1)) := fun s => by
        rw [pl_n]
        exact cnt_cong fun i hi => by unfold sdP; rw [pl_o (by omega) (by omega) (by omega)]
      rw [hcong, hcong]
      by_cases e2 : j = 2
      · rw [if_pos e2, e2]; unfold plP; rw [if_pos rfl]; omega
      · by_cases e4 : j = 4
        · rw [if_neg e2, if_pos e4, e4]; unfold plP; rw [if_neg (by omega), if_pos rfl]; omega
        · by_cases e5 : j = 5
          · rw [if_neg e2, if_neg e4, if_pos e5, e5]; unfold plP; rw [if_neg (by omega), if_neg (by omega), if_pos rfl]; omega
          · rw [if_neg e2, if_neg e4, if_neg e5, pl_o e2 e4 e5]
/-! the reference's side -/
theorem MM_up {t : TT} {r : RR} {k : KK} {f : FF} (h : MM m (t, r, k, f)) {j : Nat} (hj : j < 34) (v : Int) : MM (xi_wI (ntM m r.1) 21 j (zi v)) (t, psR r (upW (r.2 r.1) j v), k, f) := by
  have hC : MR m r := h.2.1
  refine MM_ps h (fun i hi => ?_) (wI_o (by omega)) (wI_o (by omega)) (fun b h1 h2 h3 => by rw [wI_o h2, ntM_o h1 h3]) (by rw [mw_l, ntM_l])
  by_cases e : i = j
  · subst e; rw [mw_eq, up_e]
  · rw [mw_ne (by omega), up_n e, ntM_o (by omega) (by omega), hC.1 i hi]
def gmM (m : xi_M) (w : Nat → Int) : Nat → xi_M := fo (fun i x => xi_wI x 21 (4 + (w (11 + 4 * i)).toNat) (x.1 21 (4 + (w (11 + 4 * i)).toNat) + zb (scP w i))) m
theorem gm_o {n b : Nat} (h : b ≠ 21) : (gmM m w n).1 b = m.1 b := by
  induction n with
  | zero => rfl
  | succ n ih => rw [show gmM m w (n + 1) = xi_wI (gmM m w n) 21 (4 + (w (11 + 4 * n)).toNat) ((gmM m w n).1 21 (4 + (w (11 + 4 * n)).toNat) + zb (scP w n)) from rfl, wI_o h, ih]
theorem gm_l {n : Nat} : (gmM m w n).2 = m.2 := by
  induction n with
  | zero => rfl
  | succ n ih => exact ih
theorem gm_v (hb : Bd w) (hr : ∀ k, k < 34 → m.1 21 k = zi (w k)) : ∀ n, n ≤ 6 → ∀ k, k < 34 → (gmM m w n).1 21 k = zi (if k = 4 then w 4 + cntP (fun i => scP w i && sdP w 0 i) n else if k = 5 then w 5 + cntP (fun i => scP w i && sdP w 1 i) n else w k) := by
  intro n
  induction n with
  | zero =>
    intro _ k hk
    show m.1 21 k = _
    rw [hr k hk]
    by_cases e4 : k = 4
    · rw [if_pos e4, e4, show cntP (fun i => scP w i && sdP w 0 i) 0 = 0 from rfl, Int.add_zero]
    · by_cases e5 : k = 5
      · rw [if_neg e4, if_pos e5, e5, show cntP (fun i => scP w i && sdP w 1 i) 0 = 0 from rfl, Int.add_zero]
      · rw [if_neg e4, if_neg e5]
  | succ n ih =>
    intro hn k hk
    have hq := hb.2.2.2.2 n (by omega)
    rw [show gmM m w (n + 1) = xi_wI (gmM m w n) 21 (4 + (w (11 + 4 * n)).toNat) ((gmM m w n).1 21 (4 + (w (11 + 4 * n)).toNat) + zb (scP w n)) from rfl, mw_if, cnt_s, cnt_s]
    rw [ih (by omega) k hk, ih (by omega) _ (by omega)]
    have h01 : w (11 + 4 * n) = 0 ∨ w (11 + 4 * n) = 1 := by omega
    unfold sdP
    rcases h01 with e | e
    · rw [e, show 4 + (0 : Int).toNat = 4 from rfl, if_pos (show (4 : Nat) = 4 from rfl), zb_zi, zi_add]
      by_cases e4 : k = 4
      · rw [if_pos ⟨rfl, e4⟩, if_pos e4]
        cases scP w n
        · simp
        · simp [Int.add_assoc]
      · rw [if_neg (by omega), if_neg e4, if_neg e4]
        by_cases e5 : k = 5
        · rw [if_pos e5, if_pos e5]
          cases scP w n <;> simp
        · rw [if_neg e5, if_neg e5]
    · rw [e, show 4 + (1 : Int).toNat = 5 from rfl, if_neg (show ¬ (5 : Nat) = 4 by omega), if_pos (show (5 : Nat) = 5 from rfl), zb_zi, zi_add]
      by_cases e5 : k = 5
      · rw [if_pos ⟨rfl, e5⟩, if_neg (show ¬ k = 4 by omega), if_pos e5]
        cases scP w n
        · simp
        · simp [Int.add_assoc]
      · rw [if_neg (by omega), if_neg e5, if_neg e5]
        by_cases e4 : k = 4
        · rw [if_pos e4, if_pos e4]
          cases scP w n <;> simp
        · rw [if_neg e4, if_neg e4]
def plM (m : xi_M) (w : Nat → Int) : xi_M := xi_wI (gmM m w (pN w)) 21 2 (zi (w 2 + 1))
theorem plM_o {b : Nat} (h : b ≠ 21) : (plM m w).1 b = m.1 b := by rw [plM, wI_o h, gm_o h]
theorem plM_l : (plM m w).2 = m.2 := by rw [plM, mw_l, gm_l]
theorem plM_v (hb : Bd w) (hr : ∀ k, k < 34 → m.1 21 k = zi (w k)) {k : Nat} (hk : k < 34) : (plM m w).1 21 k = zi (plP w k) := by
  have h := gm_v hb hr (pN w) hb.n.2 k hk
  unfold plP plM
  by_cases e2 : k = 2
  · rw [if_pos e2, e2, mw_eq]
  · rw [if_neg e2, mw_ne (by omega), h]
theorem M_plays (hr : Row S m 21 w) (hb : Bd w) : E_X9_plays S 21 m = some (some (.int (setP (scP w) (pN w))), plM m w) := by
  have hsc := M_scored hr hb
  have hn := hb.n
  obtain ⟨r1, r2, r3⟩ := hr
  have hv := gm_v hb r3
  unfold E_X9_plays
  rw [hsc, xb_I]
  refine lp_all (fun q j => G_X9_plays_7 S q 21 (setP (scP w) (pN w)) (zi j) (gmM m w j)) (pN w) 10000 (fun j q hj => ?_) (fun q => ?_) (by omega)
  · have hq := hb.2.2.2.2 j (by omega)
    have v1 : (gmM m w j).1 21 1 = zi (w 1) := by rw [hv j (by omega) 1 (by omega), if_neg (by omega), if_neg (by omega)]
    have v11 : (gmM m w j).1 21 (11 + 4 * j) = zi (w (11 + 4 * j)) := by rw [hv j (by omega) _ (by omega), if_neg (by omega), if_neg (by omega)]
    have hbit : ((setP (scP w) (pN w)) >>> (zi j &&& zi 31)) &&& zi 1 = zb (scP w j) := by rw [bt_shr (by omega), bt_set _ _ (by omega) _ (by omega), decide_eq_true hj, Bool.true_and]
    have t4 : (4 + w (11 + 4 * j)).toNat = 4 + (w (11 + 4 * j)).toNat := by omega
    simp only [G_X9_plays_7]
    rw [show gmM m w (j + 1) = xi_wI (gmM m w j) 21 (4 + (w (11 + 4 * j)).toNat) ((gmM m w j).1 21 (4 + (w (11 + 4 * j)).toNat) + zb (scP w j)) from rfl]
    repeat (first | (with_reducible refine (if_pos ?_).trans ?_; focus (simp (disch := omega) only [zi_f, zi_0, zi_1, zi_31, zi_all, zi_8, zi_16, zi_add, zi_sub, zi_mul, zi_neg, zi_lt, zi_le, zi_eq, zi_div, zi_t, zi_n, xb_I, xb_J, xb_V, xb_s, if_pos, if_neg, if_true, if_false, true_and, and_true, true_or, or_true, false_or, or_false, not_true, not_false_iff, zb_z, zb_o, zb_ft, tn_0, tn_1, tn_2, tn_3, tn_c, Int.reduceToNat, te_0, te_1, tk_0, tk_1, tk_m, ts_1, or_0, bp_f, r1, r2, v1, v11, hn.1, hbit, t4] <;> omega)) | (with_reducible refine (if_neg ?_).trans ?_; focus (simp (disch := omega) only [zi_f, zi_0, zi_1, zi_31, zi_all, zi_8, zi_16, zi_add, zi_sub, zi_mul, zi_neg, zi_lt, zi_le, zi_eq, zi_div, zi_t, zi_n, xb_I, xb_J, xb_V, xb_s, if_pos, if_neg, if_true, if_false, true_and, and_true, true_or, or_true, false_or, or_false, not_true, not_false_iff, zb_z, zb_o, zb_ft, tn_0, tn_1, tn_2, tn_3, tn_c, Int.reduceToNat, te_0, te_1, tk_0, tk_1, tk_m, ts_1, or_0, bp_f, r1, r2, v1, v11, hn.1, hbit, t4] <;> omega)) | ((conv => lhs; arg 1; simp (disch := omega) only [zi_f, zi_0, zi_1, zi_31, zi_all, zi_8, zi_16, zi_add, zi_sub, zi_mul, zi_neg, zi_lt, zi_le, zi_eq, zi_div, zi_t, zi_n, xb_I, xb_J, xb_V, xb_s, if_pos, if_neg, if_true, if_false, true_and, and_true, true_or, or_true, false_or, or_false, not_true, not_false_iff, zb_z, zb_o, zb_ft, tn_0, tn_1, tn_2, tn_3, tn_c, Int.reduceToNat, te_0, te_1, tk_0, tk_1, tk_m, ts_1, or_0, bp_f, r1, r2, v1, v11, hn.1, hbit, t4]); first | with_reducible refine xb_I.trans ?_ | with_reducible refine xb_V.trans ?_ | with_reducible refine xb_J.trans ?_ | with_reducible refine xb_s.trans ?_))
    first | (simp (disch := omega) only [zi_f, zi_0, zi_1, zi_31, zi_all, zi_8, zi_16, zi_add, zi_sub, zi_mul, zi_neg, zi_lt, zi_le, zi_eq, zi_div, zi_t, zi_n, xb_I, xb_J, xb_V, xb_s, if_pos, if_neg, if_true, if_false, true_and, and_true, true_or, or_true, false_or, or_false, not_true, not_false_iff, zb_z, zb_o, zb_ft, tn_0, tn_1, tn_2, tn_3, tn_c, Int.reduceToNat, te_0, te_1, tk_0, tk_1, tk_m, ts_1, or_0, bp_f, vI, r1, r2, v1, v11, hn.1, hbit, t4]; done) | rfl | (simp (disch := omega) only [zi_f, zi_0, zi_1, zi_31, zi_all, zi_8, zi_16, zi_add, zi_sub, zi_mul, zi_neg, zi_lt, zi_le, zi_eq, zi_div, zi_t, zi_n, xb_I, xb_J, xb_V, xb_s, if_pos, if_neg, if_true, if_false, true_and, and_true, true_or, or_true, false_or, or_false, not_true, not_false_iff, zb_z, zb_o, zb_ft, tn_0, tn_1, tn_2, tn_3, tn_c, Int.reduceToNat, te_0, te_1, tk_0, tk_1, tk_m, ts_1, or_0, bp_f, vI, r1, r2, v1, v11, hn.1, hbit, t4]; rfl)
  · have v1 : (gmM m w (pN w)).1 21 1 = zi (w 1) := by rw [hv _ (by omega) 1 (by omega), if_neg (by omega), if_neg (by omega)]
    have v2 : (gmM m w (pN w)).1 21 2 = zi (w 2) := by rw [hv _ (by omega) 2 (by omega), if_neg (by omega), if_neg (by omega)]
    simp only [G_X9_plays_7]
    unfold plM
    repeat (first | (with_reducible refine (if_pos ?_).trans ?_; focus (simp (disch := omega) only [zi_f, zi_0, zi_1, zi_31, zi_all, zi_8, zi_16, zi_add, zi_sub, zi_mul, zi_neg, zi_lt, zi_le, zi_eq, zi_div, zi_t, zi_n, xb_I, xb_J, xb_V, xb_s, if_pos, if_neg, if_true, if_false, true_and, and_true, true_or, or_true, false_or, or_false, not_true, not_false_iff, zb_z, zb_o, zb_ft, tn_0, tn_1, tn_2, tn_3, tn_c, Int.reduceToNat, te_0, te_1, tk_0, tk_1, tk_m, ts_1, or_0, bp_f, r1, r2, v1, v2, hn.1] <;> omega)) | (with_reducible refine (if_neg ?_).trans ?_; focus (simp (disch := omega) only [zi_f, zi_0, zi_1, zi_31, zi_all, zi_8, zi_16, zi_add, zi_sub, zi_mul, zi_neg, zi_lt, zi_le, zi_eq, zi_div, zi_t, zi_n, xb_I, xb_J, xb_V, xb_s, if_pos, if_neg, if_true, if_false, true_and, and_true, true_or, or_true, false_or, or_false, not_true, not_false_iff, zb_z, zb_o, zb_ft, tn_0, tn_1, tn_2, tn_3, tn_c, Int.reduceToNat, te_0, te_1, tk_0, tk_1, tk_m, ts_1, or_0, bp_f, r1, r2, v1, v2, hn.1] <;> omega)) | ((conv => lhs; arg 1; simp (disch := omega) only [zi_f, zi_0, zi_1, zi_31, zi_all, zi_8, zi_16, zi_add, zi_sub, zi_mul, zi_neg, zi_lt, zi_le, zi_eq, zi_div, zi_t, zi_n, xb_I, xb_J, xb_V, xb_s, if_pos, if_neg, if_true, if_false, true_and, and_true, true_or, or_true, false_or, or_false, not_true, not_false_iff, zb_z, zb_o, zb_ft, tn_0, tn_1, tn_2, tn_3, tn_c, Int.reduceToNat, te_0, te_1, tk_0, tk_1, tk_m, ts_1, or_0, bp_f, r1, r2, v1, v2, hn.1]); first | with_reducible refine xb_I.trans ?_ | with_reducible refine xb_V.trans ?_ | with_reducible refine xb_J.trans ?_ | with_reducible refine xb_s.trans ?_))
    first | (simp (disch := omega) only [zi_f, zi_0, zi_1, zi_31, zi_all, zi_8, zi_16, zi_add, zi_sub, zi_mul, zi_neg, zi_lt, zi_le, zi_eq, zi_div, zi_t, zi_n, xb_I, xb_J, xb_V, xb_s, if_pos, if_neg, if_true, if_false, true_and, and_true, true_or, or_true, false_or, or_false, not_true, not_false_iff, zb_z, zb_o, zb_ft, tn_0, tn_1, tn_2, tn_3, tn_c, Int.reduceToNat, te_0, te_1, tk_0, tk_1, tk_m, ts_1, or_0, bp_f, vI, r1, r2, v1, v2, hn.1]; done) | rfl | (simp (disch := omega) only [zi_f, zi_0, zi_1, zi_31, zi_all, zi_8, zi_16, zi_add, zi_sub, zi_mul, zi_neg, zi_lt, zi_le, zi_eq, zi_div, zi_t, zi_n, xb_I, xb_J, xb_V, xb_s, if_pos, if_neg, if_true, if_false, true_and, and_true, true_or, or_true, false_or, or_false, not_true, not_false_iff, zb_z, zb_o, zb_ft, tn_0, tn_1, tn_2, tn_3, tn_c, Int.reduceToNat, te_0, te_1, tk_0, tk_1, tk_m, ts_1, or_0, bp_f, vI, r1, r2, v1, v2, hn.1]; rfl)
theorem MM_pl {t : TT} {r : RR} {k : KK} {f : FF} (h : MM m (t, r, k, f)) (hw : Wk (r.2 r.1)) : MM (plM (ntM m r.1) (r.2 r.1)) (t, psR r (plP (r.2 r.1)), k, f) := by
  have hC : MR m r := h.2.1
  exact MM_ps h (fun i hi => plM_v hw.1 (by rw [ntM_o (by omega) (by omega)]; exact hC.1) hi) (plM_o (by omega)) (plM_o (by omega)) (fun b h1 h2 h3 => by rw [plM_o h2, ntM_o h1 h3]) (by rw [plM_l, ntM_l])
end
