/-! the duel: the class's search -/
def Oc (c : Nat → Int) : Prop := (0 ≤ c 0 ∧ c 0 < c 1 ∧ c 1 ≤ 20) ∧ (0 ≤ c 2 ∧ c 2 < c 3 ∧ c 3 ≤ 20)
theorem st_0 (c : Nat → Int) : stC c 0 = c := by
  funext k
  unfold stC dnP
  rw [if_pos rfl]
  split <;> omega
theorem Oc_st {c : Nat → Int} {q : Nat} (hq : q < 9) (h : Oc c) (hk : okC c q = true) : Oc (stC c q) := by
  by_cases e : q = 0
  · subst e; rw [st_0]; exact h
  · have hm : mvP c (dkP q) (dnP q) = true := by
      unfold okC at hk
      rw [decide_eq_false e, Bool.false_or] at hk
      exact hk
    unfold mvP at hm
    rw [Bool.and_eq_true, decide_eq_true_eq] at hm
    obtain ⟨h1, h2⟩ := hm
    have hd : dnP q = -1 ∨ dnP q = 1 := by unfold dnP; rw [if_neg e]; split <;> simp
    have e4 : ∀ j, stC c q j = if j = dkP q then c j + dnP q else c j := fun j => rfl
    have hk4 : dkP q = 0 ∨ dkP q = 1 ∨ dkP q = 2 ∨ dkP q = 3 := by unfold dkP; omega
    obtain ⟨y1, y2⟩ := h
    unfold Oc
    rw [e4, e4, e4, e4]
    clear e4 hk
    generalize dnP q = n at *
    generalize dkP q = k at *
    rcases hk4 with f | f | f | f <;> subst f
    · have h3 : c 0 + n < c 1 := by simpa using h2
      rw [if_pos rfl, if_neg (by decide), if_neg (by decide), if_neg (by decide)]; omega
    · have h3 : c 0 < c 1 + n := by simpa using h2
      rw [if_neg (by decide), if_pos rfl, if_neg (by decide), if_neg (by decide)]; omega
    · have h3 : c 2 + n < c 3 := by simpa using h2
      rw [if_neg (by decide), if_neg (by decide), if_pos rfl, if_neg (by decide)]; omega
    · have h3 : c 2 < c 3 + n := by simpa using h2
      rw [if_neg (by decide), if_neg (by decide), if_neg (by decide), if_pos rfl]; omega
def dlP (w : Nat → Int) (c : Nat → Int) : Int := glP w 1 (c 2) (c 3) (pN w) - glP w 0 (c 0) (c 1) (pN w)
theorem dl_b {w : Nat → Int} (hb : Bd w) (c : Nat → Int) : -6 ≤ dlP w c ∧ dlP w c ≤ 6 := by
  have hn := hb.n.2
  have g1 := gl_b w 1 (c 2) (c 3) (pN w)
  have g0 := gl_b w 0 (c 0) (c 1) (pN w)
  unfold dlP
  omega
theorem abF_b {ok : Nat → Bool} {ch : Nat → Int → Int → Int} (hc : ∀ q lo hi, -7 ≤ lo → lo ≤ 7 → -7 ≤ hi → hi ≤ 7 → -7 ≤ ch q lo hi ∧ ch q lo hi ≤ 7) (b : Bool) (j : Nat) (s : Int × Int) (h : (-7 ≤ s.1 ∧ s.1 ≤ 7) ∧ (-7 ≤ s.2 ∧ s.2 ≤ 7)) : (-7 ≤ (abF ok ch b j s).1 ∧ (abF ok ch b j s).1 ≤ 7) ∧ (-7 ≤ (abF ok ch b j s).2 ∧ (abF ok ch b j s).2 ≤ 7) := by
  obtain ⟨x, y⟩ := s
  dsimp only at h
  have h1 := hc ((j + 1) % 9) x y h.1.1 h.1.2 h.2.1 h.2.2
  unfold abF
  dsimp only
  by_cases a1 : y ≤ x
  · rw [if_pos a1]; exact h
  · rw [if_neg a1]
    by_cases a2 : ok ((j + 1) % 9) = true
    · rw [if_pos a2]
      cases b
      · rw [ff_if]; dsimp only; omega
      · rw [tt_if]; dsimp only; omega
    · rw [if_neg a2]; exact h
theorem ab_b {L : (Nat → Int) → Int} (hL : ∀ c, -6 ≤ L c ∧ L c ≤ 6) : ∀ (r t : Nat) (c : Nat → Int) (lo hi : Int), -7 ≤ lo → lo ≤ 7 → -7 ≤ hi → hi ≤ 7 → -7 ≤ abP2 L r t c lo hi ∧ abP2 L r t c lo hi ≤ 7 := by
  intro r
  induction r with
  | zero => intro t c lo hi _ _ _ _; have := hL c; rw [abP2]; omega
  | succ r ih =>
    intro t c lo hi h1 h2 h3 h4
    have key := fo_ind (P := fun _ (s : Int × Int) => (-7 ≤ s.1 ∧ s.1 ≤ 7) ∧ (-7 ≤ s.2 ∧ s.2 ≤ 7)) (a := (lo, hi)) (f := abF (okC c) (fun q x y => abP2 L r (t + 1) (stC c q) x y) (tbP t)) ⟨⟨h1, h2⟩, h3, h4⟩ (fun k x hx => abF_b (fun q lo hi => ih (t + 1) (stC c q) lo hi) (tbP t) k x hx) 9
    rw [abP2]
    split
    · exact key.1
    · exact key.2
theorem wI_back (m : xi_M) (b k : Nat) (x : Int32) : xi_wI (xi_wI m b k x) b k (m.1 b k) = m := by
  apply Prod.ext
  · funext a
    funext j
    by_cases h : a = b ∧ j = k
    · rw [mw_if, if_pos h, h.1, h.2]
    · rw [mw_if, if_neg h, mw_if, if_neg h]
  · rfl
theorem ab_stuck {ok : Nat → Bool} {ch : Nat → Int → Int → Int} {b : Bool} {s : Int × Int} (h : s.2 ≤ s.1) (j n : Nat) : fo (fun i x => abF ok ch b (j + i) x) s n = s := fo_ind (P := fun _ x => x = s) rfl (fun k x hx => by rw [hx]; unfold abF; rw [if_pos h]) n
section
variable {S : xi_S} {m : xi_M} {w : Nat → Int}
set_option maxHeartbeats 4000000 in
theorem C_leaf (hB : ShB S) (hb : Bd w) (hL : BL m w) {c : Nat → Int} (hc : Oc c) (h12 : ∀ k, k < 4 → m.1 12 k = zi (c k)) (fb : xi_F) {T : Nat} (hT : T ≤ 4) (lo hi : Int32) : Eb_X2_best S fb 5 12 (zi (T : Nat)) (zi (T : Nat)) lo hi m = some (some (.int (zi (dlP w c))), m) := by
  have g1 := C_goalsAt hB hL hb (e := 1) (by omega) (lo := c 2) (hi := c 3) (by have := hc.2; omega) (by have := hc.2; omega) (by have := hc.2; omega)
  have g0 := C_goalsAt hB hL hb (e := 0) (by omega) (lo := c 0) (hi := c 1) (by have := hc.1; omega) (by have := hc.1; omega) (by have := hc.1; omega)
  rw [show ((1 : Nat) : Int) = 1 from rfl] at g1
  rw [show ((0 : Nat) : Int) = 0 from rfl] at g0
  have b1 := gl_b w 1 (c 2) (c 3) (pN w)
  have b0 := gl_b w 0 (c 0) (c 1) (pN w)
  have hn := hb.n.2
  have k0 := h12 0 (by omega)
  have k1 := h12 1 (by omega)
  have k2 := h12 2 (by omega)
  have k3 := h12 3 (by omega)
  unfold dlP
  generalize glP w 1 (c 2) (c 3) (pN w) = x1 at *
  generalize glP w 0 (c 0) (c 1) (pN w) = x0 at *
  unfold Eb_X2_best
  repeat (first | (with_reducible refine (if_pos ?_).trans ?_; focus (simp (disch := omega) only [zi_f, zi_0, zi_1, zi_31, zi_all, zi_8, zi_16, zi_add, zi_sub, zi_mul, zi_neg, zi_lt, zi_le, zi_eq, zi_div, zi_t, zi_n, xb_I, xb_J, xb_V, xb_s, if_pos, if_neg, if_true, if_false, true_and, and_true, true_or, or_true, false_or, or_false, not_true, not_false_iff, zb_z, zb_o, zb_ft, tn_0, tn_1, tn_2, tn_3, tn_c, Int.reduceToNat, te_0, te_1, tk_0, tk_1, tk_m, ts_1, or_0, bp_f, sB_o1 hB, sB_g1 hB, sB_g2 hB, sB_q1 hB, sB_q2 hB, sB_q3 hB, sB_q4 hB, sB_p1 hB, sB_p2 hB, k0, k1, k2, k3, g1, g0] <;> omega)) | (with_reducible refine (if_neg ?_).trans ?_; focus (simp (disch := omega) only [zi_f, zi_0, zi_1, zi_31, zi_all, zi_8, zi_16, zi_add, zi_sub, zi_mul, zi_neg, zi_lt, zi_le, zi_eq, zi_div, zi_t, zi_n, xb_I, xb_J, xb_V, xb_s, if_pos, if_neg, if_true, if_false, true_and, and_true, true_or, or_true, false_or, or_false, not_true, not_false_iff, zb_z, zb_o, zb_ft, tn_0, tn_1, tn_2, tn_3, tn_c, Int.reduceToNat, te_0, te_1, tk_0, tk_1, tk_m, ts_1, or_0, bp_f, sB_o1 hB, sB_g1 hB, sB_g2 hB, sB_q1 hB, sB_q2 hB, sB_q3 hB, sB_q4 hB, sB_p1 hB, sB_p2 hB, k0, k1, k2, k3, g1, g0] <;> omega)) | ((conv => lhs; arg 1; simp (disch := omega) only [zi_f, zi_0, zi_1, zi_31, zi_all, zi_8, zi_16, zi_add, zi_sub, zi_mul, zi_neg, zi_lt, zi_le, zi_eq, zi_div, zi_t, zi_n, xb_I, xb_J, xb_V, xb_s, if_pos, if_neg, if_true, if_false, true_and, and_true, true_or, or_true, false_or, or_false, not_true, not_false_iff, zb_z, zb_o, zb_ft, tn_0, tn_1, tn_2, tn_3, tn_c, Int.reduceToNat, te_0, te_1, tk_0, tk_1, tk_m, ts_1, or_0, bp_f, sB_o1 hB, sB_g1 hB, sB_g2 hB, sB_q1 hB, sB_q2 hB, sB_q3 hB, sB_q4 hB, sB_p1 hB, sB_p2 hB, k0, k1, k2, k3, g1, g0]); first | with_reducible refine xb_I.trans ?_ | with_reducible refine xb_V.trans ?_ | with_reducible refine xb_J.trans ?_ | with_reducible refine xb_s.trans ?_))
  first | (simp (disch := omega) only [zi_f, zi_0, zi_1, zi_31, zi_all, zi_8, zi_16, zi_add, zi_sub, zi_mul, zi_neg, zi_lt, zi_le, zi_eq, zi_div, zi_t, zi_n, xb_I, xb_J, xb_V, xb_s, if_pos, if_neg, if_true, if_false, true_and, and_true, true_or, or_true, false_or, or_false, not_true, not_false_iff, zb_z, zb_o, zb_ft, tn_0, tn_1, tn_2, tn_3, tn_c, Int.reduceToNat, te_0, te_1, tk_0, tk_1, tk_m, ts_1, or_0, bp_f, vI, sB_o1 hB, sB_g1 hB, sB_g2 hB, sB_q1 hB, sB_q2 hB, sB_q3 hB, sB_q4 hB, sB_p1 hB, sB_p2 hB, k0, k1, k2, k3, g1, g0]; done) | rfl | (simp (disch := omega) only [zi_f, zi_0, zi_1, zi_31, zi_all, zi_8, zi_16, zi_add, zi_sub, zi_mul, zi_neg, zi_lt, zi_le, zi_eq, zi_div, zi_t, zi_n, xb_I, xb_J, xb_V, xb_s, if_pos, if_neg, if_true, if_false, true_and, and_true, true_or, or_true, false_or, or_false, not_true, not_false_iff, zb_z, zb_o, zb_ft, tn_0, tn_1, tn_2, tn_3, tn_c, Int.reduceToNat, te_0, te_1, tk_0, tk_1, tk_m, ts_1, or_0, bp_f, vI, sB_o1 hB, sB_g1 hB, sB_g2 hB, sB_q1 hB, sB_q2 hB, sB_q3 hB, sB_q4 hB, sB_p1 hB, sB_p2 hB, k0, k1, k2, k3, g1, g0]; rfl)
end
