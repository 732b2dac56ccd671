/-! the duel: the class's search, whole -/
section
variable {S : xi_S} {m : xi_M} {w : Nat → Int}
theorem BL_fr {m m1 : xi_M} (h : BL m w) (ho : ∀ b, b = 5 ∨ b = 6 ∨ b = 7 ∨ b = 8 → m1.1 b = m.1 b) : BL m1 w := by
  obtain ⟨h1, h2, h3, h4, h5⟩ := h
  refine ⟨?_, ?_, fun i hi => ?_, fun i hi => ?_, fun e he => ?_⟩
  · rw [ho 5 (by omega)]; exact h1
  · rw [ho 5 (by omega)]; exact h2
  · rw [ho 6 (by omega)]; exact h3 i hi
  · rw [ho 7 (by omega)]; exact h4 i hi
  · rw [ho 8 (by omega)]; exact h5 e he
theorem ab_ok {ok : Nat → Bool} {ch : Nat → Int → Int → Int} {b : Bool} {j : Nat} {lo hi : Int} (h : lo < hi) (hk : ok ((j + 1) % 9) = true) : abF ok ch b j (lo, hi) = (if b then max lo (ch ((j + 1) % 9) lo hi) else lo, if b then hi else min hi (ch ((j + 1) % 9) lo hi)) := by
  unfold abF
  dsimp only
  rw [if_neg (by omega), if_pos hk]
  cases b <;> rfl
theorem ab_no {ok : Nat → Bool} {ch : Nat → Int → Int → Int} {b : Bool} {j : Nat} {lo hi : Int} (h : lo < hi) (hk : ok ((j + 1) % 9) = false) : abF ok ch b j (lo, hi) = (lo, hi) := by
  unfold abF
  dsimp only
  rw [if_neg (by omega), if_neg (by rw [hk]; decide)]
theorem ok_s {c : Nat → Int} {j : Nat} : okC c (j + 1) = mvP c (dkP (j + 1)) (dnP (j + 1)) := by
  unfold okC
  rw [decide_eq_false (by omega), Bool.false_or]
theorem C_bestL (hB : ShB S) {c : Nat → Int} (h12 : ∀ k, k < 4 → m.1 12 k = zi (c k)) (hcb : ∀ k, k < 4 → 0 ≤ c k ∧ c k ≤ 20) {T t : Nat} (hT : T ≤ 4) (ht : t < T) (fb : xi_F) (ch : Nat → Int → Int → Int) (hch : ∀ q lo hi, -7 ≤ lo → lo ≤ 7 → -7 ≤ hi → hi ≤ 7 → -7 ≤ ch q lo hi ∧ ch q lo hi ≤ 7)
    (hf : ∀ q lo hi, q < 9 → okC c q = true → -7 ≤ lo → lo < hi → hi ≤ 7 → fb [.ref 5, .ref 12, .int (zi (T : Nat)), .int (zi ((t : Nat) + 1)), .int (zi lo), .int (zi hi)] (xi_wI m 12 (dkP q) (zi (c (dkP q) + dnP q))) = some (some (.int (zi (ch q lo hi))), xi_wI m 12 (dkP q) (zi (c (dkP q) + dnP q)))) (b : Bool) :
    ∀ (d j : Nat) (s : Int × Int), j + d = 9 → (-7 ≤ s.1 ∧ s.1 ≤ 7) ∧ (-7 ≤ s.2 ∧ s.2 ≤ 7) → ∀ F, d < F → G_X2_best_53 S fb F 5 12 (zi (T : Nat)) (zi (t : Nat)) (zb b) (zi s.1) (zi s.2) (zi (j : Nat)) m = some (some (.int (zi (if b then (fo (fun i x => abF (okC c) ch b (j + i) x) s d).1 else (fo (fun i x => abF (okC c) ch b (j + i) x) s d).2))), m) := by
  intro d
  induction d with
  | zero =>
    intro j s hj hs F hF
    obtain ⟨F, rfl⟩ : ∃ G, F = G + 1 := ⟨F - 1, by omega⟩
    exact C_mvE fb (by omega) (Or.inl (by omega)) ⟨hs.1.1, hs.1.2, hs.2⟩ F b
  | succ d ih =>
    intro j s hj hs F hF
    obtain ⟨F, rfl⟩ : ∃ G, F = G + 1 := ⟨F - 1, by omega⟩
    by_cases h : s.2 ≤ s.1
    · rw [ab_stuck h]
      exact C_mvE fb (by omega) (Or.inr h) ⟨hs.1.1, hs.1.2, hs.2⟩ F b
    · have ef : fo (fun i x => abF (okC c) ch b (j + i) x) s (d + 1) = fo (fun i x => abF (okC c) ch b (j + 1 + i) x) (abF (okC c) ch b j s) d := by
        rw [show d + 1 = 1 + d by omega, fo_add]
        exact fo_cong (a := abF (okC c) ch b j s) fun k x _ => by rw [show j + (1 + k) = j + 1 + k by omega]
      have hs2 := abF_b (ok := okC c) hch b j s hs
      have ih2 := ih (j + 1) (abF (okC c) ch b j s) (by omega) hs2 F (by omega)
      rw [ef, ← ih2]
      obtain ⟨lo, hi⟩ := s
      dsimp only at h hs ⊢
      have hl : -7 ≤ lo ∧ lo < hi ∧ hi ≤ 7 := by omega
      rw [show ((j + 1 : Nat) : Int) = (j : Int) + 1 by omega]
      by_cases j8 : j = 8
      · subst j8
        have hw : xi_wI m 12 (dkP 0) (zi (c (dkP 0) + dnP 0)) = m := by
          rw [show dkP 0 = 0 from rfl, show dnP 0 = 0 from rfl, Int.add_zero]
          apply Prod.ext
          · funext a
            funext i
            rw [mw_if]
            by_cases h : a = 12 ∧ i = 0
            · rw [if_pos h, h.1, h.2, h12 0 (by omega)]
            · rw [if_neg h]
          · rfl
        have hf0 := hf 0 lo hi (by omega) rfl hl.1 hl.2.1 hl.2.2
        rw [hw] at hf0
        rw [ab_ok hl.2.1 (show okC c ((8 + 1) % 9) = true from rfl), show (8 + 1) % 9 = 0 from rfl]
        exact C_mv3 hB h12 hcb hT ht fb hl (hch 0 lo hi (by omega) (by omega) (by omega) (by omega)) hf0 F b
      · have e9 : (j + 1) % 9 = j + 1 := Nat.mod_eq_of_lt (by omega)
        have hn : dnP (j + 1) = ((j : Int) - ((dkP (j + 1) : Nat) : Int) * 2) * 2 - 1 := by
          unfold dnP dkP
          rw [if_neg (by omega)]
          split <;> omega
        have hk : dkP (j + 1) = j / 2 := by unfold dkP; omega
        by_cases hok : okC c (j + 1) = true
        · rw [ab_ok hl.2.1 (by rw [e9]; exact hok), e9]
          exact C_mv1 hB h12 hcb hT ht fb (by omega) hl (hch (j + 1) lo hi (by omega) (by omega) (by omega) (by omega)) hk hn (by rw [← ok_s]; exact hok) (hf (j + 1) lo hi (by omega) hok hl.1 hl.2.1 hl.2.2) F b
        · have hok2 : okC c (j + 1) = false := by cases q : okC c (j + 1); rfl; exact absurd q hok
          rw [ab_no hl.2.1 (by rw [e9]; exact hok2)]
          exact C_mv2 hB h12 hcb fb (by omega) hl hk hn (by rw [← ok_s]; exact hok2) F (zb b)
set_option maxHeartbeats 4000000 in
theorem C_best (hB : ShB S) (hb : Bd w) {T : Nat} (hT : T ≤ 4) : ∀ (r n t : Nat) (c : Nat → Int) (m : xi_M) (lo hi : Int), r + t = T → r < n → -7 ≤ lo → lo < hi → hi ≤ 7 → BL m w → Oc c → (∀ k, k < 4 → m.1 12 k = zi (c k)) → Fr_X2_best S n [.ref 5, .ref 12, .int (zi (T : Nat)), .int (zi (t : Nat)), .int (zi lo), .int (zi hi)] m = some (some (.int (zi (abP2 (dlP w) r t c lo hi))), m) := by
  intro r
  induction r with
  | zero =>
    intro n t c m lo hi hr hn h1 h2 h3 hL hc h12
    obtain ⟨n, rfl⟩ : ∃ G, n = G + 1 := ⟨n - 1, by omega⟩
    have e : t = T := by omega
    subst e
    exact C_leaf hB hb hL hc h12 (Fr_X2_best S n) hT (zi lo) (zi hi)
  | succ r ih =>
    intro n t c m lo hi hr hn h1 h2 h3 hL hc h12
    obtain ⟨n, rfl⟩ : ∃ G, n = G + 1 := ⟨n - 1, by omega⟩
    have hcb : ∀ k, k < 4 → 0 ≤ c k ∧ c k ≤ 20 := fun k hk => by
      obtain ⟨y1, y2⟩ := hc
      have h4 : k = 0 ∨ k = 1 ∨ k = 2 ∨ k = 3 := by omega
      rcases h4 with e | e | e | e <;> subst e <;> omega
    have key := C_bestL (m := m) hB h12 hcb hT (t := t) (by omega) (Fr_X2_best S n) (fun q x y => abP2 (dlP w) r (t + 1) (stC c q) x y) (fun q x y => ab_b (dl_b hb) r (t + 1) (stC c q) x y) (fun q x y hq hok a1 a2 a3 => by
      have hkq : dkP q < 4 := by unfold dkP; omega
      have := ih n (t + 1) (stC c q) (xi_wI m 12 (dkP q) (zi (c (dkP q) + dnP q))) x y (by omega) (by omega) a1 a2 a3 (BL_fr hL (fun b hb => wI_o (by omega))) (Oc_st hq hc hok) (fun k hk => by
        rw [mw_if]
        unfold stC
        by_cases e : k = dkP q
        · rw [if_pos ⟨rfl, e⟩, if_pos e, e]
        · rw [if_neg (fun z => e z.2), if_neg e, h12 k hk])
      rw [show ((t + 1 : Nat) : Int) = (t : Int) + 1 by omega] at this
      exact this) (tbP t) 9 0 (lo, hi) (by omega) ⟨⟨h1, by show lo ≤ 7; omega⟩, by show -7 ≤ hi; omega, h3⟩ 10000 (by omega)
    simp only [Nat.zero_add] at key
    rw [show ((0 : Nat) : Int) = 0 from rfl] at key
    rw [abP2]
    show Eb_X2_best S (Fr_X2_best S n) 5 12 (zi (T : Nat)) (zi (t : Nat)) (zi lo) (zi hi) m = _
    generalize fo (abF (okC c) (fun q x y => abP2 (dlP w) r (t + 1) (stC c q) x y) (tbP t)) (lo, hi) 9 = st at *
    generalize Fr_X2_best S n = fb at *
    clear ih
    by_cases e : t % 2 = 0
    · have et : tbP t = true := by unfold tbP; rw [decide_eq_true_eq]; exact e
      have em : (t : Int) % 2 = 0 := by omega
      rw [et, tt_if] at key ⊢
      rw [show zb true = zi 1 from rfl] at key
      unfold Eb_X2_best
      repeat (first | (with_reducible refine (if_pos ?_).trans ?_; focus (simp (disch := omega) only [zi_f, zi_0, zi_1, zi_31, zi_all, zi_8, zi_16, zi_add, zi_sub, zi_mul, zi_neg, zi_lt, zi_le, zi_eq, zi_div, zi_t, zi_n, xb_I, xb_J, xb_V, xb_s, if_pos, if_neg, if_true, if_false, true_and, and_true, true_or, or_true, false_or, or_false, not_true, not_false_iff, zb_z, zb_o, zb_ft, tn_0, tn_1, tn_2, tn_3, tn_c, Int.reduceToNat, te_0, te_1, tk_0, tk_1, tk_m, ts_1, or_0, bp_f, ed_m, em, key] <;> omega)) | (with_reducible refine (if_neg ?_).trans ?_; focus (simp (disch := omega) only [zi_f, zi_0, zi_1, zi_31, zi_all, zi_8, zi_16, zi_add, zi_sub, zi_mul, zi_neg, zi_lt, zi_le, zi_eq, zi_div, zi_t, zi_n, xb_I, xb_J, xb_V, xb_s, if_pos, if_neg, if_true, if_false, true_and, and_true, true_or, or_true, false_or, or_false, not_true, not_false_iff, zb_z, zb_o, zb_ft, tn_0, tn_1, tn_2, tn_3, tn_c, Int.reduceToNat, te_0, te_1, tk_0, tk_1, tk_m, ts_1, or_0, bp_f, ed_m, em, key] <;> omega)) | ((conv => lhs; arg 1; simp (disch := omega) only [zi_f, zi_0, zi_1, zi_31, zi_all, zi_8, zi_16, zi_add, zi_sub, zi_mul, zi_neg, zi_lt, zi_le, zi_eq, zi_div, zi_t, zi_n, xb_I, xb_J, xb_V, xb_s, if_pos, if_neg, if_true, if_false, true_and, and_true, true_or, or_true, false_or, or_false, not_true, not_false_iff, zb_z, zb_o, zb_ft, tn_0, tn_1, tn_2, tn_3, tn_c, Int.reduceToNat, te_0, te_1, tk_0, tk_1, tk_m, ts_1, or_0, bp_f, ed_m, em, key]); first | with_reducible refine xb_I.trans ?_ | with_reducible refine xb_V.trans ?_ | with_reducible refine xb_J.trans ?_ | with_reducible refine xb_s.trans ?_))
      first | (simp (disch := omega) only [zi_f, zi_0, zi_1, zi_31, zi_all, zi_8, zi_16, zi_add, zi_sub, zi_mul, zi_neg, zi_lt, zi_le, zi_eq, zi_div, zi_t, zi_n, xb_I, xb_J, xb_V, xb_s, if_pos, if_neg, if_true, if_false, true_and, and_true, true_or, or_true, false_or, or_false, not_true, not_false_iff, zb_z, zb_o, zb_ft, tn_0, tn_1, tn_2, tn_3, tn_c, Int.reduceToNat, te_0, te_1, tk_0, tk_1, tk_m, ts_1, or_0, bp_f, vI, ed_m, em, key]; done) | rfl | (simp (disch := omega) only [zi_f, zi_0, zi_1, zi_31, zi_all, zi_8, zi_16, zi_add, zi_sub, zi_mul, zi_neg, zi_lt, zi_le, zi_eq, zi_div, zi_t, zi_n, xb_I, xb_J, xb_V, xb_s, if_pos, if_neg, if_true, if_false, true_and, and_true, true_or, or_true, false_or, or_false, not_true, not_false_iff, zb_z, zb_o, zb_ft, tn_0, tn_1, tn_2, tn_3, tn_c, Int.reduceToNat, te_0, te_1, tk_0, tk_1, tk_m, ts_1, or_0, bp_f, vI, ed_m, em, key]; rfl)
    · have et : tbP t = false := by unfold tbP; rw [decide_eq_false_iff_not]; exact e
      have em : (t : Int) % 2 = 1 := by omega
      rw [et, ff_if] at key ⊢
      rw [show zb false = zi 0 from rfl] at key
      unfold Eb_X2_best
      repeat (first | (with_reducible refine (if_pos ?_).trans ?_; focus (simp (disch := omega) only [zi_f, zi_0, zi_1, zi_31, zi_all, zi_8, zi_16, zi_add, zi_sub, zi_mul, zi_neg, zi_lt, zi_le, zi_eq, zi_div, zi_t, zi_n, xb_I, xb_J, xb_V, xb_s, if_pos, if_neg, if_true, if_false, true_and, and_true, true_or, or_true, false_or, or_false, not_true, not_false_iff, zb_z, zb_o, zb_ft, tn_0, tn_1, tn_2, tn_3, tn_c, Int.reduceToNat, te_0, te_1, tk_0, tk_1, tk_m, ts_1, or_0, bp_f, ed_m, em, key] <;> omega)) | (with_reducible refine (if_neg ?_).trans ?_; focus (simp (disch := omega) only [zi_f, zi_0, zi_1, zi_31, zi_all, zi_8, zi_16, zi_add, zi_sub, zi_mul, zi_neg, zi_lt, zi_le, zi_eq, zi_div, zi_t, zi_n, xb_I, xb_J, xb_V, xb_s, if_pos, if_neg, if_true, if_false, true_and, and_true, true_or, or_true, false_or, or_false, not_true, not_false_iff, zb_z, zb_o, zb_ft, tn_0, tn_1, tn_2, tn_3, tn_c, Int.reduceToNat, te_0, te_1, tk_0, tk_1, tk_m, ts_1, or_0, bp_f, ed_m, em, key] <;> omega)) | ((conv => lhs; arg 1; simp (disch := omega) only [zi_f, zi_0, zi_1, zi_31, zi_all, zi_8, zi_16, zi_add, zi_sub, zi_mul, zi_neg, zi_lt, zi_le, zi_eq, zi_div, zi_t, zi_n, xb_I, xb_J, xb_V, xb_s, if_pos, if_neg, if_true, if_false, true_and, and_true, true_or, or_true, false_or, or_false, not_true, not_false_iff, zb_z, zb_o, zb_ft, tn_0, tn_1, tn_2, tn_3, tn_c, Int.reduceToNat, te_0, te_1, tk_0, tk_1, tk_m, ts_1, or_0, bp_f, ed_m, em, key]); first | with_reducible refine xb_I.trans ?_ | with_reducible refine xb_V.trans ?_ | with_reducible refine xb_J.trans ?_ | with_reducible refine xb_s.trans ?_))
      first | (simp (disch := omega) only [zi_f, zi_0, zi_1, zi_31, zi_all, zi_8, zi_16, zi_add, zi_sub, zi_mul, zi_neg, zi_lt, zi_le, zi_eq, zi_div, zi_t, zi_n, xb_I, xb_J, xb_V, xb_s, if_pos, if_neg, if_true, if_false, true_and, and_true, true_or, or_true, false_or, or_false, not_true, not_false_iff, zb_z, zb_o, zb_ft, tn_0, tn_1, tn_2, tn_3, tn_c, Int.reduceToNat, te_0, te_1, tk_0, tk_1, tk_m, ts_1, or_0, bp_f, vI, ed_m, em, key]; done) | rfl | (simp (disch := omega) only [zi_f, zi_0, zi_1, zi_31, zi_all, zi_8, zi_16, zi_add, zi_sub, zi_mul, zi_neg, zi_lt, zi_le, zi_eq, zi_div, zi_t, zi_n, xb_I, xb_J, xb_V, xb_s, if_pos, if_neg, if_true, if_false, true_and, and_true, true_or, or_true, false_or, or_false, not_true, not_false_iff, zb_z, zb_o, zb_ft, tn_0, tn_1, tn_2, tn_3, tn_c, Int.reduceToNat, te_0, te_1, tk_0, tk_1, tk_m, ts_1, or_0, bp_f, vI, ed_m, em, key]; rfl)
end
