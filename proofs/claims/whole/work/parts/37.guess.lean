/-! guesses: the class's side -/
def isq (w : Nat → Int) (e : Int) (lo hi p : Int) : Bool := wiP (w 0) lo hi p && !kpP w e p (pN w)
def awP (w : Nat → Int) (e : Int) (g : Nat → Int) (lo hi : Int) : Nat → Bool := fo (fun i r => r && decide (isq w e lo hi (g (2 * i)) = decide (g (2 * i + 1) = 1))) true
theorem aw_t {w : Nat → Int} {e lo hi : Int} {g : Nat → Int} : ∀ {p}, awP w e g lo hi p = true → ∀ i, i < p → isq w e lo hi (g (2 * i)) = decide (g (2 * i + 1) = 1) := by
  intro p
  induction p with
  | zero => intro _ i hj; exact absurd hj (by omega)
  | succ p ih =>
    intro h i hj
    rw [show awP w e g lo hi (p + 1) = (awP w e g lo hi p && decide (isq w e lo hi (g (2 * p)) = decide (g (2 * p + 1) = 1))) from rfl, Bool.and_eq_true] at h
    by_cases e : i = p
    · subst e; exact of_decide_eq_true h.2
    · exact ih h.1 i (by omega)
theorem aw_f {w : Nat → Int} {e lo hi : Int} {g : Nat → Int} : ∀ {p}, (∀ i, i < p → isq w e lo hi (g (2 * i)) = decide (g (2 * i + 1) = 1)) → awP w e g lo hi p = true := by
  intro p
  induction p with
  | zero => intro _; rfl
  | succ p ih =>
    intro h
    rw [show awP w e g lo hi (p + 1) = (awP w e g lo hi p && decide (isq w e lo hi (g (2 * p)) = decide (g (2 * p + 1) = 1))) from rfl, ih (fun i hi => h i (by omega)), decide_eq_true (h p (by omega))]
    rfl
abbrev GG : Type := Int × Int × (Nat → Int)
def gM (m : xi_M) (s : GG) : xi_M := (fun b => if b = 13 then (fun j => if j = 0 then zi s.1 else if j = 1 then zi s.2.1 else m.1 13 j) else if b = 14 then (fun p => if p < 21 then zi (s.2.2 p) else m.1 14 p) else m.1 b, m.2)
theorem gM_o {m : xi_M} {s : GG} {b : Nat} (h : b ≠ 13) (h2 : b ≠ 14) : (gM m s).1 b = m.1 b := by
  show (if b = 13 then _ else if b = 14 then _ else m.1 b) = _
  rw [if_neg h, if_neg h2]
theorem gM_0 (m : xi_M) (s : GG) : (gM m s).1 13 0 = zi s.1 := rfl
theorem gM_1 (m : xi_M) (s : GG) : (gM m s).1 13 1 = zi s.2.1 := rfl
theorem gM_p (m : xi_M) (s : GG) {p : Nat} (h : p < 21) : (gM m s).1 14 p = zi (s.2.2 p) := by
  show (if p < 21 then zi (s.2.2 p) else m.1 14 p) = _
  rw [if_pos h]
theorem gM_x {m : xi_M} {s : GG} {x : xi_M} (h2 : x.2 = m.2) (h0 : ∀ b, b ≠ 13 → b ≠ 14 → x.1 b = m.1 b) (ha : x.1 13 0 = zi s.1) (hb : x.1 13 1 = zi s.2.1) (hc : ∀ j, 2 ≤ j → x.1 13 j = m.1 13 j) (hd : ∀ p, p < 21 → x.1 14 p = zi (s.2.2 p)) (he : ∀ p, 21 ≤ p → x.1 14 p = m.1 14 p) : x = gM m s := by
  apply Prod.ext
  · funext b
    funext j
    show x.1 b j = (if b = 13 then (fun j => if j = 0 then zi s.1 else if j = 1 then zi s.2.1 else m.1 13 j) else if b = 14 then (fun p => if p < 21 then zi (s.2.2 p) else m.1 14 p) else m.1 b) j
    by_cases e : b = 13
    · subst e
      rw [if_pos rfl]
      by_cases e0 : j = 0
      · subst e0; rw [if_pos rfl]; exact ha
      · by_cases e1 : j = 1
        · subst e1; rw [if_neg e0, if_pos rfl]; exact hb
        · rw [if_neg e0, if_neg e1]; exact hc j (by omega)
    · by_cases e2 : b = 14
      · subst e2
        rw [if_neg e, if_pos rfl]
        by_cases e3 : j < 21
        · rw [if_pos e3]; exact hd j e3
        · rw [if_neg e3]; exact he j (by omega)
      · rw [if_neg e, if_neg e2, h0 b e e2]
  · exact h2
theorem gM_13 (m : xi_M) (s : GG) {j : Nat} (h : 2 ≤ j) : (gM m s).1 13 j = m.1 13 j := by
  show (if j = 0 then zi s.1 else if j = 1 then zi s.2.1 else m.1 13 j) = _
  rw [if_neg (by omega), if_neg (by omega)]
theorem gM_14 (m : xi_M) (s : GG) {j : Nat} (h : 21 ≤ j) : (gM m s).1 14 j = m.1 14 j := by
  show (if j < 21 then zi (s.2.2 j) else m.1 14 j) = _
  rw [if_neg (by omega)]
theorem gM_w0 (m : xi_M) (s : GG) (x : Int) : xi_wI (gM m s) 13 0 (zi x) = gM m (x, s.2.1, s.2.2) :=
  gM_x rfl (fun b h1 h2 => by rw [wI_o h1, gM_o h1 h2]) (by rw [mw_eq]) (by rw [mw_ne (by omega), gM_1]) (fun j hj => by rw [mw_ne (by omega), gM_13 _ _ hj]) (fun p hp => by rw [wI_o (by omega), gM_p _ _ hp]) (fun p hp => by rw [wI_o (by omega), gM_14 _ _ hp])
theorem gM_w1 (m : xi_M) (s : GG) (x : Int) : xi_wI (gM m s) 13 1 (zi x) = gM m (s.1, x, s.2.2) :=
  gM_x rfl (fun b h1 h2 => by rw [wI_o h1, gM_o h1 h2]) (by rw [mw_ne (by omega), gM_0]) (by rw [mw_eq]) (fun j hj => by rw [mw_ne (by omega), gM_13 _ _ hj]) (fun p hp => by rw [wI_o (by omega), gM_p _ _ hp]) (fun p hp => by rw [wI_o (by omega), gM_14 _ _ hp])
theorem gM_wp (m : xi_M) (s : GG) {p : Nat} (hp : p < 21) (x : Int) : xi_wI (gM m s) 14 p (zi x) = gM m (s.1, s.2.1, fun q => if q = p then x else s.2.2 q) :=
  gM_x rfl (fun b h1 h2 => by rw [wI_o h2, gM_o h1 h2]) (by rw [wI_o (by omega), gM_0]) (by rw [wI_o (by omega), gM_1]) (fun j hj => by rw [wI_o (by omega), gM_13 _ _ hj]) (fun q hq => by
    show _ = zi (if q = p then x else s.2.2 q)
    by_cases e : q = p
    · subst e; rw [mw_eq, if_pos rfl]
    · rw [mw_ne (by omega), gM_p _ _ hq, if_neg e]) (fun q hq => by rw [mw_ne (by omega), gM_14 _ _ hq])
/-- all pairs of places, the lower below the other -/
def nfP {α : Type} (f : Nat → Nat → α → α) (a : α) : Nat → α := fo (fun lo x => fo (fun h x => f lo (lo + 1 + h) x) x (20 - lo)) a
def clF (w : Nat → Int) (e : Int) (g : Nat → Int) (n : Nat) (lo hi : Nat) (s : GG) : GG := if awP w e g lo hi n then (s.1 + 1, (if s.1 = 0 then 32 * (lo : Int) + hi else s.2.1), fun p => s.2.2 p + (if isq w e lo hi (p : Nat) then 1 else 0)) else s
def clS (w : Nat → Int) (e : Int) (g : Nat → Int) (n : Nat) : Nat → GG := nfP (clF w e g n) (0, -9, fun _ => 0)
theorem cl_1 {w : Nat → Int} {e : Int} {g : Nat → Int} {n lo hi : Nat} {s : GG} : s.1 ≤ (clF w e g n lo hi s).1 ∧ (clF w e g n lo hi s).1 ≤ s.1 + 1 := by
  unfold clF
  split
  · exact ⟨show s.1 ≤ s.1 + 1 by omega, show s.1 + 1 ≤ s.1 + 1 by omega⟩
  · omega
theorem cl_i {w : Nat → Int} {e : Int} {g : Nat → Int} {n lo : Nat} {s : GG} (h : Nat) : s.1 ≤ (fo (fun h x => clF w e g n lo (lo + 1 + h) x) s h).1 ∧ (fo (fun h x => clF w e g n lo (lo + 1 + h) x) s h).1 ≤ s.1 + h := by
  induction h with
  | zero => exact ⟨Int.le_refl _, by show s.1 ≤ s.1 + 0; omega⟩
  | succ h ih =>
    have := cl_1 (w := w) (e := e) (g := g) (n := n) (lo := lo) (hi := lo + 1 + h) (s := fo (fun h x => clF w e g n lo (lo + 1 + h) x) s h)
    rw [fo_s]
    omega
theorem cl_o {w : Nat → Int} {e : Int} {g : Nat → Int} {n : Nat} (lo : Nat) : 0 ≤ (clS w e g n lo).1 ∧ (clS w e g n lo).1 ≤ 20 * lo := by
  induction lo with
  | zero => exact ⟨Int.le_refl _, Int.le_refl _⟩
  | succ lo ih =>
    have := cl_i (w := w) (e := e) (g := g) (n := n) (lo := lo) (s := clS w e g n lo) (20 - lo)
    rw [show clS w e g n (lo + 1) = fo (fun h x => clF w e g n lo (lo + 1 + h) x) (clS w e g n lo) (20 - lo) from rfl]
    omega
section
variable {S : xi_S} {m : xi_M} {w : Nat → Int}
theorem C_fits (hT : ShT S) {t : TT} (hC : CS m t) {s p : Nat} (hs : s < 6) (hp : p ≤ 8) (hz : t.1 s = 2 * (p : Int)) (hk : ∀ i, i < p → pkP (gI t s) 20 1 i) {x : Int32} {e lo hi : Int} (hx : ∀ p, p < 21 → bt x p = isq w e lo hi (p : Nat)) : E_X3_fits S x (30 + s) m = some (some (.int (zb (awP w e (gI t s) lo hi p))), m) := by
  have u := CS_yes hC (s := s) (by omega) (by omega)
  have ui := CS_it hC hs
  unfold E_X3_fits
  have h0 : (0 : Int) = 2 * ((0 : Nat) : Int) := by omega
  have sh : ∀ i, i < p → (x >>> (zi (gI t s (2 * i)) &&& zi 31)) &&& zi 1 = zb (isq w e lo hi (gI t s (2 * i))) := by
    intro i hi2
    obtain ⟨p1, p2⟩ := hk i hi2
    have h := bt_shr (x := x) (j := (gI t s (2 * i)).toNat) (by omega)
    rw [hx _ (by omega), show (((gI t s (2 * i)).toNat : Nat) : Int) = gI t s (2 * i) by omega] at h
    exact h
  have zbq : ∀ i, i < p → (zb (isq w e lo hi (gI t s (2 * i))) = zi (gI t s (2 * i + 1))) = (isq w e lo hi (gI t s (2 * i)) = decide (gI t s (2 * i + 1) = 1)) := by
    intro i hi2
    obtain ⟨p1, p2⟩ := hk i hi2
    have h01 : gI t s (2 * i + 1) = 0 ∨ gI t s (2 * i + 1) = 1 := by omega
    rcases h01 with e1 | e1
    · rw [e1, zb_z, decide_eq_false (by omega)]
    · rw [e1, zb_o, decide_eq_true rfl]
  have step : ∀ q i, i < p → isq w e lo hi (gI t s (2 * i)) = decide (gI t s (2 * i + 1) = 1) → G_X3_fits_2 S (q + 1) x (30 + s) (zi (2 * (i : Int))) m = G_X3_fits_2 S q x (30 + s) (zi (2 * ((i + 1 : Nat) : Int))) m := by
    intro q i hi2 he
    obtain ⟨p1, p2⟩ := hk i hi2
    have g0 := ui (2 * i) (by omega)
    have g1 := ui (2 * i + 1) (by omega)
    rw [gI_z] at g0 g1
    have s1 := sh i hi2
    have s2 := (zbq i hi2).mpr he
    rw [s2] at s1
    have t0 : (2 * (i : Int)).toNat = 2 * i := by omega
    have t1 : (2 * (i : Int) + 1).toNat = 2 * i + 1 := by omega
    simp only [G_X3_fits_2]
    rw [show 2 * ((i + 1 : Nat) : Int) = 2 * (i : Int) + 2 by omega]
    repeat (first | (with_reducible refine (if_pos ?_).trans ?_; focus (simp (disch := omega) only [zi_f, zi_0, zi_1, zi_31, zi_all, zi_8, zi_16, zi_add, zi_sub, zi_mul, zi_neg, zi_lt, zi_le, zi_eq, zi_div, zi_t, zi_n, xb_I, xb_J, xb_V, xb_s, if_pos, if_neg, if_true, if_false, true_and, and_true, true_or, or_true, false_or, or_false, not_true, not_false_iff, zb_z, zb_o, zb_ft, tn_0, tn_1, tn_2, tn_3, tn_c, Int.reduceToNat, te_0, te_1, tk_0, tk_1, tk_m, ts_1, or_0, bp_f, sT_e1 hT, sT_e2 hT, sT_e3 hT, sT_e4 hT, u.2, hz, t0, t1, g0, g1, s1] <;> omega)) | (with_reducible refine (if_neg ?_).trans ?_; focus (simp (disch := omega) only [zi_f, zi_0, zi_1, zi_31, zi_all, zi_8, zi_16, zi_add, zi_sub, zi_mul, zi_neg, zi_lt, zi_le, zi_eq, zi_div, zi_t, zi_n, xb_I, xb_J, xb_V, xb_s, if_pos, if_neg, if_true, if_false, true_and, and_true, true_or, or_true, false_or, or_false, not_true, not_false_iff, zb_z, zb_o, zb_ft, tn_0, tn_1, tn_2, tn_3, tn_c, Int.reduceToNat, te_0, te_1, tk_0, tk_1, tk_m, ts_1, or_0, bp_f, sT_e1 hT, sT_e2 hT, sT_e3 hT, sT_e4 hT, u.2, hz, t0, t1, g0, g1, s1] <;> omega)) | ((conv => lhs; arg 1; simp (disch := omega) only [zi_f, zi_0, zi_1, zi_31, zi_all, zi_8, zi_16, zi_add, zi_sub, zi_mul, zi_neg, zi_lt, zi_le, zi_eq, zi_div, zi_t, zi_n, xb_I, xb_J, xb_V, xb_s, if_pos, if_neg, if_true, if_false, true_and, and_true, true_or, or_true, false_or, or_false, not_true, not_false_iff, zb_z, zb_o, zb_ft, tn_0, tn_1, tn_2, tn_3, tn_c, Int.reduceToNat, te_0, te_1, tk_0, tk_1, tk_m, ts_1, or_0, bp_f, sT_e1 hT, sT_e2 hT, sT_e3 hT, sT_e4 hT, u.2, hz, t0, t1, g0, g1, s1]); first | with_reducible refine xb_I.trans ?_ | with_reducible refine xb_V.trans ?_ | with_reducible refine xb_J.trans ?_ | with_reducible refine xb_s.trans ?_))
    first | (simp (disch := omega) only [zi_f, zi_0, zi_1, zi_31, zi_all, zi_8, zi_16, zi_add, zi_sub, zi_mul, zi_neg, zi_lt, zi_le, zi_eq, zi_div, zi_t, zi_n, xb_I, xb_J, xb_V, xb_s, if_pos, if_neg, if_true, if_false, true_and, and_true, true_or, or_true, false_or, or_false, not_true, not_false_iff, zb_z, zb_o, zb_ft, tn_0, tn_1, tn_2, tn_3, tn_c, Int.reduceToNat, te_0, te_1, tk_0, tk_1, tk_m, ts_1, or_0, bp_f, vI, sT_e1 hT, sT_e2 hT, sT_e3 hT, sT_e4 hT, u.2, hz, t0, t1, g0, g1, s1]; done) | rfl | (simp (disch := omega) only [zi_f, zi_0, zi_1, zi_31, zi_all, zi_8, zi_16, zi_add, zi_sub, zi_mul, zi_neg, zi_lt, zi_le, zi_eq, zi_div, zi_t, zi_n, xb_I, xb_J, xb_V, xb_s, if_pos, if_neg, if_true, if_false, true_and, and_true, true_or, or_true, false_or, or_false, not_true, not_false_iff, zb_z, zb_o, zb_ft, tn_0, tn_1, tn_2, tn_3, tn_c, Int.reduceToNat, te_0, te_1, tk_0, tk_1, tk_m, ts_1, or_0, bp_f, vI, sT_e1 hT, sT_e2 hT, sT_e3 hT, sT_e4 hT, u.2, hz, t0, t1, g0, g1, s1]; rfl)
  rw [zi_f, h0]
  rcases least (fun i => isq w e lo hi (gI t s (2 * i)) = decide (gI t s (2 * i + 1) = 1)) p with h | ⟨y, h1', h2', h3'⟩
  · rw [aw_f h, zb_t]
    refine lp_all (fun q i => G_X3_fits_2 S q x (30 + s) (zi (2 * (i : Int))) m) p 10000 (fun i q hi => step q i hi (h i hi)) (fun q => ?_) (by omega)
    simp only [G_X3_fits_2]
    repeat (first | (with_reducible refine (if_pos ?_).trans ?_; focus (simp (disch := omega) only [zi_f, zi_0, zi_1, zi_31, zi_all, zi_8, zi_16, zi_add, zi_sub, zi_mul, zi_neg, zi_lt, zi_le, zi_eq, zi_div, zi_t, zi_n, xb_I, xb_J, xb_V, xb_s, if_pos, if_neg, if_true, if_false, true_and, and_true, true_or, or_true, false_or, or_false, not_true, not_false_iff, zb_z, zb_o, zb_ft, tn_0, tn_1, tn_2, tn_3, tn_c, Int.reduceToNat, te_0, te_1, tk_0, tk_1, tk_m, ts_1, or_0, bp_f, sT_e1 hT, sT_e2 hT, sT_e3 hT, sT_e4 hT, u.2, hz] <;> omega)) | (with_reducible refine (if_neg ?_).trans ?_; focus (simp (disch := omega) only [zi_f, zi_0, zi_1, zi_31, zi_all, zi_8, zi_16, zi_add, zi_sub, zi_mul, zi_neg, zi_lt, zi_le, zi_eq, zi_div, zi_t, zi_n, xb_I, xb_J, xb_V, xb_s, if_pos, if_neg, if_true, if_false, true_and, and_true, true_or, or_true, false_or, or_false, not_true, not_false_iff, zb_z, zb_o, zb_ft, tn_0, tn_1, tn_2, tn_3, tn_c, Int.reduceToNat, te_0, te_1, tk_0, tk_1, tk_m, ts_1, or_0, bp_f, sT_e1 hT, sT_e2 hT, sT_e3 hT, sT_e4 hT, u.2, hz] <;> omega)) | ((conv => lhs; arg 1; simp (disch := omega) only [zi_f, zi_0, zi_1, zi_31, zi_all, zi_8, zi_16, zi_add, zi_sub, zi_mul, zi_neg, zi_lt, zi_le, zi_eq, zi_div, zi_t, zi_n, xb_I, xb_J, xb_V, xb_s, if_pos, if_neg, if_true, if_false, true_and, and_true, true_or, or_true, false_or, or_false, not_true, not_false_iff, zb_z, zb_o, zb_ft, tn_0, tn_1, tn_2, tn_3, tn_c, Int.reduceToNat, te_0, te_1, tk_0, tk_1, tk_m, ts_1, or_0, bp_f, sT_e1 hT, sT_e2 hT, sT_e3 hT, sT_e4 hT, u.2, hz]); first | with_reducible refine xb_I.trans ?_ | with_reducible refine xb_V.trans ?_ | with_reducible refine xb_J.trans ?_ | with_reducible refine xb_s.trans ?_))
    first | (simp (disch := omega) only [zi_f, zi_0, zi_1, zi_31, zi_all, zi_8, zi_16, zi_add, zi_sub, zi_mul, zi_neg, zi_lt, zi_le, zi_eq, zi_div, zi_t, zi_n, xb_I, xb_J, xb_V, xb_s, if_pos, if_neg, if_true, if_false, true_and, and_true, true_or, or_true, false_or, or_false, not_true, not_false_iff, zb_z, zb_o, zb_ft, tn_0, tn_1, tn_2, tn_3, tn_c, Int.reduceToNat, te_0, te_1, tk_0, tk_1, tk_m, ts_1, or_0, bp_f, vI, sT_e1 hT, sT_e2 hT, sT_e3 hT, sT_e4 hT, u.2, hz]; done) | rfl | (simp (disch := omega) only [zi_f, zi_0, zi_1, zi_31, zi_all, zi_8, zi_16, zi_add, zi_sub, zi_mul, zi_neg, zi_lt, zi_le, zi_eq, zi_div, zi_t, zi_n, xb_I, xb_J, xb_V, xb_s, if_pos, if_neg, if_true, if_false, true_and, and_true, true_or, or_true, false_or, or_false, not_true, not_false_iff, zb_z, zb_o, zb_ft, tn_0, tn_1, tn_2, tn_3, tn_c, Int.reduceToNat, te_0, te_1, tk_0, tk_1, tk_m, ts_1, or_0, bp_f, vI, sT_e1 hT, sT_e2 hT, sT_e3 hT, sT_e4 hT, u.2, hz]; rfl)
  · have hF : awP w e (gI t s) lo hi p = false := by
      cases hl : awP w e (gI t s) lo hi p
      · rfl
      · exact absurd (aw_t hl y h1') h2'
    rw [hF, zb_f]
    refine lp_all (fun q i => G_X3_fits_2 S q x (30 + s) (zi (2 * (i : Int))) m) y 10000 (fun i q hi => step q i (by omega) (h3' i hi)) (fun q => ?_) (by omega)
    obtain ⟨p1, p2⟩ := hk y h1'
    have g0 := ui (2 * y) (by omega)
    have g1 := ui (2 * y + 1) (by omega)
    rw [gI_z] at g0 g1
    have s1 := sh y h1'
    have s2 : ¬ (zb (isq w e lo hi (gI t s (2 * y))) = zi (gI t s (2 * y + 1))) := fun q => h2' ((zbq y h1').mp q)
    have t0 : (2 * (y : Int)).toNat = 2 * y := by omega
    have t1 : (2 * (y : Int) + 1).toNat = 2 * y + 1 := by omega
    simp only [G_X3_fits_2]
    generalize zb (isq w e lo hi (gI t s (2 * y))) = zq at *
    repeat (first | (with_reducible refine (if_pos ?_).trans ?_; focus (simp (disch := omega) only [zi_f, zi_0, zi_1, zi_31, zi_all, zi_8, zi_16, zi_add, zi_sub, zi_mul, zi_neg, zi_lt, zi_le, zi_eq, zi_div, zi_t, zi_n, xb_I, xb_J, xb_V, xb_s, if_pos, if_neg, if_true, if_false, true_and, and_true, true_or, or_true, false_or, or_false, not_true, not_false_iff, zb_z, zb_o, zb_ft, tn_0, tn_1, tn_2, tn_3, tn_c, Int.reduceToNat, te_0, te_1, tk_0, tk_1, tk_m, ts_1, or_0, bp_f, sT_e1 hT, sT_e2 hT, sT_e3 hT, sT_e4 hT, u.2, hz, t0, t1, g0, g1, s1] <;> omega)) | (with_reducible refine (if_neg ?_).trans ?_; focus (simp (disch := omega) only [zi_f, zi_0, zi_1, zi_31, zi_all, zi_8, zi_16, zi_add, zi_sub, zi_mul, zi_neg, zi_lt, zi_le, zi_eq, zi_div, zi_t, zi_n, xb_I, xb_J, xb_V, xb_s, if_pos, if_neg, if_true, if_false, true_and, and_true, true_or, or_true, false_or, or_false, not_true, not_false_iff, zb_z, zb_o, zb_ft, tn_0, tn_1, tn_2, tn_3, tn_c, Int.reduceToNat, te_0, te_1, tk_0, tk_1, tk_m, ts_1, or_0, bp_f, sT_e1 hT, sT_e2 hT, sT_e3 hT, sT_e4 hT, u.2, hz, t0, t1, g0, g1, s1] <;> omega)) | ((conv => lhs; arg 1; simp (disch := omega) only [zi_f, zi_0, zi_1, zi_31, zi_all, zi_8, zi_16, zi_add, zi_sub, zi_mul, zi_neg, zi_lt, zi_le, zi_eq, zi_div, zi_t, zi_n, xb_I, xb_J, xb_V, xb_s, if_pos, if_neg, if_true, if_false, true_and, and_true, true_or, or_true, false_or, or_false, not_true, not_false_iff, zb_z, zb_o, zb_ft, tn_0, tn_1, tn_2, tn_3, tn_c, Int.reduceToNat, te_0, te_1, tk_0, tk_1, tk_m, ts_1, or_0, bp_f, sT_e1 hT, sT_e2 hT, sT_e3 hT, sT_e4 hT, u.2, hz, t0, t1, g0, g1, s1]); first | with_reducible refine xb_I.trans ?_ | with_reducible refine xb_V.trans ?_ | with_reducible refine xb_J.trans ?_ | with_reducible refine xb_s.trans ?_))
    repeat (first | (with_reducible refine (if_pos ?_).trans ?_; focus (simp (disch := omega) only [zi_f, zi_0, zi_1, zi_31, zi_all, zi_8, zi_16, zi_add, zi_sub, zi_mul, zi_neg, zi_lt, zi_le, zi_eq, zi_div, zi_t, zi_n, xb_I, xb_J, xb_V, xb_s, if_pos, if_neg, if_true, if_false, true_and, and_true, true_or, or_true, false_or, or_false, not_true, not_false_iff, zb_z, zb_o, zb_ft, tn_0, tn_1, tn_2, tn_3, tn_c, Int.reduceToNat, te_0, te_1, tk_0, tk_1, tk_m, ts_1, or_0, bp_f, zi_t] <;> omega)) | (with_reducible refine (if_neg ?_).trans ?_; focus (simp (disch := omega) only [zi_f, zi_0, zi_1, zi_31, zi_all, zi_8, zi_16, zi_add, zi_sub, zi_mul, zi_neg, zi_lt, zi_le, zi_eq, zi_div, zi_t, zi_n, xb_I, xb_J, xb_V, xb_s, if_pos, if_neg, if_true, if_false, true_and, and_true, true_or, or_true, false_or, or_false, not_true, not_false_iff, zb_z, zb_o, zb_ft, tn_0, tn_1, tn_2, tn_3, tn_c, Int.reduceToNat, te_0, te_1, tk_0, tk_1, tk_m, ts_1, or_0, bp_f, zi_t] <;> omega)) | ((conv => lhs; arg 1; simp (disch := omega) only [zi_f, zi_0, zi_1, zi_31, zi_all, zi_8, zi_16, zi_add, zi_sub, zi_mul, zi_neg, zi_lt, zi_le, zi_eq, zi_div, zi_t, zi_n, xb_I, xb_J, xb_V, xb_s, if_pos, if_neg, if_true, if_false, true_and, and_true, true_or, or_true, false_or, or_false, not_true, not_false_iff, zb_z, zb_o, zb_ft, tn_0, tn_1, tn_2, tn_3, tn_c, Int.reduceToNat, te_0, te_1, tk_0, tk_1, tk_m, ts_1, or_0, bp_f, zi_t]); first | with_reducible refine xb_I.trans ?_ | with_reducible refine xb_V.trans ?_ | with_reducible refine xb_J.trans ?_ | with_reducible refine xb_s.trans ?_))
    first | (simp (disch := omega) only [zi_f, zi_0, zi_1, zi_31, zi_all, zi_8, zi_16, zi_add, zi_sub, zi_mul, zi_neg, zi_lt, zi_le, zi_eq, zi_div, zi_t, zi_n, xb_I, xb_J, xb_V, xb_s, if_pos, if_neg, if_true, if_false, true_and, and_true, true_or, or_true, false_or, or_false, not_true, not_false_iff, zb_z, zb_o, zb_ft, tn_0, tn_1, tn_2, tn_3, tn_c, Int.reduceToNat, te_0, te_1, tk_0, tk_1, tk_m, ts_1, or_0, bp_f, vI, zi_t]; done) | rfl | (simp (disch := omega) only [zi_f, zi_0, zi_1, zi_31, zi_all, zi_8, zi_16, zi_add, zi_sub, zi_mul, zi_neg, zi_lt, zi_le, zi_eq, zi_div, zi_t, zi_n, xb_I, xb_J, xb_V, xb_s, if_pos, if_neg, if_true, if_false, true_and, and_true, true_or, or_true, false_or, or_false, not_true, not_false_iff, zb_z, zb_o, zb_ft, tn_0, tn_1, tn_2, tn_3, tn_c, Int.reduceToNat, te_0, te_1, tk_0, tk_1, tk_m, ts_1, or_0, bp_f, vI, zi_t]; rfl)
theorem C_addPair (hB : ShB S) {lo hi : Nat} (hlo : lo < 21) (hhi : hi < 21) {x : Int32} {f : Nat → Bool} (hx : ∀ p, p < 21 → bt x p = f p) (s : GG) (hs0 : 0 ≤ s.1 ∧ s.1 ≤ 1000) : E_X3_addPair S 13 (zi lo) (zi hi) x (gM m s) = some (none, gM m (s.1 + 1, (if s.1 = 0 then 32 * (lo : Int) + hi else s.2.1), fun p => s.2.2 p + (if f p then 1 else 0))) := by
  have loop : ∀ s2 : GG, G_X3_addPair_30 S 10000 13 x (zi 0) (gM m s2) = some (none, gM m (s2.1, s2.2.1, fun p => s2.2.2 p + (if f p then 1 else 0))) := by
    intro s2
    have := lp_all (fun q j => G_X3_addPair_30 S q 13 x (zi j) (gM m (s2.1, s2.2.1, fun p => if p < j then s2.2.2 p + (if f p then 1 else 0) else s2.2.2 p))) 21 10000 (r := some (none, gM m (s2.1, s2.2.1, fun p => s2.2.2 p + (if f p then 1 else 0)))) (fun j q hj => ?_) (fun q => ?_) (by omega)
    · have e0 : (fun p => if p < 0 then s2.2.2 p + (if f p then 1 else 0) else s2.2.2 p) = s2.2.2 := funext fun p => if_neg (by omega)
      rw [e0] at this
      exact this
    · have hsh := bt_shr (x := x) (j := j) (by omega)
      rw [hx j hj, zb_zi] at hsh
      have hgp := gM_p m (s2.1, s2.2.1, fun p => if p < j then s2.2.2 p + (if f p then 1 else 0) else s2.2.2 p) hj
      dsimp only at hgp
      rw [if_neg (show ¬ j < j by omega)] at hgp
      have hwp := gM_wp m (s2.1, s2.2.1, fun p => if p < j then s2.2.2 p + (if f p then 1 else 0) else s2.2.2 p) hj (s2.2.2 j + (if f j then 1 else 0))
      dsimp only at hwp
      have efn : (fun q => if q = j then s2.2.2 j + (if f j then 1 else 0) else if q < j then s2.2.2 q + (if f q then 1 else 0) else s2.2.2 q) = (fun p => if p < j + 1 then s2.2.2 p + (if f p then 1 else 0) else s2.2.2 p) := funext fun q => by
        by_cases e : q = j
        · subst e; rw [if_pos rfl, if_pos (show q < q + 1 by omega)]
        · rw [if_neg e]
          by_cases e2 : q < j
          · rw [if_pos e2, if_pos (show q < j + 1 by omega)]
          · rw [if_neg e2, if_neg (show ¬ q < j + 1 by omega)]
      rw [efn] at hwp
      simp only [G_X3_addPair_30]
      generalize (if f j = true then (1 : Int) else 0) = bj at *
      repeat (first | (with_reducible refine (if_pos ?_).trans ?_; focus (simp (disch := omega) only [zi_f, zi_0, zi_1, zi_31, zi_all, zi_8, zi_16, zi_add, zi_sub, zi_mul, zi_neg, zi_lt, zi_le, zi_eq, zi_div, zi_t, zi_n, xb_I, xb_J, xb_V, xb_s, if_pos, if_neg, if_true, if_false, true_and, and_true, true_or, or_true, false_or, or_false, not_true, not_false_iff, zb_z, zb_o, zb_ft, tn_0, tn_1, tn_2, tn_3, tn_c, Int.reduceToNat, te_0, te_1, tk_0, tk_1, tk_m, ts_1, or_0, bp_f, sB_g1 hB, sB_g2 hB, sB_g3 hB, sB_g4 hB, hsh, hgp, hwp] <;> omega)) | (with_reducible refine (if_neg ?_).trans ?_; focus (simp (disch := omega) only [zi_f, zi_0, zi_1, zi_31, zi_all, zi_8, zi_16, zi_add, zi_sub, zi_mul, zi_neg, zi_lt, zi_le, zi_eq, zi_div, zi_t, zi_n, xb_I, xb_J, xb_V, xb_s, if_pos, if_neg, if_true, if_false, true_and, and_true, true_or, or_true, false_or, or_false, not_true, not_false_iff, zb_z, zb_o, zb_ft, tn_0, tn_1, tn_2, tn_3, tn_c, Int.reduceToNat, te_0, te_1, tk_0, tk_1, tk_m, ts_1, or_0, bp_f, sB_g1 hB, sB_g2 hB, sB_g3 hB, sB_g4 hB, hsh, hgp, hwp] <;> omega)) | ((conv => lhs; arg 1; simp (disch := omega) only [zi_f, zi_0, zi_1, zi_31, zi_all, zi_8, zi_16, zi_add, zi_sub, zi_mul, zi_neg, zi_lt, zi_le, zi_eq, zi_div, zi_t, zi_n, xb_I, xb_J, xb_V, xb_s, if_pos, if_neg, if_true, if_false, true_and, and_true, true_or, or_true, false_or, or_false, not_true, not_false_iff, zb_z, zb_o, zb_ft, tn_0, tn_1, tn_2, tn_3, tn_c, Int.reduceToNat, te_0, te_1, tk_0, tk_1, tk_m, ts_1, or_0, bp_f, sB_g1 hB, sB_g2 hB, sB_g3 hB, sB_g4 hB, hsh, hgp, hwp]); first | with_reducible refine xb_I.trans ?_ | with_reducible refine xb_V.trans ?_ | with_reducible refine xb_J.trans ?_ | with_reducible refine xb_s.trans ?_))
      first | (simp (disch := omega) only [zi_f, zi_0, zi_1, zi_31, zi_all, zi_8, zi_16, zi_add, zi_sub, zi_mul, zi_neg, zi_lt, zi_le, zi_eq, zi_div, zi_t, zi_n, xb_I, xb_J, xb_V, xb_s, if_pos, if_neg, if_true, if_false, true_and, and_true, true_or, or_true, false_or, or_false, not_true, not_false_iff, zb_z, zb_o, zb_ft, tn_0, tn_1, tn_2, tn_3, tn_c, Int.reduceToNat, te_0, te_1, tk_0, tk_1, tk_m, ts_1, or_0, bp_f, vI, sB_g1 hB, sB_g2 hB, sB_g3 hB, sB_g4 hB, hsh, hgp, hwp]; done) | rfl | (simp (disch := omega) only [zi_f, zi_0, zi_1, zi_31, zi_all, zi_8, zi_16, zi_add, zi_sub, zi_mul, zi_neg, zi_lt, zi_le, zi_eq, zi_div, zi_t, zi_n, xb_I, xb_J, xb_V, xb_s, if_pos, if_neg, if_true, if_false, true_and, and_true, true_or, or_true, false_or, or_false, not_true, not_false_iff, zb_z, zb_o, zb_ft, tn_0, tn_1, tn_2, tn_3, tn_c, Int.reduceToNat, te_0, te_1, tk_0, tk_1, tk_m, ts_1, or_0, bp_f, vI, sB_g1 hB, sB_g2 hB, sB_g3 hB, sB_g4 hB, hsh, hgp, hwp]; rfl)
    · simp only [G_X3_addPair_30]
      repeat (first | (with_reducible refine (if_pos ?_).trans ?_; focus (simp (disch := omega) only [zi_f, zi_0, zi_1, zi_31, zi_all, zi_8, zi_16, zi_add, zi_sub, zi_mul, zi_neg, zi_lt, zi_le, zi_eq, zi_div, zi_t, zi_n, xb_I, xb_J, xb_V, xb_s, if_pos, if_neg, if_true, if_false, true_and, and_true, true_or, or_true, false_or, or_false, not_true, not_false_iff, zb_z, zb_o, zb_ft, tn_0, tn_1, tn_2, tn_3, tn_c, Int.reduceToNat, te_0, te_1, tk_0, tk_1, tk_m, ts_1, or_0, bp_f, sB_g1 hB, sB_g2 hB, sB_g3 hB, sB_g4 hB] <;> omega)) | (with_reducible refine (if_neg ?_).trans ?_; focus (simp (disch := omega) only [zi_f, zi_0, zi_1, zi_31, zi_all, zi_8, zi_16, zi_add, zi_sub, zi_mul, zi_neg, zi_lt, zi_le, zi_eq, zi_div, zi_t, zi_n, xb_I, xb_J, xb_V, xb_s, if_pos, if_neg, if_true, if_false, true_and, and_true, true_or, or_true, false_or, or_false, not_true, not_false_iff, zb_z, zb_o, zb_ft, tn_0, tn_1, tn_2, tn_3, tn_c, Int.reduceToNat, te_0, te_1, tk_0, tk_1, tk_m, ts_1, or_0, bp_f, sB_g1 hB, sB_g2 hB, sB_g3 hB, sB_g4 hB] <;> omega)) | ((conv => lhs; arg 1; simp (disch := omega) only [zi_f, zi_0, zi_1, zi_31, zi_all, zi_8, zi_16, zi_add, zi_sub, zi_mul, zi_neg, zi_lt, zi_le, zi_eq, zi_div, zi_t, zi_n, xb_I, xb_J, xb_V, xb_s, if_pos, if_neg, if_true, if_false, true_and, and_true, true_or, or_true, false_or, or_false, not_true, not_false_iff, zb_z, zb_o, zb_ft, tn_0, tn_1, tn_2, tn_3, tn_c, Int.reduceToNat, te_0, te_1, tk_0, tk_1, tk_m, ts_1, or_0, bp_f, sB_g1 hB, sB_g2 hB, sB_g3 hB, sB_g4 hB]); first | with_reducible refine xb_I.trans ?_ | with_reducible refine xb_V.trans ?_ | with_reducible refine xb_J.trans ?_ | with_reducible refine xb_s.trans ?_))
      refine congrArg (fun x => some (none, x)) ?_
      refine gM_x rfl (fun b h1 h2 => gM_o h1 h2) (gM_0 _ _) (gM_1 _ _) (fun j hj => gM_13 _ _ hj) (fun p hp => ?_) (fun p hp => gM_14 _ _ hp)
      rw [gM_p _ _ hp]
      show zi (if p < 21 then _ else _) = _
      rw [if_pos hp]
  have h0 := gM_0 m s
  have w1 := gM_w1 m s (32 * (lo : Int) + hi)
  have w2 := gM_w0 m (s.1, 32 * (lo : Int) + hi, s.2.2) (s.1 + 1)
  have w3 := gM_w0 m s (s.1 + 1)
  have q0 := gM_0 m (s.1, 32 * (lo : Int) + hi, s.2.2)
  dsimp only at w2 q0
  unfold E_X3_addPair
  by_cases hc : s.1 = 0
  · rw [if_pos hc]
    have hl := loop (s.1 + 1, 32 * (lo : Int) + hi, s.2.2)
    dsimp only at hl
    repeat (first | (with_reducible refine (if_pos ?_).trans ?_; focus (simp (disch := omega) only [zi_f, zi_0, zi_1, zi_31, zi_all, zi_8, zi_16, zi_add, zi_sub, zi_mul, zi_neg, zi_lt, zi_le, zi_eq, zi_div, zi_t, zi_n, xb_I, xb_J, xb_V, xb_s, if_pos, if_neg, if_true, if_false, true_and, and_true, true_or, or_true, false_or, or_false, not_true, not_false_iff, zb_z, zb_o, zb_ft, tn_0, tn_1, tn_2, tn_3, tn_c, Int.reduceToNat, te_0, te_1, tk_0, tk_1, tk_m, ts_1, or_0, bp_f, sB_g1 hB, sB_g2 hB, sB_g3 hB, sB_g4 hB, h0] <;> omega)) | (with_reducible refine (if_neg ?_).trans ?_; focus (simp (disch := omega) only [zi_f, zi_0, zi_1, zi_31, zi_all, zi_8, zi_16, zi_add, zi_sub, zi_mul, zi_neg, zi_lt, zi_le, zi_eq, zi_div, zi_t, zi_n, xb_I, xb_J, xb_V, xb_s, if_pos, if_neg, if_true, if_false, true_and, and_true, true_or, or_true, false_or, or_false, not_true, not_false_iff, zb_z, zb_o, zb_ft, tn_0, tn_1, tn_2, tn_3, tn_c, Int.reduceToNat, te_0, te_1, tk_0, tk_1, tk_m, ts_1, or_0, bp_f, sB_g1 hB, sB_g2 hB, sB_g3 hB, sB_g4 hB, h0] <;> omega)) | ((conv => lhs; arg 1; simp (disch := omega) only [zi_f, zi_0, zi_1, zi_31, zi_all, zi_8, zi_16, zi_add, zi_sub, zi_mul, zi_neg, zi_lt, zi_le, zi_eq, zi_div, zi_t, zi_n, xb_I, xb_J, xb_V, xb_s, if_pos, if_neg, if_true, if_false, true_and, and_true, true_or, or_true, false_or, or_false, not_true, not_false_iff, zb_z, zb_o, zb_ft, tn_0, tn_1, tn_2, tn_3, tn_c, Int.reduceToNat, te_0, te_1, tk_0, tk_1, tk_m, ts_1, or_0, bp_f, sB_g1 hB, sB_g2 hB, sB_g3 hB, sB_g4 hB, h0]); first | with_reducible refine xb_I.trans ?_ | with_reducible refine xb_V.trans ?_ | with_reducible refine xb_J.trans ?_ | with_reducible refine xb_s.trans ?_))
    simp (disch := omega) only [zi_f, zi_0, zi_1, zi_31, zi_all, zi_8, zi_16, zi_add, zi_sub, zi_mul, zi_neg, zi_lt, zi_le, zi_eq, zi_div, zi_t, zi_n, xb_I, xb_J, xb_V, xb_s, if_pos, if_neg, if_true, if_false, true_and, and_true, true_or, or_true, false_or, or_false, not_true, not_false_iff, zb_z, zb_o, zb_ft, tn_0, tn_1, tn_2, tn_3, tn_c, Int.reduceToNat, te_0, te_1, tk_0, tk_1, tk_m, ts_1, or_0, bp_f, w1, q0, w2, hl]
  · rw [if_neg hc]
    have hl := loop (s.1 + 1, s.2.1, s.2.2)
    dsimp only at hl
    repeat (first | (with_reducible refine (if_pos ?_).trans ?_; focus (simp (disch := omega) only [zi_f, zi_0, zi_1, zi_31, zi_all, zi_8, zi_16, zi_add, zi_sub, zi_mul, zi_neg, zi_lt, zi_le, zi_eq, zi_div, zi_t, zi_n, xb_I, xb_J, xb_V, xb_s, if_pos, if_neg, if_true, if_false, true_and, and_true, true_or, or_true, false_or, or_false, not_true, not_false_iff, zb_z, zb_o, zb_ft, tn_0, tn_1, tn_2, tn_3, tn_c, Int.reduceToNat, te_0, te_1, tk_0, tk_1, tk_m, ts_1, or_0, bp_f, sB_g1 hB, sB_g2 hB, sB_g3 hB, sB_g4 hB, h0] <;> omega)) | (with_reducible refine (if_neg ?_).trans ?_; focus (simp (disch := omega) only [zi_f, zi_0, zi_1, zi_31, zi_all, zi_8, zi_16, zi_add, zi_sub, zi_mul, zi_neg, zi_lt, zi_le, zi_eq, zi_div, zi_t, zi_n, xb_I, xb_J, xb_V, xb_s, if_pos, if_neg, if_true, if_false, true_and, and_true, true_or, or_true, false_or, or_false, not_true, not_false_iff, zb_z, zb_o, zb_ft, tn_0, tn_1, tn_2, tn_3, tn_c, Int.reduceToNat, te_0, te_1, tk_0, tk_1, tk_m, ts_1, or_0, bp_f, sB_g1 hB, sB_g2 hB, sB_g3 hB, sB_g4 hB, h0] <;> omega)) | ((conv => lhs; arg 1; simp (disch := omega) only [zi_f, zi_0, zi_1, zi_31, zi_all, zi_8, zi_16, zi_add, zi_sub, zi_mul, zi_neg, zi_lt, zi_le, zi_eq, zi_div, zi_t, zi_n, xb_I, xb_J, xb_V, xb_s, if_pos, if_neg, if_true, if_false, true_and, and_true, true_or, or_true, false_or, or_false, not_true, not_false_iff, zb_z, zb_o, zb_ft, tn_0, tn_1, tn_2, tn_3, tn_c, Int.reduceToNat, te_0, te_1, tk_0, tk_1, tk_m, ts_1, or_0, bp_f, sB_g1 hB, sB_g2 hB, sB_g3 hB, sB_g4 hB, h0]); first | with_reducible refine xb_I.trans ?_ | with_reducible refine xb_V.trans ?_ | with_reducible refine xb_J.trans ?_ | with_reducible refine xb_s.trans ?_))
    simp (disch := omega) only [zi_f, zi_0, zi_1, zi_31, zi_all, zi_8, zi_16, zi_add, zi_sub, zi_mul, zi_neg, zi_lt, zi_le, zi_eq, zi_div, zi_t, zi_n, xb_I, xb_J, xb_V, xb_s, if_pos, if_neg, if_true, if_false, true_and, and_true, true_or, or_true, false_or, or_false, not_true, not_false_iff, zb_z, zb_o, zb_ft, tn_0, tn_1, tn_2, tn_3, tn_c, Int.reduceToNat, te_0, te_1, tk_0, tk_1, tk_m, ts_1, or_0, bp_f, h0, w3, hl]
theorem RF_gM (hf : RF m 50 w) (s : GG) : RF (gM m s) 50 w := RF_fr (fun b h1 h2 => gM_o (by omega) (by omega)) hf
theorem CS_gM {t : TT} (h : CS m t) (s : GG) : CS (gM m s) t := CS_fr (fun b h1 h2 => gM_o (by omega) (by omega)) h
theorem C_weigh (hS : Sh S) (hf : RF m 50 w) (hb : Bd w) {t : TT} (hC : CS m t) {s p : Nat} (hs : s < 6) (hp : p ≤ 8) (hz : t.1 s = 2 * (p : Int)) (hk : ∀ i, i < p → pkP (gI t s) 20 1 i) {e : Int} (he : -1000 ≤ e ∧ e ≤ 1000) : E_X3_weigh S 13 50 (zi e) (30 + s) m = some (none, gM m (clS w e (gI t s) p 20)) := by
  have hT := hS.1
  have hB := hS.2.1
  have hsR : ShR S 50 := hS.2.2.2 0 (by omega)
  have hb0 := hb.1
  have hn := hb.n
  have hfill := fun (m : xi_M) => C_fill (S := S) (m := m) (sB_g3 hB) (sB_g4 hB) (by omega) (zi 0)
  have hstart : wrM (xi_wI (xi_wI m 13 0 (zi 0)) 13 1 (zi (-9))) 14 0 (fun _ => zi 0) 21 = gM m (0, -9, fun _ => 0) :=
    gM_x (by rw [wr_l]; rfl) (fun b h1 h2 => by rw [wr_o h2, wI_o h1, wI_o h1]) (by rw [wr_o (by omega), mw_ne (by omega), mw_eq]) (by rw [wr_o (by omega), mw_eq]) (fun j hj => by rw [wr_o (by omega), mw_ne (by omega), mw_ne (by omega)]) (fun p hp => by rw [wr_if, if_pos (by omega)]) (fun p hp => by rw [wr_if, if_neg (by omega), wI_o (by omega), wI_o (by omega)])
  have hop := fun (s2 : GG) => C_openPlaces hsR (RF_gM hf s2) hb he
  have hopb : ∀ p, p < 21 → bt (opV w e (pN w)) p = !kpP w e p (pN w) := fun p hp => op_bt hb e hp _ hn.2
  have key : G_X3_weigh_29 S 10000 13 50 (30 + s) (opV w e (pN w)) (zi 0) (gM m (0, -9, fun _ => 0)) = some (none, gM m (clS w e (gI t s) p 20)) := by
    refine lp_all (fun q lo => G_X3_weigh_29 S q 13 50 (30 + s) (opV w e (pN w)) (zi lo) (gM m (clS w e (gI t s) p lo))) 20 10000 (fun lo q hlo => ?_) (fun q => ?_) (by omega)
    · simp only [G_X3_weigh_29]
      repeat (first | (with_reducible refine (if_pos ?_).trans ?_; focus (simp (disch := omega) only [zi_f, zi_0, zi_1, zi_31, zi_all, zi_8, zi_16, zi_add, zi_sub, zi_mul, zi_neg, zi_lt, zi_le, zi_eq, zi_div, zi_t, zi_n, xb_I, xb_J, xb_V, xb_s, if_pos, if_neg, if_true, if_false, true_and, and_true, true_or, or_true, false_or, or_false, not_true, not_false_iff, zb_z, zb_o, zb_ft, tn_0, tn_1, tn_2, tn_3, tn_c, Int.reduceToNat, te_0, te_1, tk_0, tk_1, tk_m, ts_1, or_0, bp_f, zi_t] <;> omega)) | (with_reducible refine (if_neg ?_).trans ?_; focus (simp (disch := omega) only [zi_f, zi_0, zi_1, zi_31, zi_all, zi_8, zi_16, zi_add, zi_sub, zi_mul, zi_neg, zi_lt, zi_le, zi_eq, zi_div, zi_t, zi_n, xb_I, xb_J, xb_V, xb_s, if_pos, if_neg, if_true, if_false, true_and, and_true, true_or, or_true, false_or, or_false, not_true, not_false_iff, zb_z, zb_o, zb_ft, tn_0, tn_1, tn_2, tn_3, tn_c, Int.reduceToNat, te_0, te_1, tk_0, tk_1, tk_m, ts_1, or_0, bp_f, zi_t] <;> omega)) | ((conv => lhs; arg 1; simp (disch := omega) only [zi_f, zi_0, zi_1, zi_31, zi_all, zi_8, zi_16, zi_add, zi_sub, zi_mul, zi_neg, zi_lt, zi_le, zi_eq, zi_div, zi_t, zi_n, xb_I, xb_J, xb_V, xb_s, if_pos, if_neg, if_true, if_false, true_and, and_true, true_or, or_true, false_or, or_false, not_true, not_false_iff, zb_z, zb_o, zb_ft, tn_0, tn_1, tn_2, tn_3, tn_c, Int.reduceToNat, te_0, te_1, tk_0, tk_1, tk_m, ts_1, or_0, bp_f, zi_t]); first | with_reducible refine xb_I.trans ?_ | with_reducible refine xb_V.trans ?_ | with_reducible refine xb_J.trans ?_ | with_reducible refine xb_s.trans ?_))
      have inner : G_X3_weigh_42 S (G_X3_weigh_29 S q) 10000 13 50 (30 + s) (opV w e (pN w)) (zi lo) (zi ((lo : Int) + 1 + ((0 : Nat) : Int))) (gM m (clS w e (gI t s) p lo)) = G_X3_weigh_29 S q 13 50 (30 + s) (opV w e (pN w)) (zi ((lo : Int) + 1)) (gM m (clS w e (gI t s) p (lo + 1))) := by
        refine lp_all (fun q2 h => G_X3_weigh_42 S (G_X3_weigh_29 S q) q2 13 50 (30 + s) (opV w e (pN w)) (zi lo) (zi ((lo : Int) + 1 + (h : Int))) (gM m (fo (fun h x => clF w e (gI t s) p lo (lo + 1 + h) x) (clS w e (gI t s) p lo) h))) (20 - lo) 10000 (fun h q2 hh => ?_) (fun q2 => ?_) (by omega)
        · have b1 := cl_o (w := w) (e := e) (g := gI t s) (n := p) lo
          have b2 := cl_i (w := w) (e := e) (g := gI t s) (n := p) (lo := lo) (s := clS w e (gI t s) p lo) h
          rw [fo_s]
          generalize fo (fun h x => clF w e (gI t s) p lo (lo + 1 + h) x) (clS w e (gI t s) p lo) h = st at *
          have f0 := (RF_gM hf st).1
          have hbe := C_between (S := S) (m := gM m st) (s := w 0) (a := (lo : Int)) (b := ((lo + 1 + h : Nat) : Int)) (by omega) (by omega) (by omega)
          have hx : ∀ p, p < 21 → bt (beV (w 0) lo ((lo + 1 + h : Nat) : Int) &&& opV w e (pN w)) p = isq w e lo ((lo + 1 + h : Nat) : Int) (p : Nat) := fun p hp => by
            rw [bt_and, be_bt (by omega) (by omega) (by omega) hp, hopb p hp]; rfl
          have hfi := C_fits (m := gM m st) (w := w) hT (CS_gM hC st) (s := s) (p := p) hs hp hz hk (x := beV (w 0) lo ((lo + 1 + h : Nat) : Int) &&& opV w e (pN w)) (e := e) (lo := lo) (hi := ((lo + 1 + h : Nat) : Int)) hx
          have had := C_addPair (m := m) hB (lo := lo) (hi := lo + 1 + h) (by omega) (by omega) hx st (by omega)
          have ecast : ((lo + 1 + h : Nat) : Int) = (lo : Int) + 1 + (h : Int) := by omega
          rw [show (lo : Int) + 1 + ((h + 1 : Nat) : Int) = (lo : Int) + 1 + (h : Int) + 1 by omega]
          unfold clF
          simp only [G_X3_weigh_42]
          rw [ecast] at hbe hfi had ⊢
          cases haw : awP w e (gI t s) lo ((lo : Int) + 1 + (h : Int)) p
          · rw [haw, zb_f] at hfi
            rw [ff_if]
            repeat (first | (with_reducible refine (if_pos ?_).trans ?_; focus (simp (disch := omega) only [zi_f, zi_0, zi_1, zi_31, zi_all, zi_8, zi_16, zi_add, zi_sub, zi_mul, zi_neg, zi_lt, zi_le, zi_eq, zi_div, zi_t, zi_n, xb_I, xb_J, xb_V, xb_s, if_pos, if_neg, if_true, if_false, true_and, and_true, true_or, or_true, false_or, or_false, not_true, not_false_iff, zb_z, zb_o, zb_ft, tn_0, tn_1, tn_2, tn_3, tn_c, Int.reduceToNat, te_0, te_1, tk_0, tk_1, tk_m, ts_1, or_0, bp_f, sR_s0 hsR, f0, hbe, hfi] <;> omega)) | (with_reducible refine (if_neg ?_).trans ?_; focus (simp (disch := omega) only [zi_f, zi_0, zi_1, zi_31, zi_all, zi_8, zi_16, zi_add, zi_sub, zi_mul, zi_neg, zi_lt, zi_le, zi_eq, zi_div, zi_t, zi_n, xb_I, xb_J, xb_V, xb_s, if_pos, if_neg, if_true, if_false, true_and, and_true, true_or, or_true, false_or, or_false, not_true, not_false_iff, zb_z, zb_o, zb_ft, tn_0, tn_1, tn_2, tn_3, tn_c, Int.reduceToNat, te_0, te_1, tk_0, tk_1, tk_m, ts_1, or_0, bp_f, sR_s0 hsR, f0, hbe, hfi] <;> omega)) | ((conv => lhs; arg 1; simp (disch := omega) only [zi_f, zi_0, zi_1, zi_31, zi_all, zi_8, zi_16, zi_add, zi_sub, zi_mul, zi_neg, zi_lt, zi_le, zi_eq, zi_div, zi_t, zi_n, xb_I, xb_J, xb_V, xb_s, if_pos, if_neg, if_true, if_false, true_and, and_true, true_or, or_true, false_or, or_false, not_true, not_false_iff, zb_z, zb_o, zb_ft, tn_0, tn_1, tn_2, tn_3, tn_c, Int.reduceToNat, te_0, te_1, tk_0, tk_1, tk_m, ts_1, or_0, bp_f, sR_s0 hsR, f0, hbe, hfi]); first | with_reducible refine xb_I.trans ?_ | with_reducible refine xb_V.trans ?_ | with_reducible refine xb_J.trans ?_ | with_reducible refine xb_s.trans ?_))
            first | (simp (disch := omega) only [zi_f, zi_0, zi_1, zi_31, zi_all, zi_8, zi_16, zi_add, zi_sub, zi_mul, zi_neg, zi_lt, zi_le, zi_eq, zi_div, zi_t, zi_n, xb_I, xb_J, xb_V, xb_s, if_pos, if_neg, if_true, if_false, true_and, and_true, true_or, or_true, false_or, or_false, not_true, not_false_iff, zb_z, zb_o, zb_ft, tn_0, tn_1, tn_2, tn_3, tn_c, Int.reduceToNat, te_0, te_1, tk_0, tk_1, tk_m, ts_1, or_0, bp_f, vI, sR_s0 hsR, f0, hbe, hfi]; done) | rfl | (simp (disch := omega) only [zi_f, zi_0, zi_1, zi_31, zi_all, zi_8, zi_16, zi_add, zi_sub, zi_mul, zi_neg, zi_lt, zi_le, zi_eq, zi_div, zi_t, zi_n, xb_I, xb_J, xb_V, xb_s, if_pos, if_neg, if_true, if_false, true_and, and_true, true_or, or_true, false_or, or_false, not_true, not_false_iff, zb_z, zb_o, zb_ft, tn_0, tn_1, tn_2, tn_3, tn_c, Int.reduceToNat, te_0, te_1, tk_0, tk_1, tk_m, ts_1, or_0, bp_f, vI, sR_s0 hsR, f0, hbe, hfi]; rfl)
          · rw [haw, zb_t] at hfi
            rw [tt_if]
            repeat (first | (with_reducible refine (if_pos ?_).trans ?_; focus (simp (disch := omega) only [zi_f, zi_0, zi_1, zi_31, zi_all, zi_8, zi_16, zi_add, zi_sub, zi_mul, zi_neg, zi_lt, zi_le, zi_eq, zi_div, zi_t, zi_n, xb_I, xb_J, xb_V, xb_s, if_pos, if_neg, if_true, if_false, true_and, and_true, true_or, or_true, false_or, or_false, not_true, not_false_iff, zb_z, zb_o, zb_ft, tn_0, tn_1, tn_2, tn_3, tn_c, Int.reduceToNat, te_0, te_1, tk_0, tk_1, tk_m, ts_1, or_0, bp_f, sR_s0 hsR, f0, hbe, hfi, sB_g1 hB, had] <;> omega)) | (with_reducible refine (if_neg ?_).trans ?_; focus (simp (disch := omega) only [zi_f, zi_0, zi_1, zi_31, zi_all, zi_8, zi_16, zi_add, zi_sub, zi_mul, zi_neg, zi_lt, zi_le, zi_eq, zi_div, zi_t, zi_n, xb_I, xb_J, xb_V, xb_s, if_pos, if_neg, if_true, if_false, true_and, and_true, true_or, or_true, false_or, or_false, not_true, not_false_iff, zb_z, zb_o, zb_ft, tn_0, tn_1, tn_2, tn_3, tn_c, Int.reduceToNat, te_0, te_1, tk_0, tk_1, tk_m, ts_1, or_0, bp_f, sR_s0 hsR, f0, hbe, hfi, sB_g1 hB, had] <;> omega)) | ((conv => lhs; arg 1; simp (disch := omega) only [zi_f, zi_0, zi_1, zi_31, zi_all, zi_8, zi_16, zi_add, zi_sub, zi_mul, zi_neg, zi_lt, zi_le, zi_eq, zi_div, zi_t, zi_n, xb_I, xb_J, xb_V, xb_s, if_pos, if_neg, if_true, if_false, true_and, and_true, true_or, or_true, false_or, or_false, not_true, not_false_iff, zb_z, zb_o, zb_ft, tn_0, tn_1, tn_2, tn_3, tn_c, Int.reduceToNat, te_0, te_1, tk_0, tk_1, tk_m, ts_1, or_0, bp_f, sR_s0 hsR, f0, hbe, hfi, sB_g1 hB, had]); first | with_reducible refine xb_I.trans ?_ | with_reducible refine xb_V.trans ?_ | with_reducible refine xb_J.trans ?_ | with_reducible refine xb_s.trans ?_))
            first | (simp (disch := omega) only [zi_f, zi_0, zi_1, zi_31, zi_all, zi_8, zi_16, zi_add, zi_sub, zi_mul, zi_neg, zi_lt, zi_le, zi_eq, zi_div, zi_t, zi_n, xb_I, xb_J, xb_V, xb_s, if_pos, if_neg, if_true, if_false, true_and, and_true, true_or, or_true, false_or, or_false, not_true, not_false_iff, zb_z, zb_o, zb_ft, tn_0, tn_1, tn_2, tn_3, tn_c, Int.reduceToNat, te_0, te_1, tk_0, tk_1, tk_m, ts_1, or_0, bp_f, vI, sR_s0 hsR, f0, hbe, hfi, sB_g1 hB, had]; done) | rfl | (simp (disch := omega) only [zi_f, zi_0, zi_1, zi_31, zi_all, zi_8, zi_16, zi_add, zi_sub, zi_mul, zi_neg, zi_lt, zi_le, zi_eq, zi_div, zi_t, zi_n, xb_I, xb_J, xb_V, xb_s, if_pos, if_neg, if_true, if_false, true_and, and_true, true_or, or_true, false_or, or_false, not_true, not_false_iff, zb_z, zb_o, zb_ft, tn_0, tn_1, tn_2, tn_3, tn_c, Int.reduceToNat, te_0, te_1, tk_0, tk_1, tk_m, ts_1, or_0, bp_f, vI, sR_s0 hsR, f0, hbe, hfi, sB_g1 hB, had]; rfl)
        · simp only [G_X3_weigh_42]
          repeat (first | (with_reducible refine (if_pos ?_).trans ?_; focus (simp (disch := omega) only [zi_f, zi_0, zi_1, zi_31, zi_all, zi_8, zi_16, zi_add, zi_sub, zi_mul, zi_neg, zi_lt, zi_le, zi_eq, zi_div, zi_t, zi_n, xb_I, xb_J, xb_V, xb_s, if_pos, if_neg, if_true, if_false, true_and, and_true, true_or, or_true, false_or, or_false, not_true, not_false_iff, zb_z, zb_o, zb_ft, tn_0, tn_1, tn_2, tn_3, tn_c, Int.reduceToNat, te_0, te_1, tk_0, tk_1, tk_m, ts_1, or_0, bp_f, zi_t] <;> omega)) | (with_reducible refine (if_neg ?_).trans ?_; focus (simp (disch := omega) only [zi_f, zi_0, zi_1, zi_31, zi_all, zi_8, zi_16, zi_add, zi_sub, zi_mul, zi_neg, zi_lt, zi_le, zi_eq, zi_div, zi_t, zi_n, xb_I, xb_J, xb_V, xb_s, if_pos, if_neg, if_true, if_false, true_and, and_true, true_or, or_true, false_or, or_false, not_true, not_false_iff, zb_z, zb_o, zb_ft, tn_0, tn_1, tn_2, tn_3, tn_c, Int.reduceToNat, te_0, te_1, tk_0, tk_1, tk_m, ts_1, or_0, bp_f, zi_t] <;> omega)) | ((conv => lhs; arg 1; simp (disch := omega) only [zi_f, zi_0, zi_1, zi_31, zi_all, zi_8, zi_16, zi_add, zi_sub, zi_mul, zi_neg, zi_lt, zi_le, zi_eq, zi_div, zi_t, zi_n, xb_I, xb_J, xb_V, xb_s, if_pos, if_neg, if_true, if_false, true_and, and_true, true_or, or_true, false_or, or_false, not_true, not_false_iff, zb_z, zb_o, zb_ft, tn_0, tn_1, tn_2, tn_3, tn_c, Int.reduceToNat, te_0, te_1, tk_0, tk_1, tk_m, ts_1, or_0, bp_f, zi_t]); first | with_reducible refine xb_I.trans ?_ | with_reducible refine xb_V.trans ?_ | with_reducible refine xb_J.trans ?_ | with_reducible refine xb_s.trans ?_))
          first | (simp (disch := omega) only [zi_f, zi_0, zi_1, zi_31, zi_all, zi_8, zi_16, zi_add, zi_sub, zi_mul, zi_neg, zi_lt, zi_le, zi_eq, zi_div, zi_t, zi_n, xb_I, xb_J, xb_V, xb_s, if_pos, if_neg, if_true, if_false, true_and, and_true, true_or, or_true, false_or, or_false, not_true, not_false_iff, zb_z, zb_o, zb_ft, tn_0, tn_1, tn_2, tn_3, tn_c, Int.reduceToNat, te_0, te_1, tk_0, tk_1, tk_m, ts_1, or_0, bp_f, vI, zi_t]; done) | rfl | (simp (disch := omega) only [zi_f, zi_0, zi_1, zi_31, zi_all, zi_8, zi_16, zi_add, zi_sub, zi_mul, zi_neg, zi_lt, zi_le, zi_eq, zi_div, zi_t, zi_n, xb_I, xb_J, xb_V, xb_s, if_pos, if_neg, if_true, if_false, true_and, and_true, true_or, or_true, false_or, or_false, not_true, not_false_iff, zb_z, zb_o, zb_ft, tn_0, tn_1, tn_2, tn_3, tn_c, Int.reduceToNat, te_0, te_1, tk_0, tk_1, tk_m, ts_1, or_0, bp_f, vI, zi_t]; rfl)
      rw [show (lo : Int) + 1 + ((0 : Nat) : Int) = (lo : Int) + 1 by omega] at inner
      rw [zi_f, zi_add, ts_1]
      exact inner
    · simp only [G_X3_weigh_29]
      repeat (first | (with_reducible refine (if_pos ?_).trans ?_; focus (simp (disch := omega) only [zi_f, zi_0, zi_1, zi_31, zi_all, zi_8, zi_16, zi_add, zi_sub, zi_mul, zi_neg, zi_lt, zi_le, zi_eq, zi_div, zi_t, zi_n, xb_I, xb_J, xb_V, xb_s, if_pos, if_neg, if_true, if_false, true_and, and_true, true_or, or_true, false_or, or_false, not_true, not_false_iff, zb_z, zb_o, zb_ft, tn_0, tn_1, tn_2, tn_3, tn_c, Int.reduceToNat, te_0, te_1, tk_0, tk_1, tk_m, ts_1, or_0, bp_f, zi_t] <;> omega)) | (with_reducible refine (if_neg ?_).trans ?_; focus (simp (disch := omega) only [zi_f, zi_0, zi_1, zi_31, zi_all, zi_8, zi_16, zi_add, zi_sub, zi_mul, zi_neg, zi_lt, zi_le, zi_eq, zi_div, zi_t, zi_n, xb_I, xb_J, xb_V, xb_s, if_pos, if_neg, if_true, if_false, true_and, and_true, true_or, or_true, false_or, or_false, not_true, not_false_iff, zb_z, zb_o, zb_ft, tn_0, tn_1, tn_2, tn_3, tn_c, Int.reduceToNat, te_0, te_1, tk_0, tk_1, tk_m, ts_1, or_0, bp_f, zi_t] <;> omega)) | ((conv => lhs; arg 1; simp (disch := omega) only [zi_f, zi_0, zi_1, zi_31, zi_all, zi_8, zi_16, zi_add, zi_sub, zi_mul, zi_neg, zi_lt, zi_le, zi_eq, zi_div, zi_t, zi_n, xb_I, xb_J, xb_V, xb_s, if_pos, if_neg, if_true, if_false, true_and, and_true, true_or, or_true, false_or, or_false, not_true, not_false_iff, zb_z, zb_o, zb_ft, tn_0, tn_1, tn_2, tn_3, tn_c, Int.reduceToNat, te_0, te_1, tk_0, tk_1, tk_m, ts_1, or_0, bp_f, zi_t]); first | with_reducible refine xb_I.trans ?_ | with_reducible refine xb_V.trans ?_ | with_reducible refine xb_J.trans ?_ | with_reducible refine xb_s.trans ?_))
      first | (simp (disch := omega) only [zi_f, zi_0, zi_1, zi_31, zi_all, zi_8, zi_16, zi_add, zi_sub, zi_mul, zi_neg, zi_lt, zi_le, zi_eq, zi_div, zi_t, zi_n, xb_I, xb_J, xb_V, xb_s, if_pos, if_neg, if_true, if_false, true_and, and_true, true_or, or_true, false_or, or_false, not_true, not_false_iff, zb_z, zb_o, zb_ft, tn_0, tn_1, tn_2, tn_3, tn_c, Int.reduceToNat, te_0, te_1, tk_0, tk_1, tk_m, ts_1, or_0, bp_f, vI, zi_t]; done) | rfl | (simp (disch := omega) only [zi_f, zi_0, zi_1, zi_31, zi_all, zi_8, zi_16, zi_add, zi_sub, zi_mul, zi_neg, zi_lt, zi_le, zi_eq, zi_div, zi_t, zi_n, xb_I, xb_J, xb_V, xb_s, if_pos, if_neg, if_true, if_false, true_and, and_true, true_or, or_true, false_or, or_false, not_true, not_false_iff, zb_z, zb_o, zb_ft, tn_0, tn_1, tn_2, tn_3, tn_c, Int.reduceToNat, te_0, te_1, tk_0, tk_1, tk_m, ts_1, or_0, bp_f, vI, zi_t]; rfl)
  unfold E_X3_weigh
  repeat (first | (with_reducible refine (if_pos ?_).trans ?_; focus (simp (disch := omega) only [zi_f, zi_0, zi_1, zi_31, zi_all, zi_8, zi_16, zi_add, zi_sub, zi_mul, zi_neg, zi_lt, zi_le, zi_eq, zi_div, zi_t, zi_n, xb_I, xb_J, xb_V, xb_s, if_pos, if_neg, if_true, if_false, true_and, and_true, true_or, or_true, false_or, or_false, not_true, not_false_iff, zb_z, zb_o, zb_ft, tn_0, tn_1, tn_2, tn_3, tn_c, Int.reduceToNat, te_0, te_1, tk_0, tk_1, tk_m, ts_1, or_0, bp_f, sB_g1 hB, sB_g2 hB, sB_g3 hB, sB_g4 hB, hfill, hstart, sR_s0 hsR, hop] <;> omega)) | (with_reducible refine (if_neg ?_).trans ?_; focus (simp (disch := omega) only [zi_f, zi_0, zi_1, zi_31, zi_all, zi_8, zi_16, zi_add, zi_sub, zi_mul, zi_neg, zi_lt, zi_le, zi_eq, zi_div, zi_t, zi_n, xb_I, xb_J, xb_V, xb_s, if_pos, if_neg, if_true, if_false, true_and, and_true, true_or, or_true, false_or, or_false, not_true, not_false_iff, zb_z, zb_o, zb_ft, tn_0, tn_1, tn_2, tn_3, tn_c, Int.reduceToNat, te_0, te_1, tk_0, tk_1, tk_m, ts_1, or_0, bp_f, sB_g1 hB, sB_g2 hB, sB_g3 hB, sB_g4 hB, hfill, hstart, sR_s0 hsR, hop] <;> omega)) | ((conv => lhs; arg 1; simp (disch := omega) only [zi_f, zi_0, zi_1, zi_31, zi_all, zi_8, zi_16, zi_add, zi_sub, zi_mul, zi_neg, zi_lt, zi_le, zi_eq, zi_div, zi_t, zi_n, xb_I, xb_J, xb_V, xb_s, if_pos, if_neg, if_true, if_false, true_and, and_true, true_or, or_true, false_or, or_false, not_true, not_false_iff, zb_z, zb_o, zb_ft, tn_0, tn_1, tn_2, tn_3, tn_c, Int.reduceToNat, te_0, te_1, tk_0, tk_1, tk_m, ts_1, or_0, bp_f, sB_g1 hB, sB_g2 hB, sB_g3 hB, sB_g4 hB, hfill, hstart, sR_s0 hsR, hop]); first | with_reducible refine xb_I.trans ?_ | with_reducible refine xb_V.trans ?_ | with_reducible refine xb_J.trans ?_ | with_reducible refine xb_s.trans ?_))
  exact key
end
