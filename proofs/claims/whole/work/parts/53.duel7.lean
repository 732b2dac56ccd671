/-! the duel: the reference's paths -/
def nvP (x : Nat) : Nat → Nat := fo (fun _ y => y / 9) x
theorem nv_s (x n : Nat) : nvP x (n + 1) = nvP x n / 9 := rfl
theorem nv_f (x n : Nat) : nvP x (n + 1) = nvP (x / 9) n := fo_f (fun y => y / 9) x n
theorem nv_le (x n : Nat) : nvP x n ≤ x := by
  induction n with
  | zero => exact Nat.le_refl _
  | succ n ih => rw [nv_s]; omega
def pcC (c : Nat → Int) : Nat → Nat → Nat → Int
  | 0, _ => c
  | L + 1, i => stC (pcC c L (i / 9)) (i % 9)
def pkC (c : Nat → Int) : Nat → Nat → Bool
  | 0, _ => true
  | L + 1, i => pkC c L (i / 9) && okC (pcC c L (i / 9)) (i % 9)
def vlP (F : (Nat → Int) → Int) (c : Nat → Int) (T L i : Nat) : Int := if pkC c L i then mmP F (T - L) L (pcC c L i) else -9
theorem pk_up (c : Nat → Int) (s d : Nat) : ∀ i, pkC c (s + d) i = true → pkC c s (nvP i d) = true := by
  induction d with
  | zero => exact fun i h => h
  | succ d ih =>
    intro i h
    rw [nv_f]
    refine ih (i / 9) ?_
    have h2 : (pkC c (s + d) (i / 9) && okC (pcC c (s + d) (i / 9)) (i % 9)) = true := h
    rw [Bool.and_eq_true] at h2
    exact h2.1
theorem Oc_pc {c : Nat → Int} (h : Oc c) : ∀ L i, pkC c L i = true → Oc (pcC c L i) := by
  intro L
  induction L with
  | zero => exact fun i _ => h
  | succ L ih =>
    intro i hk
    have h2 : (pkC c L (i / 9) && okC (pcC c L (i / 9)) (i % 9)) = true := hk
    rw [Bool.and_eq_true] at h2
    exact Oc_st (by omega) (ih (i / 9) h2.1) h2.2
def tfF (tab : Nat → Int) (L i j : Nat) (x : Int) : Int := if tab (9 * i + (j + 1)) = -9 then x else if L % 2 = 0 then (if tab (9 * i + (j + 1)) ≤ x then x else tab (9 * i + (j + 1))) else (if x ≤ tab (9 * i + (j + 1)) then x else tab (9 * i + (j + 1)))
theorem vl_b {F : (Nat → Int) → Int} (hF : ∀ c, -6 ≤ F c ∧ F c ≤ 6) (c : Nat → Int) (T L i : Nat) : -9 ≤ vlP F c T L i ∧ vlP F c T L i ≤ 6 := by
  have := mm_b hF (T - L) L (pcC c L i)
  unfold vlP
  split <;> omega
theorem vl_fold {F : (Nat → Int) → Int} (hF : ∀ c, -6 ≤ F c ∧ F c ≤ 6) (c : Nat → Int) {T L : Nat} (hL : L < T) (i : Nat) : fo (tfF (vlP F c T (L + 1)) L i) (vlP F c T (L + 1) (9 * i)) 8 = vlP F c T L i := by
  have ek : ∀ j, j < 9 → pkC c (L + 1) (9 * i + j) = (pkC c L i && okC (pcC c L i) j) := fun j hj => by
    rw [show pkC c (L + 1) (9 * i + j) = (pkC c L ((9 * i + j) / 9) && okC (pcC c L ((9 * i + j) / 9)) ((9 * i + j) % 9)) from rfl, show (9 * i + j) / 9 = i by omega, show (9 * i + j) % 9 = j by omega]
  have ec : ∀ j, j < 9 → pcC c (L + 1) (9 * i + j) = stC (pcC c L i) j := fun j hj => by
    rw [show pcC c (L + 1) (9 * i + j) = stC (pcC c L ((9 * i + j) / 9)) ((9 * i + j) % 9) from rfl, show (9 * i + j) / 9 = i by omega, show (9 * i + j) % 9 = j by omega]
  by_cases h : pkC c L i = true
  · have e : T - L = (T - (L + 1)) + 1 := by omega
    have ev : ∀ j, j < 9 → vlP F c T (L + 1) (9 * i + j) = if okC (pcC c L i) j then mmP F (T - (L + 1)) (L + 1) (stC (pcC c L i) j) else -9 := fun j hj => by
      unfold vlP
      rw [ek j hj, ec j hj, h, Bool.true_and]
    have e0 : vlP F c T (L + 1) (9 * i) = mmP F (T - (L + 1)) (L + 1) (stC (pcC c L i) 0) := by
      have := ev 0 (by omega)
      rw [show okC (pcC c L i) 0 = true from rfl, tt_if] at this
      exact this
    have hr : vlP F c T L i = mmP F (T - L) L (pcC c L i) := by unfold vlP; rw [h, tt_if]
    rw [hr, e, mmP, e0]
    refine fo_cong fun k x hk => ?_
    have hm := mm_b hF (T - (L + 1)) (L + 1) (stC (pcC c L i) (k + 1))
    unfold tfF mmF
    dsimp only
    rw [ev (k + 1) (by omega)]
    generalize mmP F (T - (L + 1)) (L + 1) (stC (pcC c L i) (k + 1)) = y at *
    cases okC (pcC c L i) (k + 1) with
    | false => rw [ff_if, if_pos rfl, ff_if]
    | true =>
      rw [tt_if, if_neg (by omega), tt_if]
      unfold tbP
      by_cases hl : L % 2 = 0
      · rw [if_pos hl, decide_eq_true hl, tt_if]
        split <;> omega
      · rw [if_neg hl, decide_eq_false hl, ff_if]
        split <;> omega
  · have h' : pkC c L i = false := by cases q : pkC c L i; rfl; exact absurd q h
    have ev : ∀ j, j < 9 → vlP F c T (L + 1) (9 * i + j) = -9 := fun j hj => by
      unfold vlP
      rw [ek j hj, h', Bool.false_and, ff_if]
    have hr : vlP F c T L i = -9 := by unfold vlP; rw [h', ff_if]
    have e0 : vlP F c T (L + 1) (9 * i) = -9 := ev 0 (by omega)
    rw [hr, e0]
    have e2 : fo (tfF (vlP F c T (L + 1)) L i) (-9) 8 = fo (fun _ x => x) (-9) 8 := fo_cong fun k x hk => by
      unfold tfF
      rw [ev (k + 1) (by omega), if_pos rfl]
    rw [e2]
    exact fo_ind (P := fun _ x => x = -9) rfl (fun _ _ h => h) 8
theorem Bd_oc {w c : Nat → Int} (hb : Bd w) (hc : Oc c) : Bd (setC w c) := by
  obtain ⟨q0, q1, q2, q3, q4⟩ := hb
  refine ⟨?_, ?_, ?_, fun k hk => ?_, fun i hi => ?_⟩
  · rw [sc_o (by omega)]; exact q0
  · rw [sc_o (by omega)]; exact q1
  · rw [sc_o (by omega)]; exact q2
  · rw [sc_c hk]
    obtain ⟨c0, c1⟩ := hc
    have h4 : k = 0 ∨ k = 1 ∨ k = 2 ∨ k = 3 := by omega
    rcases h4 with e | e | e | e <;> subst e <;> omega
  · rw [sc_o (by omega), sc_o (by omega), sc_o (by omega), sc_o (by omega)]; exact q4 i hi
theorem mv_sc (w c : Nat → Int) {k : Nat} (hk : k < 4) (n : Int) : mvP (coP (setC w c)) k n = mvP c k n := by
  have h : ∀ j, j < 4 → coP (setC w c) j = c j := fun j hj => sc_c hj
  unfold mvP
  by_cases e : k % 2 = 0
  · rw [if_pos e, if_pos e, h k hk, h (k + 1) (by omega)]
  · rw [if_neg e, if_neg e, h k hk, h (k - 1) (by omega)]
section
variable {S : xi_S} {m : xi_M} {w c : Nat → Int}
theorem M_cm30 (k17 : Nat → Int32 → Int32 → Int32 → xi_M → Option xi_R) (v1 v2 : Int32) {s : Nat} (hs : s ≤ 4) : ∀ (d F x : Nat), d ≤ 4 → x ≤ 10000 → G_X9_comes_30 S k17 (F + d) 15 v1 v2 (zi (s : Nat)) (zi (x : Nat)) (zi ((s : Int) + (d : Int))) m = G_X9_comes_30 S k17 F 15 v1 v2 (zi (s : Nat)) (zi ((nvP x d : Nat) : Int)) (zi (s : Nat)) m := by
  intro d
  induction d with
  | zero => intro F x _ _; rw [show (s : Int) + ((0 : Nat) : Int) = s by omega]; rfl
  | succ d ih =>
    intro F x hd hx
    rw [nv_f, ← ih F (x / 9) (by omega) (by omega), show F + (d + 1) = (F + d) + 1 by omega, show ((x / 9 : Nat) : Int) = (x : Int) / 9 by omega, show (s : Int) + (d : Int) = (s : Int) + ((d + 1 : Nat) : Int) + -1 by omega]
    generalize F + d = N
    simp only [G_X9_comes_30]
    repeat (first | (with_reducible refine (if_pos ?_).trans ?_; focus (simp (disch := omega) only [zi_f, zi_0, zi_1, zi_31, zi_all, zi_8, zi_16, zi_add, zi_sub, zi_mul, zi_neg, zi_lt, zi_le, zi_eq, zi_div, zi_t, zi_n, xb_I, xb_J, xb_V, xb_s, if_pos, if_neg, if_true, if_false, true_and, and_true, true_or, or_true, false_or, or_false, not_true, not_false_iff, zb_z, zb_o, zb_ft, tn_0, tn_1, tn_2, tn_3, tn_c, Int.reduceToNat, te_0, te_1, tk_0, tk_1, tk_m, ts_1, or_0, bp_f, zi_t] <;> omega)) | (with_reducible refine (if_neg ?_).trans ?_; focus (simp (disch := omega) only [zi_f, zi_0, zi_1, zi_31, zi_all, zi_8, zi_16, zi_add, zi_sub, zi_mul, zi_neg, zi_lt, zi_le, zi_eq, zi_div, zi_t, zi_n, xb_I, xb_J, xb_V, xb_s, if_pos, if_neg, if_true, if_false, true_and, and_true, true_or, or_true, false_or, or_false, not_true, not_false_iff, zb_z, zb_o, zb_ft, tn_0, tn_1, tn_2, tn_3, tn_c, Int.reduceToNat, te_0, te_1, tk_0, tk_1, tk_m, ts_1, or_0, bp_f, zi_t] <;> omega)) | ((conv => lhs; arg 1; simp (disch := omega) only [zi_f, zi_0, zi_1, zi_31, zi_all, zi_8, zi_16, zi_add, zi_sub, zi_mul, zi_neg, zi_lt, zi_le, zi_eq, zi_div, zi_t, zi_n, xb_I, xb_J, xb_V, xb_s, if_pos, if_neg, if_true, if_false, true_and, and_true, true_or, or_true, false_or, or_false, not_true, not_false_iff, zb_z, zb_o, zb_ft, tn_0, tn_1, tn_2, tn_3, tn_c, Int.reduceToNat, te_0, te_1, tk_0, tk_1, tk_m, ts_1, or_0, bp_f, zi_t]); first | with_reducible refine xb_I.trans ?_ | with_reducible refine xb_V.trans ?_ | with_reducible refine xb_J.trans ?_ | with_reducible refine xb_s.trans ?_))
    first | (simp (disch := omega) only [zi_f, zi_0, zi_1, zi_31, zi_all, zi_8, zi_16, zi_add, zi_sub, zi_mul, zi_neg, zi_lt, zi_le, zi_eq, zi_div, zi_t, zi_n, xb_I, xb_J, xb_V, xb_s, if_pos, if_neg, if_true, if_false, true_and, and_true, true_or, or_true, false_or, or_false, not_true, not_false_iff, zb_z, zb_o, zb_ft, tn_0, tn_1, tn_2, tn_3, tn_c, Int.reduceToNat, te_0, te_1, tk_0, tk_1, tk_m, ts_1, or_0, bp_f, vI, zi_t]; done) | rfl | (simp (disch := omega) only [zi_f, zi_0, zi_1, zi_31, zi_all, zi_8, zi_16, zi_add, zi_sub, zi_mul, zi_neg, zi_lt, zi_le, zi_eq, zi_div, zi_t, zi_n, xb_I, xb_J, xb_V, xb_s, if_pos, if_neg, if_true, if_false, true_and, and_true, true_or, or_true, false_or, or_false, not_true, not_false_iff, zb_z, zb_o, zb_ft, tn_0, tn_1, tn_2, tn_3, tn_c, Int.reduceToNat, te_0, te_1, tk_0, tk_1, tk_m, ts_1, or_0, bp_f, vI, zi_t]; rfl)

def stM (m : xi_M) (c : Nat → Int) (q : Nat) : xi_M := if q = 0 then m else xi_wI m 23 (6 + dkP q) (zi (c (dkP q) + dnP q))
theorem st_o {q b : Nat} (h : b ≠ 23) : (stM m c q).1 b = m.1 b := by
  unfold stM
  split
  · rfl
  · exact wI_o h
theorem st_l {q : Nat} : (stM m c q).2 = m.2 := by
  unfold stM
  split <;> rfl
theorem st_row (hr : Row S m 23 (setC w c)) {q : Nat} (hq : q < 9) : Row S (stM m c q) 23 (setC w (stC c q)) := by
  refine ⟨hr.1, hr.2.1, fun k hk => ?_⟩
  have h := hr.2.2 k hk
  by_cases e : q = 0
  · subst e
    rw [st_0, show stM m c 0 = m from rfl]
    exact h
  · unfold stM
    rw [if_neg e, mw_if]
    have hd : dkP q < 4 := by unfold dkP; omega
    by_cases e2 : k = 6 + dkP q
    · rw [if_pos ⟨rfl, e2⟩, e2, sc_c hd]
      unfold stC
      rw [if_pos rfl]
    · rw [if_neg (fun z => e2 z.2), h]
      unfold setC stC
      by_cases e3 : 6 ≤ k ∧ k < 10
      · rw [if_pos e3, if_pos e3, if_neg (by omega)]
      · rw [if_neg e3, if_neg e3]
set_option maxHeartbeats 4000000 in
theorem M_cmS (hX : ShX S) (hb : Bd w) (hc : Oc c) (hr : Row S m 23 (setC w c)) (k17 : Nat → Int32 → Int32 → Int32 → xi_M → Option xi_R) (v1 v2 : Int32) {s : Nat} (hs : s ≤ 4) (F : Nat) {x : Nat} (hx : x ≤ 10000) : G_X9_comes_30 S k17 (F + 1) 15 v1 v2 (zi (s : Nat)) (zi (x : Nat)) (zi (s : Nat)) m = if okC c (x % 9) then k17 15 v1 v2 (zi ((s : Int) + 1)) (stM m c (x % 9)) else some (some (.int (zi (-9))), m) := by
  have hq : (x : Int) % 9 = ((x % 9 : Nat) : Int) := by omega
  have hq9 : x % 9 < 9 := by omega
  generalize x % 9 = q at *
  by_cases e : q = 0
  · subst e
    rw [show okC c 0 = true from rfl, tt_if, show stM m c 0 = m from rfl]
    have hq0 : (x : Int) % 9 = 0 := hq
    simp only [G_X9_comes_30]
    repeat (first | (with_reducible refine (if_pos ?_).trans ?_; focus (simp (disch := omega) only [zi_f, zi_0, zi_1, zi_31, zi_all, zi_8, zi_16, zi_add, zi_sub, zi_mul, zi_neg, zi_lt, zi_le, zi_eq, zi_div, zi_t, zi_n, xb_I, xb_J, xb_V, xb_s, if_pos, if_neg, if_true, if_false, true_and, and_true, true_or, or_true, false_or, or_false, not_true, not_false_iff, zb_z, zb_o, zb_ft, tn_0, tn_1, tn_2, tn_3, tn_c, Int.reduceToNat, te_0, te_1, tk_0, tk_1, tk_m, ts_1, or_0, bp_f, zi_t, ed_m, hq0] <;> omega)) | (with_reducible refine (if_neg ?_).trans ?_; focus (simp (disch := omega) only [zi_f, zi_0, zi_1, zi_31, zi_all, zi_8, zi_16, zi_add, zi_sub, zi_mul, zi_neg, zi_lt, zi_le, zi_eq, zi_div, zi_t, zi_n, xb_I, xb_J, xb_V, xb_s, if_pos, if_neg, if_true, if_false, true_and, and_true, true_or, or_true, false_or, or_false, not_true, not_false_iff, zb_z, zb_o, zb_ft, tn_0, tn_1, tn_2, tn_3, tn_c, Int.reduceToNat, te_0, te_1, tk_0, tk_1, tk_m, ts_1, or_0, bp_f, zi_t, ed_m, hq0] <;> omega)) | ((conv => lhs; arg 1; simp (disch := omega) only [zi_f, zi_0, zi_1, zi_31, zi_all, zi_8, zi_16, zi_add, zi_sub, zi_mul, zi_neg, zi_lt, zi_le, zi_eq, zi_div, zi_t, zi_n, xb_I, xb_J, xb_V, xb_s, if_pos, if_neg, if_true, if_false, true_and, and_true, true_or, or_true, false_or, or_false, not_true, not_false_iff, zb_z, zb_o, zb_ft, tn_0, tn_1, tn_2, tn_3, tn_c, Int.reduceToNat, te_0, te_1, tk_0, tk_1, tk_m, ts_1, or_0, bp_f, zi_t, ed_m, hq0]); first | with_reducible refine xb_I.trans ?_ | with_reducible refine xb_V.trans ?_ | with_reducible refine xb_J.trans ?_ | with_reducible refine xb_s.trans ?_))
    first | (simp (disch := omega) only [zi_f, zi_0, zi_1, zi_31, zi_all, zi_8, zi_16, zi_add, zi_sub, zi_mul, zi_neg, zi_lt, zi_le, zi_eq, zi_div, zi_t, zi_n, xb_I, xb_J, xb_V, xb_s, if_pos, if_neg, if_true, if_false, true_and, and_true, true_or, or_true, false_or, or_false, not_true, not_false_iff, zb_z, zb_o, zb_ft, tn_0, tn_1, tn_2, tn_3, tn_c, Int.reduceToNat, te_0, te_1, tk_0, tk_1, tk_m, ts_1, or_0, bp_f, vI, zi_t, ed_m, hq0]; done) | rfl | (simp (disch := omega) only [zi_f, zi_0, zi_1, zi_31, zi_all, zi_8, zi_16, zi_add, zi_sub, zi_mul, zi_neg, zi_lt, zi_le, zi_eq, zi_div, zi_t, zi_n, xb_I, xb_J, xb_V, xb_s, if_pos, if_neg, if_true, if_false, true_and, and_true, true_or, or_true, false_or, or_false, not_true, not_false_iff, zb_z, zb_o, zb_ft, tn_0, tn_1, tn_2, tn_3, tn_c, Int.reduceToNat, te_0, te_1, tk_0, tk_1, tk_m, ts_1, or_0, bp_f, vI, zi_t, ed_m, hq0]; rfl)
  · have hbc := Bd_oc hb hc
    have hd : dkP q < 4 := by unfold dkP; omega
    have hdk : ((q : Int) - 1) / 2 = (dkP q : Nat) := by unfold dkP; omega
    have hok : okC c q = mvP c (dkP q) (dnP q) := by unfold okC; rw [decide_eq_false e, Bool.false_or]
    have hmv : ∀ n : Int, -1000 ≤ n ∧ n ≤ 1000 → E_X9_mayMove S 23 (zi (dkP q : Nat)) (zi n) m = some (some (.int (zb (mvP c (dkP q) n))), m) := fun n hn => by
      have := M_mayMove hr hbc hd hn
      rw [mv_sc w c hd] at this
      exact this
    have hv : m.1 23 (6 + dkP q) = zi (c (dkP q)) := by rw [hr.2.2 (6 + dkP q) (by omega), sc_c hd]
    have hcv : 0 ≤ c (dkP q) ∧ c (dkP q) ≤ 20 := by
      obtain ⟨c0, c1⟩ := hc
      have h4 : dkP q = 0 ∨ dkP q = 1 ∨ dkP q = 2 ∨ dkP q = 3 := by omega
      rcases h4 with e | e | e | e <;> rw [e] <;> omega
    have hst : stM m c q = xi_wI m 23 (6 + dkP q) (zi (c (dkP q) + dnP q)) := if_neg e
    have et : ((6 : Int) + (dkP q : Nat)).toNat = 6 + dkP q := by omega
    rw [hok, hst]
    have hdn : dnP q = if q % 2 = 1 then -1 else 1 := if_neg e
    by_cases h2 : q % 2 = 1
    · rw [if_pos h2] at hdn
      rw [hdn]
      have hm := hmv (-1) (by omega)
      have hp : ((q : Int) - 1) % 2 = 0 := by omega
      clear hmv hst hok hdn hbc hc
      generalize dkP q = k at *
      cases hmm : mvP c k (-1) with
      | true =>
        rw [tt_if]
        rw [hmm] at hm
        simp only [G_X9_comes_30]
        repeat (first | (with_reducible refine (if_pos ?_).trans ?_; focus (simp (disch := omega) only [zi_f, zi_0, zi_1, zi_31, zi_all, zi_8, zi_16, zi_add, zi_sub, zi_mul, zi_neg, zi_lt, zi_le, zi_eq, zi_div, zi_t, zi_n, xb_I, xb_J, xb_V, xb_s, if_pos, if_neg, if_true, if_false, true_and, and_true, true_or, or_true, false_or, or_false, not_true, not_false_iff, zb_z, zb_o, zb_ft, tn_0, tn_1, tn_2, tn_3, tn_c, Int.reduceToNat, te_0, te_1, tk_0, tk_1, tk_m, ts_1, or_0, bp_f, sX_x0 hX, sX_xr7 hX, sX_xk7 hX, sX_xl7 hX, zi_t, ed_m, hq, hp, hdk, hm, hv, et] <;> omega)) | (with_reducible refine (if_neg ?_).trans ?_; focus (simp (disch := omega) only [zi_f, zi_0, zi_1, zi_31, zi_all, zi_8, zi_16, zi_add, zi_sub, zi_mul, zi_neg, zi_lt, zi_le, zi_eq, zi_div, zi_t, zi_n, xb_I, xb_J, xb_V, xb_s, if_pos, if_neg, if_true, if_false, true_and, and_true, true_or, or_true, false_or, or_false, not_true, not_false_iff, zb_z, zb_o, zb_ft, tn_0, tn_1, tn_2, tn_3, tn_c, Int.reduceToNat, te_0, te_1, tk_0, tk_1, tk_m, ts_1, or_0, bp_f, sX_x0 hX, sX_xr7 hX, sX_xk7 hX, sX_xl7 hX, zi_t, ed_m, hq, hp, hdk, hm, hv, et] <;> omega)) | ((conv => lhs; arg 1; simp (disch := omega) only [zi_f, zi_0, zi_1, zi_31, zi_all, zi_8, zi_16, zi_add, zi_sub, zi_mul, zi_neg, zi_lt, zi_le, zi_eq, zi_div, zi_t, zi_n, xb_I, xb_J, xb_V, xb_s, if_pos, if_neg, if_true, if_false, true_and, and_true, true_or, or_true, false_or, or_false, not_true, not_false_iff, zb_z, zb_o, zb_ft, tn_0, tn_1, tn_2, tn_3, tn_c, Int.reduceToNat, te_0, te_1, tk_0, tk_1, tk_m, ts_1, or_0, bp_f, sX_x0 hX, sX_xr7 hX, sX_xk7 hX, sX_xl7 hX, zi_t, ed_m, hq, hp, hdk, hm, hv, et]); first | with_reducible refine xb_I.trans ?_ | with_reducible refine xb_V.trans ?_ | with_reducible refine xb_J.trans ?_ | with_reducible refine xb_s.trans ?_))
        first | (simp (disch := omega) only [zi_f, zi_0, zi_1, zi_31, zi_all, zi_8, zi_16, zi_add, zi_sub, zi_mul, zi_neg, zi_lt, zi_le, zi_eq, zi_div, zi_t, zi_n, xb_I, xb_J, xb_V, xb_s, if_pos, if_neg, if_true, if_false, true_and, and_true, true_or, or_true, false_or, or_false, not_true, not_false_iff, zb_z, zb_o, zb_ft, tn_0, tn_1, tn_2, tn_3, tn_c, Int.reduceToNat, te_0, te_1, tk_0, tk_1, tk_m, ts_1, or_0, bp_f, vI, sX_x0 hX, sX_xr7 hX, sX_xk7 hX, sX_xl7 hX, zi_t, ed_m, hq, hp, hdk, hm, hv, et]; done) | rfl | (simp (disch := omega) only [zi_f, zi_0, zi_1, zi_31, zi_all, zi_8, zi_16, zi_add, zi_sub, zi_mul, zi_neg, zi_lt, zi_le, zi_eq, zi_div, zi_t, zi_n, xb_I, xb_J, xb_V, xb_s, if_pos, if_neg, if_true, if_false, true_and, and_true, true_or, or_true, false_or, or_false, not_true, not_false_iff, zb_z, zb_o, zb_ft, tn_0, tn_1, tn_2, tn_3, tn_c, Int.reduceToNat, te_0, te_1, tk_0, tk_1, tk_m, ts_1, or_0, bp_f, vI, sX_x0 hX, sX_xr7 hX, sX_xk7 hX, sX_xl7 hX, zi_t, ed_m, hq, hp, hdk, hm, hv, et]; rfl)
      | false =>
        rw [ff_if]
        rw [hmm] at hm
        simp only [G_X9_comes_30]
        repeat (first | (with_reducible refine (if_pos ?_).trans ?_; focus (simp (disch := omega) only [zi_f, zi_0, zi_1, zi_31, zi_all, zi_8, zi_16, zi_add, zi_sub, zi_mul, zi_neg, zi_lt, zi_le, zi_eq, zi_div, zi_t, zi_n, xb_I, xb_J, xb_V, xb_s, if_pos, if_neg, if_true, if_false, true_and, and_true, true_or, or_true, false_or, or_false, not_true, not_false_iff, zb_z, zb_o, zb_ft, tn_0, tn_1, tn_2, tn_3, tn_c, Int.reduceToNat, te_0, te_1, tk_0, tk_1, tk_m, ts_1, or_0, bp_f, sX_x0 hX, sX_xr7 hX, sX_xk7 hX, sX_xl7 hX, zi_t, ed_m, hq, hp, hdk, hm, hv, et] <;> omega)) | (with_reducible refine (if_neg ?_).trans ?_; focus (simp (disch := omega) only [zi_f, zi_0, zi_1, zi_31, zi_all, zi_8, zi_16, zi_add, zi_sub, zi_mul, zi_neg, zi_lt, zi_le, zi_eq, zi_div, zi_t, zi_n, xb_I, xb_J, xb_V, xb_s, if_pos, if_neg, if_true, if_false, true_and, and_true, true_or, or_true, false_or, or_false, not_true, not_false_iff, zb_z, zb_o, zb_ft, tn_0, tn_1, tn_2, tn_3, tn_c, Int.reduceToNat, te_0, te_1, tk_0, tk_1, tk_m, ts_1, or_0, bp_f, sX_x0 hX, sX_xr7 hX, sX_xk7 hX, sX_xl7 hX, zi_t, ed_m, hq, hp, hdk, hm, hv, et] <;> omega)) | ((conv => lhs; arg 1; simp (disch := omega) only [zi_f, zi_0, zi_1, zi_31, zi_all, zi_8, zi_16, zi_add, zi_sub, zi_mul, zi_neg, zi_lt, zi_le, zi_eq, zi_div, zi_t, zi_n, xb_I, xb_J, xb_V, xb_s, if_pos, if_neg, if_true, if_false, true_and, and_true, true_or, or_true, false_or, or_false, not_true, not_false_iff, zb_z, zb_o, zb_ft, tn_0, tn_1, tn_2, tn_3, tn_c, Int.reduceToNat, te_0, te_1, tk_0, tk_1, tk_m, ts_1, or_0, bp_f, sX_x0 hX, sX_xr7 hX, sX_xk7 hX, sX_xl7 hX, zi_t, ed_m, hq, hp, hdk, hm, hv, et]); first | with_reducible refine xb_I.trans ?_ | with_reducible refine xb_V.trans ?_ | with_reducible refine xb_J.trans ?_ | with_reducible refine xb_s.trans ?_))
        first | (simp (disch := omega) only [zi_f, zi_0, zi_1, zi_31, zi_all, zi_8, zi_16, zi_add, zi_sub, zi_mul, zi_neg, zi_lt, zi_le, zi_eq, zi_div, zi_t, zi_n, xb_I, xb_J, xb_V, xb_s, if_pos, if_neg, if_true, if_false, true_and, and_true, true_or, or_true, false_or, or_false, not_true, not_false_iff, zb_z, zb_o, zb_ft, tn_0, tn_1, tn_2, tn_3, tn_c, Int.reduceToNat, te_0, te_1, tk_0, tk_1, tk_m, ts_1, or_0, bp_f, vI, sX_x0 hX, sX_xr7 hX, sX_xk7 hX, sX_xl7 hX, zi_t, ed_m, hq, hp, hdk, hm, hv, et]; done) | rfl | (simp (disch := omega) only [zi_f, zi_0, zi_1, zi_31, zi_all, zi_8, zi_16, zi_add, zi_sub, zi_mul, zi_neg, zi_lt, zi_le, zi_eq, zi_div, zi_t, zi_n, xb_I, xb_J, xb_V, xb_s, if_pos, if_neg, if_true, if_false, true_and, and_true, true_or, or_true, false_or, or_false, not_true, not_false_iff, zb_z, zb_o, zb_ft, tn_0, tn_1, tn_2, tn_3, tn_c, Int.reduceToNat, te_0, te_1, tk_0, tk_1, tk_m, ts_1, or_0, bp_f, vI, sX_x0 hX, sX_xr7 hX, sX_xk7 hX, sX_xl7 hX, zi_t, ed_m, hq, hp, hdk, hm, hv, et]; rfl)
    · rw [if_neg h2] at hdn
      rw [hdn]
      have hm := hmv 1 (by omega)
      have hp : ((q : Int) - 1) % 2 = 1 := by omega
      clear hmv hst hok hdn hbc hc
      generalize dkP q = k at *
      cases hmm : mvP c k 1 with
      | true =>
        rw [tt_if]
        rw [hmm] at hm
        simp only [G_X9_comes_30]
        repeat (first | (with_reducible refine (if_pos ?_).trans ?_; focus (simp (disch := omega) only [zi_f, zi_0, zi_1, zi_31, zi_all, zi_8, zi_16, zi_add, zi_sub, zi_mul, zi_neg, zi_lt, zi_le, zi_eq, zi_div, zi_t, zi_n, xb_I, xb_J, xb_V, xb_s, if_pos, if_neg, if_true, if_false, true_and, and_true, true_or, or_true, false_or, or_false, not_true, not_false_iff, zb_z, zb_o, zb_ft, tn_0, tn_1, tn_2, tn_3, tn_c, Int.reduceToNat, te_0, te_1, tk_0, tk_1, tk_m, ts_1, or_0, bp_f, sX_x0 hX, sX_xr7 hX, sX_xk7 hX, sX_xl7 hX, zi_t, ed_m, hq, hp, hdk, hm, hv, et] <;> omega)) | (with_reducible refine (if_neg ?_).trans ?_; focus (simp (disch := omega) only [zi_f, zi_0, zi_1, zi_31, zi_all, zi_8, zi_16, zi_add, zi_sub, zi_mul, zi_neg, zi_lt, zi_le, zi_eq, zi_div, zi_t, zi_n, xb_I, xb_J, xb_V, xb_s, if_pos, if_neg, if_true, if_false, true_and, and_true, true_or, or_true, false_or, or_false, not_true, not_false_iff, zb_z, zb_o, zb_ft, tn_0, tn_1, tn_2, tn_3, tn_c, Int.reduceToNat, te_0, te_1, tk_0, tk_1, tk_m, ts_1, or_0, bp_f, sX_x0 hX, sX_xr7 hX, sX_xk7 hX, sX_xl7 hX, zi_t, ed_m, hq, hp, hdk, hm, hv, et] <;> omega)) | ((conv => lhs; arg 1; simp (disch := omega) only [zi_f, zi_0, zi_1, zi_31, zi_all, zi_8, zi_16, zi_add, zi_sub, zi_mul, zi_neg, zi_lt, zi_le, zi_eq, zi_div, zi_t, zi_n, xb_I, xb_J, xb_V, xb_s, if_pos, if_neg, if_true, if_false, true_and, and_true, true_or, or_true, false_or, or_false, not_true, not_false_iff, zb_z, zb_o, zb_ft, tn_0, tn_1, tn_2, tn_3, tn_c, Int.reduceToNat, te_0, te_1, tk_0, tk_1, tk_m, ts_1, or_0, bp_f, sX_x0 hX, sX_xr7 hX, sX_xk7 hX, sX_xl7 hX, zi_t, ed_m, hq, hp, hdk, hm, hv, et]); first | with_reducible refine xb_I.trans ?_ | with_reducible refine xb_V.trans ?_ | with_reducible refine xb_J.trans ?_ | with_reducible refine xb_s.trans ?_))
        first | (simp (disch := omega) only [zi_f, zi_0, zi_1, zi_31, zi_all, zi_8, zi_16, zi_add, zi_sub, zi_mul, zi_neg, zi_lt, zi_le, zi_eq, zi_div, zi_t, zi_n, xb_I, xb_J, xb_V, xb_s, if_pos, if_neg, if_true, if_false, true_and, and_true, true_or, or_true, false_or, or_false, not_true, not_false_iff, zb_z, zb_o, zb_ft, tn_0, tn_1, tn_2, tn_3, tn_c, Int.reduceToNat, te_0, te_1, tk_0, tk_1, tk_m, ts_1, or_0, bp_f, vI, sX_x0 hX, sX_xr7 hX, sX_xk7 hX, sX_xl7 hX, zi_t, ed_m, hq, hp, hdk, hm, hv, et]; done) | rfl | (simp (disch := omega) only [zi_f, zi_0, zi_1, zi_31, zi_all, zi_8, zi_16, zi_add, zi_sub, zi_mul, zi_neg, zi_lt, zi_le, zi_eq, zi_div, zi_t, zi_n, xb_I, xb_J, xb_V, xb_s, if_pos, if_neg, if_true, if_false, true_and, and_true, true_or, or_true, false_or, or_false, not_true, not_false_iff, zb_z, zb_o, zb_ft, tn_0, tn_1, tn_2, tn_3, tn_c, Int.reduceToNat, te_0, te_1, tk_0, tk_1, tk_m, ts_1, or_0, bp_f, vI, sX_x0 hX, sX_xr7 hX, sX_xk7 hX, sX_xl7 hX, zi_t, ed_m, hq, hp, hdk, hm, hv, et]; rfl)
      | false =>
        rw [ff_if]
        rw [hmm] at hm
        simp only [G_X9_comes_30]
        repeat (first | (with_reducible refine (if_pos ?_).trans ?_; focus (simp (disch := omega) only [zi_f, zi_0, zi_1, zi_31, zi_all, zi_8, zi_16, zi_add, zi_sub, zi_mul, zi_neg, zi_lt, zi_le, zi_eq, zi_div, zi_t, zi_n, xb_I, xb_J, xb_V, xb_s, if_pos, if_neg, if_true, if_false, true_and, and_true, true_or, or_true, false_or, or_false, not_true, not_false_iff, zb_z, zb_o, zb_ft, tn_0, tn_1, tn_2, tn_3, tn_c, Int.reduceToNat, te_0, te_1, tk_0, tk_1, tk_m, ts_1, or_0, bp_f, sX_x0 hX, sX_xr7 hX, sX_xk7 hX, sX_xl7 hX, zi_t, ed_m, hq, hp, hdk, hm, hv, et] <;> omega)) | (with_reducible refine (if_neg ?_).trans ?_; focus (simp (disch := omega) only [zi_f, zi_0, zi_1, zi_31, zi_all, zi_8, zi_16, zi_add, zi_sub, zi_mul, zi_neg, zi_lt, zi_le, zi_eq, zi_div, zi_t, zi_n, xb_I, xb_J, xb_V, xb_s, if_pos, if_neg, if_true, if_false, true_and, and_true, true_or, or_true, false_or, or_false, not_true, not_false_iff, zb_z, zb_o, zb_ft, tn_0, tn_1, tn_2, tn_3, tn_c, Int.reduceToNat, te_0, te_1, tk_0, tk_1, tk_m, ts_1, or_0, bp_f, sX_x0 hX, sX_xr7 hX, sX_xk7 hX, sX_xl7 hX, zi_t, ed_m, hq, hp, hdk, hm, hv, et] <;> omega)) | ((conv => lhs; arg 1; simp (disch := omega) only [zi_f, zi_0, zi_1, zi_31, zi_all, zi_8, zi_16, zi_add, zi_sub, zi_mul, zi_neg, zi_lt, zi_le, zi_eq, zi_div, zi_t, zi_n, xb_I, xb_J, xb_V, xb_s, if_pos, if_neg, if_true, if_false, true_and, and_true, true_or, or_true, false_or, or_false, not_true, not_false_iff, zb_z, zb_o, zb_ft, tn_0, tn_1, tn_2, tn_3, tn_c, Int.reduceToNat, te_0, te_1, tk_0, tk_1, tk_m, ts_1, or_0, bp_f, sX_x0 hX, sX_xr7 hX, sX_xk7 hX, sX_xl7 hX, zi_t, ed_m, hq, hp, hdk, hm, hv, et]); first | with_reducible refine xb_I.trans ?_ | with_reducible refine xb_V.trans ?_ | with_reducible refine xb_J.trans ?_ | with_reducible refine xb_s.trans ?_))
        first | (simp (disch := omega) only [zi_f, zi_0, zi_1, zi_31, zi_all, zi_8, zi_16, zi_add, zi_sub, zi_mul, zi_neg, zi_lt, zi_le, zi_eq, zi_div, zi_t, zi_n, xb_I, xb_J, xb_V, xb_s, if_pos, if_neg, if_true, if_false, true_and, and_true, true_or, or_true, false_or, or_false, not_true, not_false_iff, zb_z, zb_o, zb_ft, tn_0, tn_1, tn_2, tn_3, tn_c, Int.reduceToNat, te_0, te_1, tk_0, tk_1, tk_m, ts_1, or_0, bp_f, vI, sX_x0 hX, sX_xr7 hX, sX_xk7 hX, sX_xl7 hX, zi_t, ed_m, hq, hp, hdk, hm, hv, et]; done) | rfl | (simp (disch := omega) only [zi_f, zi_0, zi_1, zi_31, zi_all, zi_8, zi_16, zi_add, zi_sub, zi_mul, zi_neg, zi_lt, zi_le, zi_eq, zi_div, zi_t, zi_n, xb_I, xb_J, xb_V, xb_s, if_pos, if_neg, if_true, if_false, true_and, and_true, true_or, or_true, false_or, or_false, not_true, not_false_iff, zb_z, zb_o, zb_ft, tn_0, tn_1, tn_2, tn_3, tn_c, Int.reduceToNat, te_0, te_1, tk_0, tk_1, tk_m, ts_1, or_0, bp_f, vI, sX_x0 hX, sX_xr7 hX, sX_xk7 hX, sX_xl7 hX, zi_t, ed_m, hq, hp, hdk, hm, hv, et]; rfl)

end
