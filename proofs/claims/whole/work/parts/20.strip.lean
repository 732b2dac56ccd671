/-! Rows and texts: what the calls on them say, on both sides. -/
def wrM (m : xi_M) (a o : Nat) (g : Nat → Int32) : Nat → xi_M := fo (fun k x => xi_wI x a (o + k) (g k)) m
theorem wr_s (m : xi_M) (a o : Nat) (g : Nat → Int32) (n : Nat) : wrM m a o g (n + 1) = xi_wI (wrM m a o g n) a (o + n) (g n) := rfl
theorem wr_l (m : xi_M) (a o : Nat) (g : Nat → Int32) (n : Nat) : (wrM m a o g n).2 = m.2 := by
  induction n with
  | zero => rfl
  | succ n ih => exact ih
theorem wr_o {m : xi_M} {a o b : Nat} {g : Nat → Int32} {n : Nat} (h : b ≠ a) : (wrM m a o g n).1 b = m.1 b := by
  induction n with
  | zero => rfl
  | succ n ih => rw [wr_s, wI_o h, ih]
theorem wr_if (m : xi_M) (a o : Nat) (g : Nat → Int32) (n j : Nat) : (wrM m a o g n).1 a j = if o ≤ j ∧ j < o + n then g (j - o) else m.1 a j := by
  induction n with
  | zero => rw [if_neg (by omega)]; rfl
  | succ n ih =>
    rw [wr_s, mw_if, ih]
    by_cases e : j = o + n
    · rw [if_pos ⟨rfl, e⟩, if_pos (by omega), show j - o = n by omega]
    · rw [if_neg (fun q => e q.2)]
      by_cases h : o ≤ j ∧ j < o + n
      · rw [if_pos h, if_pos (by omega)]
      · rw [if_neg h, if_neg (by omega)]
def vI (a : Int) : Option Value := some (.int (zi a))
def bgT (t : TT) (s : Nat) (n : Int) (v : Int32) : TT := (fun x => if x = s then n else t.1 x, fun x => if x = s then fun _ => v else t.2 x)
def puT (t : TT) (s i : Nat) (v : Int32) : TT := (t.1, fun x => if x = s then fun k => if k = i then v else t.2 x k else t.2 x)
def teT (t : TT) (s : Nat) : TT := (fun x => if x = s then -9 else t.1 x, t.2)
def cpT (t : TT) (s i d j n : Nat) : TT := (t.1, fun x => if x = d then fun k => if j ≤ k ∧ k < j + n then t.2 s (i + (k - j)) else t.2 x k else t.2 x)
theorem CC_t {m m1 : xi_M} {t t1 : TT} {r : RR} {k : KK} {f : FF} (h : CC m (t, r, k, f)) (ha : ∀ b, b < 30 ∨ 50 ≤ b → m1.1 b = m.1 b) (hl : m1.2 = m.2) (hf : CS m1 t1) : CC m1 (t1, r, k, f) :=
  ⟨hf, CR_fr (fun b x _ => ha b (by omega)) h.2.1, CK_fr (fun b x _ => ha b (by omega)) h.2.2.1, CF_fr (ha 0 (by omega)) (ha 4 (by omega)) (by rw [hl]) h.2.2.2⟩
theorem MM_t {m m1 : xi_M} {t t1 : TT} {r : RR} {k : KK} {f : FF} (h : MM m (t, r, k, f)) (ha : ∀ b, b < 16 ∨ 21 ≤ b → m1.1 b = m.1 b) (hl : m1.2 = m.2) (hf : MS m1 t1) : MM m1 (t1, r, k, f) :=
  ⟨hf, MR_fr (ha 21 (by omega)) (ha 24 (by omega)) (by rw [ha 15 (by omega)]) h.2.1, MK_fr (fun b x _ => ha b (by omega)) h.2.2.1, MF_fr (ha 15 (by omega)) (ha 28 (by omega)) (by rw [hl]) h.2.2.2⟩
section
variable {S : xi_S} {m : xi_M}
theorem C_fill {a n : Nat} (h1 : S.1 a = 0) (h2 : S.2.1 a = n) (hn : n < 9999) (v : Int32) : E_J7_fill_53178 S a v m = some (none, wrM m a 0 (fun _ => v) n) := by
  unfold E_J7_fill_53178
  rw [if_pos (Or.inl h1), h2, zi_nat]
  refine lp_all (fun q j => G_J7_fill_53178_5 S q a v (zi j) (zi n) (wrM m a 0 (fun _ => v) j)) n 10000 (fun j q hj => ?_) (fun q => ?_) (by omega)
  · simp only [G_J7_fill_53178_5]
    simp (disch := omega) only [zi_f, zi_0, zi_1, zi_31, zi_all, zi_8, zi_16, zi_add, zi_sub, zi_mul, zi_neg, zi_lt, zi_le, zi_eq, zi_div, zi_t, zi_n, xb_I, xb_J, xb_V, xb_s, if_pos, if_neg, if_true, if_false, true_and, and_true, true_or, or_true, false_or, or_false, not_true, not_false_iff, zb_z, zb_o, zb_ft, tn_0, tn_1, tn_2, tn_3, tn_c, Int.reduceToNat, te_0, te_1, tk_0, tk_1, tk_m, ts_1, or_0, bp_f, h1, h2, wr_s, Nat.zero_add]
  · simp only [G_J7_fill_53178_5]
    simp (disch := omega) only [zi_f, zi_0, zi_1, zi_31, zi_all, zi_8, zi_16, zi_add, zi_sub, zi_mul, zi_neg, zi_lt, zi_le, zi_eq, zi_div, zi_t, zi_n, xb_I, xb_J, xb_V, xb_s, if_pos, if_neg, if_true, if_false, true_and, and_true, true_or, or_true, false_or, or_false, not_true, not_false_iff, zb_z, zb_o, zb_ft, tn_0, tn_1, tn_2, tn_3, tn_c, Int.reduceToNat, te_0, te_1, tk_0, tk_1, tk_m, ts_1, or_0, bp_f, h1, h2]
def bgM (m : xi_M) (s : Nat) (n : Int) (v : Int32) : xi_M := wrM (xi_wI (xi_wI m (30 + s) 0 (zi 1)) (30 + s) 1 (zi n)) (40 + s) 0 (fun _ => v) (lenS s)
theorem C_begin (hT : ShT S) {s : Nat} (hs : s < 10) (n : Int) (v : Int32) : E_X7_begin S (30 + s) (zi n) v m = some (none, bgM m s n v) := by
  obtain ⟨t0, t1, t2, t3, t4, t5, t6, t7, t8, t9, t10, a1, a2, a3, a4, b1, b2, b3, b4, d1, d2, d3, e1, e2, e3, e4, e5⟩ := hT
  have hl : S.2.1 (40 + s) = lenS s := by
    unfold lenS
    by_cases h : s < 6
    · rw [if_pos h, e4 s h]
    · rw [if_neg h, show 40 + s = 40 + (6 + (s - 6)) by omega, e5 (s - 6) (by omega)]
  have hf := fun (m : xi_M) => C_fill (S := S) (m := m) (e3 s hs) hl (by unfold lenS; split <;> omega) v
  unfold E_X7_begin bgM
  simp (disch := omega) only [zi_f, zi_0, zi_1, zi_31, zi_all, zi_8, zi_16, zi_add, zi_sub, zi_mul, zi_neg, zi_lt, zi_le, zi_eq, zi_div, zi_t, zi_n, xb_I, xb_J, xb_V, xb_s, if_pos, if_neg, if_true, if_false, true_and, and_true, true_or, or_true, false_or, or_false, not_true, not_false_iff, zb_z, zb_o, zb_ft, tn_0, tn_1, tn_2, tn_3, tn_c, Int.reduceToNat, te_0, te_1, tk_0, tk_1, tk_m, ts_1, or_0, bp_f, e1, e2, hf]
theorem bgM_o {s : Nat} {n : Int} {v : Int32} {b : Nat} (h : b ≠ 30 + s) (h2 : b ≠ 40 + s) : (bgM m s n v).1 b = m.1 b := by rw [bgM, wr_o h2, wI_o h, wI_o h]
theorem bgM_l {s : Nat} {n : Int} {v : Int32} : (bgM m s n v).2 = m.2 := by rw [bgM, wr_l]; rfl
theorem CS_bg {t : TT} (h : CS m t) {s : Nat} (hs : s < 10) {n : Int} (hn : n ≠ -9) {v : Int32} : CS (bgM m s n v) (bgT t s n v) := by
  intro x hx
  obtain ⟨h1, h2, h3⟩ := h x hx
  by_cases e : x = s
  · subst e
    refine ⟨?_, fun _ => ?_, fun k hk => ?_⟩
    · rw [bgM, wr_o (by omega), mw_ne (by omega), mw_eq, show (bgT t x n v).1 x = n from if_pos rfl, decide_eq_true hn]; rfl
    · rw [bgM, wr_o (by omega), mw_eq, show (bgT t x n v).1 x = n from if_pos rfl]
    · rw [bgM, wr_if, if_pos (by omega)]
      show v = (if x = x then fun _ => v else t.2 x) k
      rw [if_pos rfl]
  · rw [bgM_o (by omega) (by omega), bgM_o (by omega) (by omega), show (bgT t s n v).1 x = t.1 x from if_neg e, show (bgT t s n v).2 x = t.2 x from if_neg e]
    exact ⟨h1, h2, h3⟩
theorem CC_bg {t : TT} {r : RR} {k : KK} {f : FF} (h : CC m (t, r, k, f)) {s : Nat} (hs : s < 10) {n : Int} (hn : n ≠ -9) {v : Int32} : CC (bgM m s n v) (bgT t s n v, r, k, f) :=
  CC_t h (fun b hb => bgM_o (by omega) (by omega)) bgM_l (CS_bg h.1 hs hn)
def rwM (m : xi_M) (r : Nat) (n : Int) : xi_M := wrM (xi_wI m 16 r (zi n)) 17 (40 * r) (fun _ => zi 0) 40
def txM (m : xi_M) (r : Nat) (n : Int) : xi_M := wrM (xi_wI m 18 r (zi n)) 19 (60 * r) (fun _ => zi 32) 60
theorem MM_rw {t : TT} {r : RR} {k : KK} {f : FF} (h : MM m (t, r, k, f)) {s : Nat} (hs : s < 6) (n : Int) : MM (rwM m s n) (bgT t s n (zi 0), r, k, f) := by
  refine MM_t h (fun b hb => by rw [rwM, wr_o (by omega), wI_o (by omega)]) (by rw [rwM, wr_l]; rfl) ⟨fun x hx => ?_, fun u hu => ?_⟩
  · obtain ⟨h1, h2⟩ := h.1.1 x hx
    by_cases e : x = s
    · subst e
      refine ⟨?_, fun q hq => ?_⟩
      · rw [rwM, wr_o (by omega), mw_eq, show (bgT t x n (zi 0)).1 x = n from if_pos rfl]
      · rw [rwM, wr_if, if_pos (by omega)]
        show zi 0 = (if x = x then fun _ => zi 0 else t.2 x) q
        rw [if_pos rfl]
    · refine ⟨?_, fun q hq => ?_⟩
      · rw [rwM, wr_o (by omega), mw_ne (by omega), h1, show (bgT t s n (zi 0)).1 x = t.1 x from if_neg e]
      · rw [rwM, wr_if, if_neg (by omega), wI_o (by omega), h2 q hq, show (bgT t s n (zi 0)).2 x = t.2 x from if_neg e]
  · obtain ⟨h1, h2⟩ := h.1.2 u hu
    refine ⟨?_, fun q hq => ?_⟩
    · rw [rwM, wr_o (by omega), wI_o (by omega), h1, show (bgT t s n (zi 0)).1 (6 + u) = t.1 (6 + u) from if_neg (by omega)]
    · rw [rwM, wr_o (by omega), wI_o (by omega), h2 q hq, show (bgT t s n (zi 0)).2 (6 + u) = t.2 (6 + u) from if_neg (by omega)]
theorem MM_tx {t : TT} {r : RR} {k : KK} {f : FF} (h : MM m (t, r, k, f)) {s : Nat} (hs : s < 4) (n : Int) : MM (txM m s n) (bgT t (6 + s) n (zi 32), r, k, f) := by
  refine MM_t h (fun b hb => by rw [txM, wr_o (by omega), wI_o (by omega)]) (by rw [txM, wr_l]; rfl) ⟨fun x hx => ?_, fun u hu => ?_⟩
  · obtain ⟨h1, h2⟩ := h.1.1 x hx
    refine ⟨?_, fun q hq => ?_⟩
    · rw [txM, wr_o (by omega), wI_o (by omega), h1, show (bgT t (6 + s) n (zi 32)).1 x = t.1 x from if_neg (by omega)]
    · rw [txM, wr_o (by omega), wI_o (by omega), h2 q hq, show (bgT t (6 + s) n (zi 32)).2 x = t.2 x from if_neg (by omega)]
  · obtain ⟨h1, h2⟩ := h.1.2 u hu
    by_cases e : u = s
    · subst e
      refine ⟨?_, fun q hq => ?_⟩
      · rw [txM, wr_o (by omega), mw_eq, show (bgT t (6 + u) n (zi 32)).1 (6 + u) = n from if_pos rfl]
      · rw [txM, wr_if, if_pos (by omega)]
        show zi 32 = (if 6 + u = 6 + u then fun _ => zi 32 else t.2 (6 + u)) q
        rw [if_pos rfl]
    · refine ⟨?_, fun q hq => ?_⟩
      · rw [txM, wr_o (by omega), mw_ne (by omega), h1, show (bgT t (6 + s) n (zi 32)).1 (6 + u) = t.1 (6 + u) from if_neg (by omega)]
      · rw [txM, wr_if, if_neg (by omega), wI_o (by omega), h2 q hq, show (bgT t (6 + s) n (zi 32)).2 (6 + u) = t.2 (6 + u) from if_neg (by omega)]
theorem OT_bg {t : TT} (h : OT t) {s : Nat} (hs : s < 10) {n : Int} (h1 : 0 ≤ n) (h2 : n ≤ lenS s) {b : Int} (hb : -128 ≤ b ∧ b ≤ 127) : OT (bgT t s n (zi b)) := by
  refine ⟨fun x hx => ?_, fun u hu k hk => ?_⟩
  · show (if x = s then n else t.1 x) = -9 ∨ 0 ≤ (if x = s then n else t.1 x) ∧ (if x = s then n else t.1 x) ≤ _
    by_cases e : x = s
    · subst e
      rw [if_pos rfl]
      exact Or.inr ⟨h1, h2⟩
    · rw [if_neg e]
      exact h.1 x hx
  · show ∃ d : Int, -128 ≤ d ∧ d ≤ 127 ∧ (if 6 + u = s then fun _ => zi b else t.2 (6 + u)) k = zi d
    by_cases e : 6 + u = s
    · rw [if_pos e]
      exact ⟨b, hb.1, hb.2, rfl⟩
    · rw [if_neg e]
      exact h.2 u hu k hk
theorem Cself {b : Nat} : m.1 b = m.1 b ∧ m.2 b = m.2 b := ⟨rfl, rfl⟩
/-! row -/
def sp_row (r n : Int) (q : Sg) : Option Value × Sg := if (0 ≤ r ∧ r ≤ 5) ∧ n ≤ 40 then (if 0 ≤ n then (vI n, bgT q.1 r.toNat n (zi 0), q.2) else (vI (-3), q.1, q.2.1, q.2.2.1, rfS 5 q.2.2.2)) else (vI (-1), q)
theorem c_row (hS : Sh S) (r n : Int) (hr1 : -2147483648 ≤ r) (hr2 : r < 2147483648) (hn1 : -2147483648 ≤ n) (hn2 : n < 2147483648) : Cim S (E_X8_row S 0 (zi r) (zi n)) (sp_row r n) := by
  rintro ⟨t, rr, k, f⟩ m hO hC
  have hT := hS.1
  have hf5 := C_refuse (m := m) hT (j := 5) (by omega)
  have hbg := fun (s : Nat) (hs : s < 10) => C_begin (m := m) hT hs n (zi 0)
  obtain ⟨t0, t1, t2, t3, t4, t5, t6, t7, t8, t9, t10, a1, a2, a3, a4, b1, b2, b3, b4, d1, d2, d3, e1, e2, e3, e4, e5⟩ := hT
  unfold sp_row
  by_cases h1 : 0 ≤ r ∧ r ≤ 5
  · obtain ⟨s, rfl⟩ : ∃ s : Nat, r = s := ⟨r.toNat, by omega⟩
    by_cases h2 : n ≤ 40
    · rw [if_pos ⟨h1, h2⟩]
      by_cases h3 : 0 ≤ n
      · rw [if_pos h3]
        refine ⟨bgM m s n (zi 0), ?_, ?_, fun b _ _ => ⟨bgM_o (by omega) (by omega), by rw [bgM_l]⟩⟩
        · unfold E_X8_row E_X8_begun
          simp (disch := omega) only [zi_f, zi_0, zi_1, zi_31, zi_all, zi_8, zi_16, zi_add, zi_sub, zi_mul, zi_neg, zi_lt, zi_le, zi_eq, zi_div, zi_t, zi_n, xb_I, xb_J, xb_V, xb_s, if_pos, if_neg, if_true, if_false, true_and, and_true, true_or, or_true, false_or, or_false, not_true, not_false_iff, zb_z, zb_o, zb_ft, tn_0, tn_1, tn_2, tn_3, tn_c, Int.reduceToNat, te_0, te_1, tk_0, tk_1, tk_m, ts_1, or_0, bp_f, t0, t1, t2, t3, t4, t5, t6, t7, t8, t9, t10, a1, a2, a3, a4, b1, b2, b3, b4, d1, d2, d3, e1, e2, e3, e4, e5, C_wt, hbg]
          rfl
        · exact CC_bg hC (by omega) (by omega)
      · rw [if_neg h3]
        refine ⟨rfC m 5, ?_, CC_rf hC, fun b _ _ => ⟨rfC_o (by omega) (by omega), rfl⟩⟩
        unfold E_X8_row E_X8_begun
        simp (disch := omega) only [zi_f, zi_0, zi_1, zi_31, zi_all, zi_8, zi_16, zi_add, zi_sub, zi_mul, zi_neg, zi_lt, zi_le, zi_eq, zi_div, zi_t, zi_n, xb_I, xb_J, xb_V, xb_s, if_pos, if_neg, if_true, if_false, true_and, and_true, true_or, or_true, false_or, or_false, not_true, not_false_iff, zb_z, zb_o, zb_ft, tn_0, tn_1, tn_2, tn_3, tn_c, Int.reduceToNat, te_0, te_1, tk_0, tk_1, tk_m, ts_1, or_0, bp_f, t0, t1, t2, t3, t4, t5, t6, t7, t8, t9, t10, a1, a2, a3, a4, b1, b2, b3, b4, d1, d2, d3, e1, e2, e3, e4, e5, C_wt]
        rw [show zi 5 = zi ((5 : Nat) : Int) from rfl, hf5]
        rfl
    · rw [if_neg (by omega)]
      refine ⟨m, ?_, hC, fun b _ _ => Cself⟩
      unfold E_X8_row
      simp (disch := omega) only [zi_f, zi_0, zi_1, zi_31, zi_all, zi_8, zi_16, zi_add, zi_sub, zi_mul, zi_neg, zi_lt, zi_le, zi_eq, zi_div, zi_t, zi_n, xb_I, xb_J, xb_V, xb_s, if_pos, if_neg, if_true, if_false, true_and, and_true, true_or, or_true, false_or, or_false, not_true, not_false_iff, zb_z, zb_o, zb_ft, tn_0, tn_1, tn_2, tn_3, tn_c, Int.reduceToNat, te_0, te_1, tk_0, tk_1, tk_m, ts_1, or_0, bp_f, C_wt]
      rfl
  · rw [if_neg (by omega)]
    refine ⟨m, ?_, hC, fun b _ _ => Cself⟩
    unfold E_X8_row
    simp (disch := omega) only [zi_f, zi_0, zi_1, zi_31, zi_all, zi_8, zi_16, zi_add, zi_sub, zi_mul, zi_neg, zi_lt, zi_le, zi_eq, zi_div, zi_t, zi_n, xb_I, xb_J, xb_V, xb_s, if_pos, if_neg, if_true, if_false, true_and, and_true, true_or, or_true, false_or, or_false, not_true, not_false_iff, zb_z, zb_o, zb_ft, tn_0, tn_1, tn_2, tn_3, tn_c, Int.reduceToNat, te_0, te_1, tk_0, tk_1, tk_m, ts_1, or_0, bp_f, C_wf]
    rfl
theorem m_row (hS : Sh S) (r n : Int) (hr1 : -2147483648 ≤ r) (hr2 : r < 2147483648) (hn1 : -2147483648 ≤ n) (hn2 : n < 2147483648) : Mim S (E_X9_row S 15 (zi r) (zi n)) (sp_row r n) := by
  rintro ⟨t, rr, k, f⟩ m hO hC
  have hX := hS.2.2.1
  have hf5 := M_found (m := m) hX (j := 5) (by omega)
  obtain ⟨x0, xr0, xr1, xr2, xr3, xr4, xr5, xr6, xr7, xr8, xr9, xr10, xr11, xr12, xr13, xk0, xk1, xk2, xk3, xk4, xk5, xk6, xk7, xk8, xk9, xk10, xk11, xk12, xk13, xl0, xl1, xl2, xl3, xl4, xl5, xl6, xl7, xl8, xl9, xl10, xl11, xl12, xl13⟩ := hX
  unfold sp_row
  by_cases h1 : 0 ≤ r ∧ r ≤ 5
  · obtain ⟨s, rfl⟩ : ∃ s : Nat, r = s := ⟨r.toNat, by omega⟩
    by_cases h2 : n ≤ 40
    · rw [if_pos ⟨h1, h2⟩]
      by_cases h3 : 0 ≤ n
      · rw [if_pos h3]
        refine ⟨rwM m s n, ?_, MM_rw hC (by omega) n, fun b hb => ⟨by rw [rwM, wr_o (by omega), wI_o (by omega)], by rw [rwM, wr_l]; rfl⟩⟩
        unfold E_X9_row
        simp (disch := omega) only [zi_f, zi_0, zi_1, zi_31, zi_all, zi_8, zi_16, zi_add, zi_sub, zi_mul, zi_neg, zi_lt, zi_le, zi_eq, zi_div, zi_t, zi_n, xb_I, xb_J, xb_V, xb_s, if_pos, if_neg, if_true, if_false, true_and, and_true, true_or, or_true, false_or, or_false, not_true, not_false_iff, zb_z, zb_o, zb_ft, tn_0, tn_1, tn_2, tn_3, tn_c, Int.reduceToNat, te_0, te_1, tk_0, tk_1, tk_m, ts_1, or_0, bp_f, x0, xr0, xr1, xr2, xr3, xr4, xr5, xr6, xr7, xr8, xr9, xr10, xr11, xr12, xr13, xk0, xk1, xk2, xk3, xk4, xk5, xk6, xk7, xk8, xk9, xk10, xk11, xk12, xk13, xl0, xl1, xl2, xl3, xl4, xl5, xl6, xl7, xl8, xl9, xl10, xl11, xl12, xl13, M_rt]
        refine lp_all (fun q j => G_X9_row_34 S q 15 (zi s) (zi n) (zi j) (wrM (xi_wI m 16 s (zi n)) 17 (40 * s) (fun _ => zi 0) j)) 40 10000 (fun j q hj => ?_) (fun q => ?_) (by omega)
        · have e1 : (40 * (s : Int) + (j : Int)).toNat = 40 * s + j := by omega
          simp only [G_X9_row_34]
          simp (disch := omega) only [zi_f, zi_0, zi_1, zi_31, zi_all, zi_8, zi_16, zi_add, zi_sub, zi_mul, zi_neg, zi_lt, zi_le, zi_eq, zi_div, zi_t, zi_n, xb_I, xb_J, xb_V, xb_s, if_pos, if_neg, if_true, if_false, true_and, and_true, true_or, or_true, false_or, or_false, not_true, not_false_iff, zb_z, zb_o, zb_ft, tn_0, tn_1, tn_2, tn_3, tn_c, Int.reduceToNat, te_0, te_1, tk_0, tk_1, tk_m, ts_1, or_0, bp_f, x0, xr0, xr1, xr2, xr3, xr4, xr5, xr6, xr7, xr8, xr9, xr10, xr11, xr12, xr13, xk0, xk1, xk2, xk3, xk4, xk5, xk6, xk7, xk8, xk9, xk10, xk11, xk12, xk13, xl0, xl1, xl2, xl3, xl4, xl5, xl6, xl7, xl8, xl9, xl10, xl11, xl12, xl13, wr_s, e1]
        · simp only [G_X9_row_34]
          simp (disch := omega) only [zi_f, zi_0, zi_1, zi_31, zi_all, zi_8, zi_16, zi_add, zi_sub, zi_mul, zi_neg, zi_lt, zi_le, zi_eq, zi_div, zi_t, zi_n, xb_I, xb_J, xb_V, xb_s, if_pos, if_neg, if_true, if_false, true_and, and_true, true_or, or_true, false_or, or_false, not_true, not_false_iff, zb_z, zb_o, zb_ft, tn_0, tn_1, tn_2, tn_3, tn_c, Int.reduceToNat, te_0, te_1, tk_0, tk_1, tk_m, ts_1, or_0, bp_f, x0, xr0, xr1, xr2, xr3, xr4, xr5, xr6, xr7, xr8, xr9, xr10, xr11, xr12, xr13, xk0, xk1, xk2, xk3, xk4, xk5, xk6, xk7, xk8, xk9, xk10, xk11, xk12, xk13, xl0, xl1, xl2, xl3, xl4, xl5, xl6, xl7, xl8, xl9, xl10, xl11, xl12, xl13]
          rfl
      · rw [if_neg h3]
        refine ⟨rfM m 5, ?_, MM_rf hC, fun b hb => ⟨rfM_o (by omega) (by omega), rfl⟩⟩
        unfold E_X9_row
        simp (disch := omega) only [zi_f, zi_0, zi_1, zi_31, zi_all, zi_8, zi_16, zi_add, zi_sub, zi_mul, zi_neg, zi_lt, zi_le, zi_eq, zi_div, zi_t, zi_n, xb_I, xb_J, xb_V, xb_s, if_pos, if_neg, if_true, if_false, true_and, and_true, true_or, or_true, false_or, or_false, not_true, not_false_iff, zb_z, zb_o, zb_ft, tn_0, tn_1, tn_2, tn_3, tn_c, Int.reduceToNat, te_0, te_1, tk_0, tk_1, tk_m, ts_1, or_0, bp_f, x0, xr0, xr1, xr2, xr3, xr4, xr5, xr6, xr7, xr8, xr9, xr10, xr11, xr12, xr13, xk0, xk1, xk2, xk3, xk4, xk5, xk6, xk7, xk8, xk9, xk10, xk11, xk12, xk13, xl0, xl1, xl2, xl3, xl4, xl5, xl6, xl7, xl8, xl9, xl10, xl11, xl12, xl13, M_rt]
        rw [show zi 5 = zi ((5 : Nat) : Int) from rfl, hf5]
        rfl
    · rw [if_neg (by omega)]
      refine ⟨m, ?_, hC, fun b _ => Cself⟩
      unfold E_X9_row
      simp (disch := omega) only [zi_f, zi_0, zi_1, zi_31, zi_all, zi_8, zi_16, zi_add, zi_sub, zi_mul, zi_neg, zi_lt, zi_le, zi_eq, zi_div, zi_t, zi_n, xb_I, xb_J, xb_V, xb_s, if_pos, if_neg, if_true, if_false, true_and, and_true, true_or, or_true, false_or, or_false, not_true, not_false_iff, zb_z, zb_o, zb_ft, tn_0, tn_1, tn_2, tn_3, tn_c, Int.reduceToNat, te_0, te_1, tk_0, tk_1, tk_m, ts_1, or_0, bp_f, M_rt]
      rfl
  · rw [if_neg (by omega)]
    refine ⟨m, ?_, hC, fun b _ => Cself⟩
    unfold E_X9_row
    simp (disch := omega) only [zi_f, zi_0, zi_1, zi_31, zi_all, zi_8, zi_16, zi_add, zi_sub, zi_mul, zi_neg, zi_lt, zi_le, zi_eq, zi_div, zi_t, zi_n, xb_I, xb_J, xb_V, xb_s, if_pos, if_neg, if_true, if_false, true_and, and_true, true_or, or_true, false_or, or_false, not_true, not_false_iff, zb_z, zb_o, zb_ft, tn_0, tn_1, tn_2, tn_3, tn_c, Int.reduceToNat, te_0, te_1, tk_0, tk_1, tk_m, ts_1, or_0, bp_f, M_rf]
    rfl
theorem o_row (r n : Int) : ∀ q, OK q → OK (sp_row r n q).2 := by
  rintro ⟨t, rr, k, f⟩ ⟨h1, h2, h3⟩
  unfold sp_row
  split
  · split
    · exact ⟨OT_bg h1 (by omega) (by omega) (by unfold lenS; rw [if_pos (by omega)]; omega) (by omega), h2, h3⟩
    · exact ⟨h1, h2, h3⟩
  · exact ⟨h1, h2, h3⟩
end
