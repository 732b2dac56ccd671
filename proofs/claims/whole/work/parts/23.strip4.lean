/-! copy -/
theorem bI_of {q : Option xi_R} {k : Int32 → xi_M → Option xi_R} {v : Int32} {m : xi_M} {r : Option xi_R} (h : q = some (some (.int v), m)) (h2 : k v m = r) : xi_bI q k = r := by rw [h]; exact h2
theorem bJ_of {q : Option xi_R} {k : Int64 → xi_M → Option xi_R} {v : Int64} {m : xi_M} {r : Option xi_R} (h : q = some (some (.long v), m)) (h2 : k v m = r) : xi_bJ q k = r := by rw [h]; exact h2
theorem bV_of {q : Option xi_R} {k : xi_M → Option xi_R} {m : xi_M} {r : Option xi_R} (h : q = some (none, m)) (h2 : k m = r) : xi_bV q k = r := by rw [h]; exact h2
def cpM (m : xi_M) (a b sp dp n : Nat) : xi_M := (fun c => if c = b then va_cpy (m.1 a) (m.1 b) sp dp n else m.1 c, m.2)
theorem cp_o {m : xi_M} {a b sp dp n c : Nat} (h : c ≠ b) : (cpM m a b sp dp n).1 c = m.1 c := if_neg h
theorem cp_b (m : xi_M) (a b sp dp n k : Nat) : (cpM m a b sp dp n).1 b k = if dp ≤ k ∧ k < dp + n then m.1 a (sp + (k - dp)) else m.1 b k := by
  show (if b = b then va_cpy (m.1 a) (m.1 b) sp dp n else m.1 b) k = _
  rw [if_pos rfl]
  rfl
section
variable {S : xi_S}
theorem C_acopy {m : xi_M} {a b la lb : Nat} (h1 : S.1 a = 0) (h2 : S.1 b = 0) (h3 : S.2.1 a = la) (h4 : S.2.1 b = lb) {sp dp n : Int} (h5 : 0 ≤ sp) (h6 : 0 ≤ dp) (h7 : 0 ≤ n) (h8 : sp + n ≤ la) (h9 : dp + n ≤ lb) (h10 : la < 10000) (h11 : lb < 10000) : F_arraycopy S [.ref a, .int (zi sp), .ref b, .int (zi dp), .int (zi n)] m = some (none, cpM m a b sp.toNat dp.toNat n.toNat) := by
  unfold F_arraycopy
  simp (disch := omega) only [zi_f, zi_0, zi_1, zi_31, zi_all, zi_8, zi_16, zi_add, zi_sub, zi_mul, zi_neg, zi_lt, zi_le, zi_eq, zi_div, zi_t, zi_n, xb_I, xb_J, xb_V, xb_s, if_pos, if_neg, if_true, if_false, true_and, and_true, true_or, or_true, false_or, or_false, not_true, not_false_iff, zb_z, zb_o, zb_ft, tn_0, tn_1, tn_2, tn_3, tn_c, Int.reduceToNat, te_0, te_1, tk_0, tk_1, tk_m, ts_1, or_0, bp_f, h1, h2, h3, h4]
  rfl
theorem C_hold {m : xi_M} (hT : ShT S) {s : Nat} (hs : s < 10) {z i n : Int} (u : m.1 (30 + s) 1 = zi z) (hz : 0 ≤ z ∧ z ≤ 1000) (i1 : -2147483648 ≤ i) (i2 : i < 2147483648) (n1 : -2147483648 ≤ n) (n2 : n < 2147483648) : E_X7_holds S (30 + s) (zi i) (zi n) m = some (some (.int (zb (decide (0 ≤ i ∧ i ≤ z ∧ n ≤ z - i)))), m) := by
  unfold E_X7_holds
  by_cases h : i < 0
  · rw [decide_eq_false (by omega)]
    simp (disch := omega) only [zi_f, zi_0, zi_1, zi_31, zi_all, zi_8, zi_16, zi_add, zi_sub, zi_mul, zi_neg, zi_lt, zi_le, zi_eq, zi_div, zi_t, zi_n, xb_I, xb_J, xb_V, xb_s, if_pos, if_neg, if_true, if_false, true_and, and_true, true_or, or_true, false_or, or_false, not_true, not_false_iff, zb_z, zb_o, zb_ft, tn_0, tn_1, tn_2, tn_3, tn_c, Int.reduceToNat, te_0, te_1, tk_0, tk_1, tk_m, ts_1, or_0, bp_f, sT_e1 hT, u]
    rfl
  · by_cases h2 : z < i
    · rw [decide_eq_false (by omega)]
      simp (disch := omega) only [zi_f, zi_0, zi_1, zi_31, zi_all, zi_8, zi_16, zi_add, zi_sub, zi_mul, zi_neg, zi_lt, zi_le, zi_eq, zi_div, zi_t, zi_n, xb_I, xb_J, xb_V, xb_s, if_pos, if_neg, if_true, if_false, true_and, and_true, true_or, or_true, false_or, or_false, not_true, not_false_iff, zb_z, zb_o, zb_ft, tn_0, tn_1, tn_2, tn_3, tn_c, Int.reduceToNat, te_0, te_1, tk_0, tk_1, tk_m, ts_1, or_0, bp_f, sT_e1 hT, u]
      rfl
    · by_cases h3 : z - i < n
      · rw [decide_eq_false (by omega)]
        simp (disch := omega) only [zi_f, zi_0, zi_1, zi_31, zi_all, zi_8, zi_16, zi_add, zi_sub, zi_mul, zi_neg, zi_lt, zi_le, zi_eq, zi_div, zi_t, zi_n, xb_I, xb_J, xb_V, xb_s, if_pos, if_neg, if_true, if_false, true_and, and_true, true_or, or_true, false_or, or_false, not_true, not_false_iff, zb_z, zb_o, zb_ft, tn_0, tn_1, tn_2, tn_3, tn_c, Int.reduceToNat, te_0, te_1, tk_0, tk_1, tk_m, ts_1, or_0, bp_f, sT_e1 hT, u]
        rfl
      · rw [decide_eq_true (by omega)]
        simp (disch := omega) only [zi_f, zi_0, zi_1, zi_31, zi_all, zi_8, zi_16, zi_add, zi_sub, zi_mul, zi_neg, zi_lt, zi_le, zi_eq, zi_div, zi_t, zi_n, xb_I, xb_J, xb_V, xb_s, if_pos, if_neg, if_true, if_false, true_and, and_true, true_or, or_true, false_or, or_false, not_true, not_false_iff, zb_z, zb_o, zb_ft, tn_0, tn_1, tn_2, tn_3, tn_c, Int.reduceToNat, te_0, te_1, tk_0, tk_1, tk_m, ts_1, or_0, bp_f, sT_e1 hT, u]
        rfl
theorem M_hasPart {m : xi_M} (hX : ShX S) {s : Nat} (hs : s < 6) {z i n : Int} (u : m.1 16 s = zi z) (hz : 0 ≤ z ∧ z ≤ 1000) (i1 : -2147483648 ≤ i) (i2 : i < 2147483648) (n1 : -2147483648 ≤ n) (n2 : n < 2147483648) : E_X9_hasPart S 15 (zi s) (zi i) (zi n) m = some (some (.int (zb (decide (0 ≤ i ∧ i ≤ z ∧ n ≤ z - i)))), m) := by
  unfold E_X9_hasPart
  by_cases h : 0 ≤ i ∧ i ≤ z
  · by_cases h3 : z - i < n
    · rw [decide_eq_false (by omega)]
      simp (disch := omega) only [zi_f, zi_0, zi_1, zi_31, zi_all, zi_8, zi_16, zi_add, zi_sub, zi_mul, zi_neg, zi_lt, zi_le, zi_eq, zi_div, zi_t, zi_n, xb_I, xb_J, xb_V, xb_s, if_pos, if_neg, if_true, if_false, true_and, and_true, true_or, or_true, false_or, or_false, not_true, not_false_iff, zb_z, zb_o, zb_ft, tn_0, tn_1, tn_2, tn_3, tn_c, Int.reduceToNat, te_0, te_1, tk_0, tk_1, tk_m, ts_1, or_0, bp_f, sX_x0 hX, sX_xr0 hX, sX_xk0 hX, sX_xl0 hX, u, M_it]
      rfl
    · rw [decide_eq_true (by omega)]
      simp (disch := omega) only [zi_f, zi_0, zi_1, zi_31, zi_all, zi_8, zi_16, zi_add, zi_sub, zi_mul, zi_neg, zi_lt, zi_le, zi_eq, zi_div, zi_t, zi_n, xb_I, xb_J, xb_V, xb_s, if_pos, if_neg, if_true, if_false, true_and, and_true, true_or, or_true, false_or, or_false, not_true, not_false_iff, zb_z, zb_o, zb_ft, tn_0, tn_1, tn_2, tn_3, tn_c, Int.reduceToNat, te_0, te_1, tk_0, tk_1, tk_m, ts_1, or_0, bp_f, sX_x0 hX, sX_xr0 hX, sX_xk0 hX, sX_xl0 hX, u, M_it]
      rfl
  · rw [decide_eq_false (by omega)]
    simp (disch := omega) only [zi_f, zi_0, zi_1, zi_31, zi_all, zi_8, zi_16, zi_add, zi_sub, zi_mul, zi_neg, zi_lt, zi_le, zi_eq, zi_div, zi_t, zi_n, xb_I, xb_J, xb_V, xb_s, if_pos, if_neg, if_true, if_false, true_and, and_true, true_or, or_true, false_or, or_false, not_true, not_false_iff, zb_z, zb_o, zb_ft, tn_0, tn_1, tn_2, tn_3, tn_c, Int.reduceToNat, te_0, te_1, tk_0, tk_1, tk_m, ts_1, or_0, bp_f, sX_x0 hX, sX_xr0 hX, sX_xk0 hX, sX_xl0 hX, u, M_if]
    rfl
theorem CC_cp {m : xi_M} {t : TT} {r : RR} {k : KK} {f : FF} (h : CC m (t, r, k, f)) {s i d j n : Nat} (hs : s < 6) (hd : d < 6) (h1 : i + n ≤ 40) (h2 : j + n ≤ 40) : CC (cpM m (40 + s) (40 + d) i j n) (cpT t s i d j n, r, k, f) := by
  have hC1 : CS m t := h.1
  refine CC_t h (fun b hb => cp_o (by omega)) rfl (fun x hx => ?_)
  obtain ⟨q1, q2, q3⟩ := hC1 x hx
  rw [cp_o (by omega)]
  refine ⟨q1, q2, fun q hq => ?_⟩
  show _ = (if x = d then fun k => if j ≤ k ∧ k < j + n then t.2 s (i + (k - j)) else t.2 x k else t.2 x) q
  by_cases e : x = d
  · subst e
    rw [if_pos rfl, cp_b]
    by_cases e2 : j ≤ q ∧ q < j + n
    · rw [if_pos e2, if_pos e2, CS_it hC1 hs _ (by omega)]
    · rw [if_neg e2, if_neg e2, q3 q hq]
  · rw [if_neg e, cp_o (by omega), q3 q hq]
def cpX (m : xi_M) (s i d j n : Nat) : xi_M := wrM (wrM m 20 0 (fun k => m.1 17 (40 * s + i + k)) n) 17 (40 * d + j) (fun k => m.1 17 (40 * s + i + k)) n
theorem MM_cp {m : xi_M} {t : TT} {r : RR} {k : KK} {f : FF} (h : MM m (t, r, k, f)) {s i d j n : Nat} (hs : s < 6) (hd : d < 6) (h1 : i + n ≤ 40) (h2 : j + n ≤ 40) : MM (cpX m s i d j n) (cpT t s i d j n, r, k, f) := by
  have hC1 : MS m t := h.1
  refine MM_t h (fun b hb => by rw [cpX, wr_o (by omega), wr_o (by omega)]) (by rw [cpX, wr_l, wr_l]) ⟨fun x hx => ?_, fun u hu => ?_⟩
  · obtain ⟨q1, q2⟩ := hC1.1 x hx
    refine ⟨by rw [cpX, wr_o (by omega), wr_o (by omega)]; exact q1, fun q hq => ?_⟩
    show _ = (if x = d then fun k => if j ≤ k ∧ k < j + n then t.2 s (i + (k - j)) else t.2 x k else t.2 x) q
    rw [cpX, wr_if, wr_o (by omega)]
    by_cases e : x = d
    · subst e
      rw [if_pos rfl]
      by_cases e2 : j ≤ q ∧ q < j + n
      · rw [if_pos (by omega), if_pos e2, show 40 * s + i + (40 * x + q - (40 * x + j)) = 40 * s + (i + (q - j)) by omega, (hC1.1 s hs).2 _ (by omega)]
      · rw [if_neg (by omega), if_neg e2, q2 q hq]
    · rw [if_neg e, if_neg (by omega), q2 q hq]
  · obtain ⟨q1, q2⟩ := hC1.2 u hu
    rw [show (cpT t s i d j n).2 (6 + u) = t.2 (6 + u) from if_neg (by omega)]
    refine ⟨by rw [cpX, wr_o (by omega), wr_o (by omega)]; exact q1, fun q hq => by rw [cpX, wr_o (by omega), wr_o (by omega)]; exact q2 q hq⟩
def sp_copy (r i d j n : Int) (q : Sg) : Option Value × Sg := if (0 ≤ r ∧ r ≤ 5) ∧ (0 ≤ d ∧ d ≤ 5) then (if 0 ≤ n then (if q.1.1 r.toNat = -9 ∨ q.1.1 d.toNat = -9 then (vI (-3), rfQ 1 q) else if (0 ≤ i ∧ i ≤ q.1.1 r.toNat ∧ n ≤ q.1.1 r.toNat - i) ∧ (0 ≤ j ∧ j ≤ q.1.1 d.toNat ∧ n ≤ q.1.1 d.toNat - j) then (vI 1, cpT q.1 r.toNat i.toNat d.toNat j.toNat n.toNat, q.2) else (vI (-3), rfQ 2 q)) else (vI (-3), rfQ 5 q)) else (vI (-1), q)
set_option maxHeartbeats 8000000 in
theorem c_copy (hS : Sh S) (r : Int) (r1 : -2147483648 ≤ r) (r2 : r < 2147483648) (i : Int) (i1 : -2147483648 ≤ i) (i2 : i < 2147483648) (d : Int) (d1 : -2147483648 ≤ d) (d2 : d < 2147483648) (j : Int) (j1 : -2147483648 ≤ j) (j2 : j < 2147483648) (n : Int) (n1 : -2147483648 ≤ n) (n2 : n < 2147483648)  : Cim S (fun m => E_X8_copy S 0 (zi r) (zi i) (zi d) (zi j) (zi n) m) (sp_copy r i d j n) := by
  rintro ⟨t, rr, k, f⟩ m hO hC
  have hT := hS.1
  have hO1 : OT t := hO.1
  have hC1 : CS m t := hC.1
  unfold sp_copy
  dsimp only
  by_cases h1 : 0 ≤ r ∧ r ≤ 5
  · by_cases h2 : 0 ≤ d ∧ d ≤ 5
    · rw [if_pos ⟨h1, h2⟩]
      obtain ⟨s, rfl⟩ : ∃ s : Nat, r = s := ⟨r.toNat, by omega⟩
      obtain ⟨e, rfl⟩ : ∃ e : Nat, d = e := ⟨d.toNat, by omega⟩
      rw [Int.toNat_natCast, Int.toNat_natCast]
      have hz := OT_r hO1 (s := s) (by omega)
      have hy := OT_r hO1 (s := e) (by omega)
      by_cases h3 : 0 ≤ n
      · rw [if_pos h3]
        by_cases hn : t.1 s = -9
        · rw [if_pos (Or.inl hn)]
          have u := CS_no hC1 (s := s) (by omega) hn
          refine ⟨rfC m 1, ?_, CC_rf hC, fun b _ _ => ⟨rfC_o (by omega) (by omega), rfl⟩⟩
          unfold E_X8_copy
          simp (disch := omega) only [zi_f, zi_0, zi_1, zi_31, zi_all, zi_8, zi_16, zi_add, zi_sub, zi_mul, zi_neg, zi_lt, zi_le, zi_eq, zi_div, zi_t, zi_n, xb_I, xb_J, xb_V, xb_s, if_pos, if_neg, if_true, if_false, true_and, and_true, true_or, or_true, false_or, or_false, not_true, not_false_iff, zb_z, zb_o, zb_ft, tn_0, tn_1, tn_2, tn_3, tn_c, Int.reduceToNat, te_0, te_1, tk_0, tk_1, tk_m, ts_1, or_0, bp_f, sT_t0 hT, sT_t1 hT, sT_t2 hT, sT_t3 hT, sT_t4 hT, sT_t5 hT, sT_t6 hT, sT_t7 hT, sT_t8 hT, sT_t9 hT, sT_t10 hT, sT_a1 hT, sT_a2 hT, sT_a3 hT, sT_a4 hT, sT_b1 hT, sT_b2 hT, sT_b3 hT, sT_b4 hT, sT_d1 hT, sT_d2 hT, sT_d3 hT, sT_e1 hT, sT_e2 hT, sT_e3 hT, sT_e4 hT, sT_e5 hT, C_wt, C_wf, C_r1 hT, C_r2 hT, C_r3 hT, C_r4 hT, C_r5 hT, C_an hT, u]
          rfl
        · have u := CS_yes hC1 (s := s) (by omega) hn
          by_cases hm : t.1 e = -9
          · rw [if_pos (Or.inr hm)]
            have v := CS_no hC1 (s := e) (by omega) hm
            refine ⟨rfC m 1, ?_, CC_rf hC, fun b _ _ => ⟨rfC_o (by omega) (by omega), rfl⟩⟩
            unfold E_X8_copy
            simp (disch := omega) only [zi_f, zi_0, zi_1, zi_31, zi_all, zi_8, zi_16, zi_add, zi_sub, zi_mul, zi_neg, zi_lt, zi_le, zi_eq, zi_div, zi_t, zi_n, xb_I, xb_J, xb_V, xb_s, if_pos, if_neg, if_true, if_false, true_and, and_true, true_or, or_true, false_or, or_false, not_true, not_false_iff, zb_z, zb_o, zb_ft, tn_0, tn_1, tn_2, tn_3, tn_c, Int.reduceToNat, te_0, te_1, tk_0, tk_1, tk_m, ts_1, or_0, bp_f, sT_t0 hT, sT_t1 hT, sT_t2 hT, sT_t3 hT, sT_t4 hT, sT_t5 hT, sT_t6 hT, sT_t7 hT, sT_t8 hT, sT_t9 hT, sT_t10 hT, sT_a1 hT, sT_a2 hT, sT_a3 hT, sT_a4 hT, sT_b1 hT, sT_b2 hT, sT_b3 hT, sT_b4 hT, sT_d1 hT, sT_d2 hT, sT_d3 hT, sT_e1 hT, sT_e2 hT, sT_e3 hT, sT_e4 hT, sT_e5 hT, C_wt, C_wf, C_r1 hT, C_r2 hT, C_r3 hT, C_r4 hT, C_r5 hT, C_an hT, u.1, v]
            rfl
          · rw [if_neg (by omega)]
            have v := CS_yes hC1 (s := e) (by omega) hm
            have hh := C_hold (m := m) hT (s := s) (by omega) u.2 (by omega) i1 i2 n1 n2
            have hg := C_hold (m := m) hT (s := e) (by omega) v.2 (by omega) j1 j2 n1 n2
            by_cases p1 : 0 ≤ i ∧ i ≤ t.1 s ∧ n ≤ t.1 s - i
            · rw [decide_eq_true p1, zb_t] at hh
              by_cases p2 : 0 ≤ j ∧ j ≤ t.1 e ∧ n ≤ t.1 e - j
              · rw [decide_eq_true p2, zb_t] at hg
                rw [if_pos ⟨p1, p2⟩]
                have ha := C_acopy (S := S) (m := m) (sT_e3 hT s (by omega)) (sT_e3 hT e (by omega)) (sT_e4 hT s (by omega)) (sT_e4 hT e (by omega)) (sp := i) (dp := j) (n := n) (by omega) (by omega) h3 (by omega) (by omega) (by omega) (by omega)
                refine ⟨cpM m (40 + s) (40 + e) i.toNat j.toNat n.toNat, ?_, CC_cp hC (by omega) (by omega) (by omega) (by omega), fun b _ _ => ⟨cp_o (by omega), rfl⟩⟩
                unfold E_X8_copy
                simp (disch := omega) only [zi_f, zi_0, zi_1, zi_31, zi_all, zi_8, zi_16, zi_add, zi_sub, zi_mul, zi_neg, zi_lt, zi_le, zi_eq, zi_div, zi_t, zi_n, xb_I, xb_J, xb_V, xb_s, if_pos, if_neg, if_true, if_false, true_and, and_true, true_or, or_true, false_or, or_false, not_true, not_false_iff, zb_z, zb_o, zb_ft, tn_0, tn_1, tn_2, tn_3, tn_c, Int.reduceToNat, te_0, te_1, tk_0, tk_1, tk_m, ts_1, or_0, bp_f, sT_t0 hT, sT_t1 hT, sT_t2 hT, sT_t3 hT, sT_t4 hT, sT_t5 hT, sT_t6 hT, sT_t7 hT, sT_t8 hT, sT_t9 hT, sT_t10 hT, sT_a1 hT, sT_a2 hT, sT_a3 hT, sT_a4 hT, sT_b1 hT, sT_b2 hT, sT_b3 hT, sT_b4 hT, sT_d1 hT, sT_d2 hT, sT_d3 hT, sT_e1 hT, sT_e2 hT, sT_e3 hT, sT_e4 hT, sT_e5 hT, C_wt, C_wf, C_r1 hT, C_r2 hT, C_r3 hT, C_r4 hT, C_r5 hT, C_an hT, u.1, v.1, hh, hg, ha]
                rfl
              · rw [decide_eq_false p2, zb_f] at hg
                rw [if_neg (fun q => p2 q.2)]
                refine ⟨rfC m 2, ?_, CC_rf hC, fun b _ _ => ⟨rfC_o (by omega) (by omega), rfl⟩⟩
                unfold E_X8_copy
                simp (disch := omega) only [zi_f, zi_0, zi_1, zi_31, zi_all, zi_8, zi_16, zi_add, zi_sub, zi_mul, zi_neg, zi_lt, zi_le, zi_eq, zi_div, zi_t, zi_n, xb_I, xb_J, xb_V, xb_s, if_pos, if_neg, if_true, if_false, true_and, and_true, true_or, or_true, false_or, or_false, not_true, not_false_iff, zb_z, zb_o, zb_ft, tn_0, tn_1, tn_2, tn_3, tn_c, Int.reduceToNat, te_0, te_1, tk_0, tk_1, tk_m, ts_1, or_0, bp_f, sT_t0 hT, sT_t1 hT, sT_t2 hT, sT_t3 hT, sT_t4 hT, sT_t5 hT, sT_t6 hT, sT_t7 hT, sT_t8 hT, sT_t9 hT, sT_t10 hT, sT_a1 hT, sT_a2 hT, sT_a3 hT, sT_a4 hT, sT_b1 hT, sT_b2 hT, sT_b3 hT, sT_b4 hT, sT_d1 hT, sT_d2 hT, sT_d3 hT, sT_e1 hT, sT_e2 hT, sT_e3 hT, sT_e4 hT, sT_e5 hT, C_wt, C_wf, C_r1 hT, C_r2 hT, C_r3 hT, C_r4 hT, C_r5 hT, C_an hT, u.1, v.1, hh, hg]
                rfl
            · rw [decide_eq_false p1, zb_f] at hh
              rw [if_neg (fun q => p1 q.1)]
              refine ⟨rfC m 2, ?_, CC_rf hC, fun b _ _ => ⟨rfC_o (by omega) (by omega), rfl⟩⟩
              unfold E_X8_copy
              simp (disch := omega) only [zi_f, zi_0, zi_1, zi_31, zi_all, zi_8, zi_16, zi_add, zi_sub, zi_mul, zi_neg, zi_lt, zi_le, zi_eq, zi_div, zi_t, zi_n, xb_I, xb_J, xb_V, xb_s, if_pos, if_neg, if_true, if_false, true_and, and_true, true_or, or_true, false_or, or_false, not_true, not_false_iff, zb_z, zb_o, zb_ft, tn_0, tn_1, tn_2, tn_3, tn_c, Int.reduceToNat, te_0, te_1, tk_0, tk_1, tk_m, ts_1, or_0, bp_f, sT_t0 hT, sT_t1 hT, sT_t2 hT, sT_t3 hT, sT_t4 hT, sT_t5 hT, sT_t6 hT, sT_t7 hT, sT_t8 hT, sT_t9 hT, sT_t10 hT, sT_a1 hT, sT_a2 hT, sT_a3 hT, sT_a4 hT, sT_b1 hT, sT_b2 hT, sT_b3 hT, sT_b4 hT, sT_d1 hT, sT_d2 hT, sT_d3 hT, sT_e1 hT, sT_e2 hT, sT_e3 hT, sT_e4 hT, sT_e5 hT, C_wt, C_wf, C_r1 hT, C_r2 hT, C_r3 hT, C_r4 hT, C_r5 hT, C_an hT, u.1, v.1, hh]
              rfl
      · rw [if_neg h3]
        refine ⟨rfC m 5, ?_, CC_rf hC, fun b _ _ => ⟨rfC_o (by omega) (by omega), rfl⟩⟩
        unfold E_X8_copy
        simp (disch := omega) only [zi_f, zi_0, zi_1, zi_31, zi_all, zi_8, zi_16, zi_add, zi_sub, zi_mul, zi_neg, zi_lt, zi_le, zi_eq, zi_div, zi_t, zi_n, xb_I, xb_J, xb_V, xb_s, if_pos, if_neg, if_true, if_false, true_and, and_true, true_or, or_true, false_or, or_false, not_true, not_false_iff, zb_z, zb_o, zb_ft, tn_0, tn_1, tn_2, tn_3, tn_c, Int.reduceToNat, te_0, te_1, tk_0, tk_1, tk_m, ts_1, or_0, bp_f, sT_t0 hT, sT_t1 hT, sT_t2 hT, sT_t3 hT, sT_t4 hT, sT_t5 hT, sT_t6 hT, sT_t7 hT, sT_t8 hT, sT_t9 hT, sT_t10 hT, sT_a1 hT, sT_a2 hT, sT_a3 hT, sT_a4 hT, sT_b1 hT, sT_b2 hT, sT_b3 hT, sT_b4 hT, sT_d1 hT, sT_d2 hT, sT_d3 hT, sT_e1 hT, sT_e2 hT, sT_e3 hT, sT_e4 hT, sT_e5 hT, C_wt, C_wf, C_r1 hT, C_r2 hT, C_r3 hT, C_r4 hT, C_r5 hT, C_an hT]
        rfl
    · rw [if_neg (fun q => h2 q.2)]
      refine ⟨m, ?_, hC, fun b _ _ => Cself⟩
      exact bI_of (C_wt h1.1 h1.2 (by omega)) ((if_neg (show ¬ zi 1 = 0 by decide)).trans (bI_of (C_wf h2 d1 d2 (by omega) (by omega)) (if_pos (show zi 0 = 0 from rfl))))
  · rw [if_neg (fun q => h1 q.1)]
    refine ⟨m, ?_, hC, fun b _ _ => Cself⟩
    exact bI_of (C_wf h1 r1 r2 (by omega) (by omega)) (if_pos (show zi 0 = 0 from rfl))
set_option maxHeartbeats 8000000 in
theorem m_copy (hS : Sh S) (r : Int) (r1 : -2147483648 ≤ r) (r2 : r < 2147483648) (i : Int) (i1 : -2147483648 ≤ i) (i2 : i < 2147483648) (d : Int) (d1 : -2147483648 ≤ d) (d2 : d < 2147483648) (j : Int) (j1 : -2147483648 ≤ j) (j2 : j < 2147483648) (n : Int) (n1 : -2147483648 ≤ n) (n2 : n < 2147483648)  : Mim S (fun m => E_X9_copy S 15 (zi r) (zi i) (zi d) (zi j) (zi n) m) (sp_copy r i d j n) := by
  rintro ⟨t, rr, k, f⟩ m hO hC
  have hX := hS.2.2.1
  have hO1 : OT t := hO.1
  have hC1 : MS m t := hC.1
  unfold sp_copy
  dsimp only
  by_cases h1 : 0 ≤ r ∧ r ≤ 5
  · by_cases h2 : 0 ≤ d ∧ d ≤ 5
    · rw [if_pos ⟨h1, h2⟩]
      obtain ⟨s, rfl⟩ : ∃ s : Nat, r = s := ⟨r.toNat, by omega⟩
      obtain ⟨e, rfl⟩ : ∃ e : Nat, d = e := ⟨d.toNat, by omega⟩
      rw [Int.toNat_natCast, Int.toNat_natCast]
      have hz := OT_r hO1 (s := s) (by omega)
      have hy := OT_r hO1 (s := e) (by omega)
      by_cases h3 : 0 ≤ n
      · rw [if_pos h3]
        obtain ⟨u1, u2⟩ := hC1.1 s (by omega)
        obtain ⟨v1, v2⟩ := hC1.1 e (by omega)
        by_cases hn : t.1 s = -9
        · rw [if_pos (Or.inl hn)]
          refine ⟨rfM m 1, ?_, MM_rf hC, fun b hb => ⟨rfM_o (by omega) (by omega), rfl⟩⟩
          unfold E_X9_copy
          simp (disch := omega) only [zi_f, zi_0, zi_1, zi_31, zi_all, zi_8, zi_16, zi_add, zi_sub, zi_mul, zi_neg, zi_lt, zi_le, zi_eq, zi_div, zi_t, zi_n, xb_I, xb_J, xb_V, xb_s, if_pos, if_neg, if_true, if_false, true_and, and_true, true_or, or_true, false_or, or_false, not_true, not_false_iff, zb_z, zb_o, zb_ft, tn_0, tn_1, tn_2, tn_3, tn_c, Int.reduceToNat, te_0, te_1, tk_0, tk_1, tk_m, ts_1, or_0, bp_f, sX_x0 hX, sX_xr0 hX, sX_xr1 hX, sX_xr2 hX, sX_xr3 hX, sX_xr4 hX, sX_xr5 hX, sX_xr6 hX, sX_xr7 hX, sX_xr8 hX, sX_xr9 hX, sX_xr10 hX, sX_xr11 hX, sX_xr12 hX, sX_xr13 hX, sX_xk0 hX, sX_xk1 hX, sX_xk2 hX, sX_xk3 hX, sX_xk4 hX, sX_xk5 hX, sX_xk6 hX, sX_xk7 hX, sX_xk8 hX, sX_xk9 hX, sX_xk10 hX, sX_xk11 hX, sX_xk12 hX, sX_xk13 hX, sX_xl0 hX, sX_xl1 hX, sX_xl2 hX, sX_xl3 hX, sX_xl4 hX, sX_xl5 hX, sX_xl6 hX, sX_xl7 hX, sX_xl8 hX, sX_xl9 hX, sX_xl10 hX, sX_xl11 hX, sX_xl12 hX, sX_xl13 hX, M_it, M_if, M_rt, M_rf, M_tt, M_tf, M_r1 hX, M_r2 hX, M_r3 hX, M_r4 hX, M_r5 hX, M_an hX, u1]
          rfl
        · by_cases hm : t.1 e = -9
          · rw [if_pos (Or.inr hm)]
            refine ⟨rfM m 1, ?_, MM_rf hC, fun b hb => ⟨rfM_o (by omega) (by omega), rfl⟩⟩
            unfold E_X9_copy
            simp (disch := omega) only [zi_f, zi_0, zi_1, zi_31, zi_all, zi_8, zi_16, zi_add, zi_sub, zi_mul, zi_neg, zi_lt, zi_le, zi_eq, zi_div, zi_t, zi_n, xb_I, xb_J, xb_V, xb_s, if_pos, if_neg, if_true, if_false, true_and, and_true, true_or, or_true, false_or, or_false, not_true, not_false_iff, zb_z, zb_o, zb_ft, tn_0, tn_1, tn_2, tn_3, tn_c, Int.reduceToNat, te_0, te_1, tk_0, tk_1, tk_m, ts_1, or_0, bp_f, sX_x0 hX, sX_xr0 hX, sX_xr1 hX, sX_xr2 hX, sX_xr3 hX, sX_xr4 hX, sX_xr5 hX, sX_xr6 hX, sX_xr7 hX, sX_xr8 hX, sX_xr9 hX, sX_xr10 hX, sX_xr11 hX, sX_xr12 hX, sX_xr13 hX, sX_xk0 hX, sX_xk1 hX, sX_xk2 hX, sX_xk3 hX, sX_xk4 hX, sX_xk5 hX, sX_xk6 hX, sX_xk7 hX, sX_xk8 hX, sX_xk9 hX, sX_xk10 hX, sX_xk11 hX, sX_xk12 hX, sX_xk13 hX, sX_xl0 hX, sX_xl1 hX, sX_xl2 hX, sX_xl3 hX, sX_xl4 hX, sX_xl5 hX, sX_xl6 hX, sX_xl7 hX, sX_xl8 hX, sX_xl9 hX, sX_xl10 hX, sX_xl11 hX, sX_xl12 hX, sX_xl13 hX, M_it, M_if, M_rt, M_rf, M_tt, M_tf, M_r1 hX, M_r2 hX, M_r3 hX, M_r4 hX, M_r5 hX, M_an hX, u1, v1]
            rfl
          · rw [if_neg (by omega)]
            have hh := M_hasPart (m := m) hX (s := s) (by omega) u1 (by omega) i1 i2 n1 n2
            have hg := M_hasPart (m := m) hX (s := e) (by omega) v1 (by omega) j1 j2 n1 n2
            by_cases p1 : 0 ≤ i ∧ i ≤ t.1 s ∧ n ≤ t.1 s - i
            · rw [decide_eq_true p1, zb_t] at hh
              by_cases p2 : 0 ≤ j ∧ j ≤ t.1 e ∧ n ≤ t.1 e - j
              · rw [decide_eq_true p2, zb_t] at hg
                rw [if_pos ⟨p1, p2⟩]
                refine ⟨cpX m s i.toNat e j.toNat n.toNat, ?_, MM_cp hC (by omega) (by omega) (by omega) (by omega), fun b hb => ⟨by rw [cpX, wr_o (by omega), wr_o (by omega)], by rw [cpX, wr_l, wr_l]⟩⟩
                obtain ⟨a, rfl⟩ : ∃ a : Nat, n = a := ⟨n.toNat, by omega⟩
                obtain ⟨x, rfl⟩ : ∃ x : Nat, i = x := ⟨i.toNat, by omega⟩
                obtain ⟨y, rfl⟩ : ∃ y : Nat, j = y := ⟨j.toNat, by omega⟩
                rw [Int.toNat_natCast, Int.toNat_natCast, Int.toNat_natCast]
                unfold E_X9_copy
                simp (disch := omega) only [zi_f, zi_0, zi_1, zi_31, zi_all, zi_8, zi_16, zi_add, zi_sub, zi_mul, zi_neg, zi_lt, zi_le, zi_eq, zi_div, zi_t, zi_n, xb_I, xb_J, xb_V, xb_s, if_pos, if_neg, if_true, if_false, true_and, and_true, true_or, or_true, false_or, or_false, not_true, not_false_iff, zb_z, zb_o, zb_ft, tn_0, tn_1, tn_2, tn_3, tn_c, Int.reduceToNat, te_0, te_1, tk_0, tk_1, tk_m, ts_1, or_0, bp_f, sX_x0 hX, sX_xr0 hX, sX_xr1 hX, sX_xr2 hX, sX_xr3 hX, sX_xr4 hX, sX_xr5 hX, sX_xr6 hX, sX_xr7 hX, sX_xr8 hX, sX_xr9 hX, sX_xr10 hX, sX_xr11 hX, sX_xr12 hX, sX_xr13 hX, sX_xk0 hX, sX_xk1 hX, sX_xk2 hX, sX_xk3 hX, sX_xk4 hX, sX_xk5 hX, sX_xk6 hX, sX_xk7 hX, sX_xk8 hX, sX_xk9 hX, sX_xk10 hX, sX_xk11 hX, sX_xk12 hX, sX_xk13 hX, sX_xl0 hX, sX_xl1 hX, sX_xl2 hX, sX_xl3 hX, sX_xl4 hX, sX_xl5 hX, sX_xl6 hX, sX_xl7 hX, sX_xl8 hX, sX_xl9 hX, sX_xl10 hX, sX_xl11 hX, sX_xl12 hX, sX_xl13 hX, M_rt, u1, v1, hh, hg]
                refine lp_all (fun q z => G_X9_copy_87 S q 15 (zi s) (zi x) (zi e) (zi y) (zi a) (zi z) (wrM m 20 0 (fun k => m.1 17 (40 * s + x + k)) z)) a 10000 (fun z q hj => ?_) (fun q => ?_) (by omega)
                · have e1 : (40 * (s : Int) + (x : Int) + (z : Int)).toNat = 40 * s + x + z := by omega
                  simp only [G_X9_copy_87]
                  simp (disch := omega) only [zi_f, zi_0, zi_1, zi_31, zi_all, zi_8, zi_16, zi_add, zi_sub, zi_mul, zi_neg, zi_lt, zi_le, zi_eq, zi_div, zi_t, zi_n, xb_I, xb_J, xb_V, xb_s, if_pos, if_neg, if_true, if_false, true_and, and_true, true_or, or_true, false_or, or_false, not_true, not_false_iff, zb_z, zb_o, zb_ft, tn_0, tn_1, tn_2, tn_3, tn_c, Int.reduceToNat, te_0, te_1, tk_0, tk_1, tk_m, ts_1, or_0, bp_f, sX_x0 hX, sX_xr0 hX, sX_xr1 hX, sX_xr2 hX, sX_xr3 hX, sX_xr4 hX, sX_xr5 hX, sX_xr6 hX, sX_xr7 hX, sX_xr8 hX, sX_xr9 hX, sX_xr10 hX, sX_xr11 hX, sX_xr12 hX, sX_xr13 hX, sX_xk0 hX, sX_xk1 hX, sX_xk2 hX, sX_xk3 hX, sX_xk4 hX, sX_xk5 hX, sX_xk6 hX, sX_xk7 hX, sX_xk8 hX, sX_xk9 hX, sX_xk10 hX, sX_xk11 hX, sX_xk12 hX, sX_xk13 hX, sX_xl0 hX, sX_xl1 hX, sX_xl2 hX, sX_xl3 hX, sX_xl4 hX, sX_xl5 hX, sX_xl6 hX, sX_xl7 hX, sX_xl8 hX, sX_xl9 hX, sX_xl10 hX, sX_xl11 hX, sX_xl12 hX, sX_xl13 hX, wr_s, e1, wr_o, Nat.zero_add]
                · simp only [G_X9_copy_87]
                  simp (disch := omega) only [zi_f, zi_0, zi_1, zi_31, zi_all, zi_8, zi_16, zi_add, zi_sub, zi_mul, zi_neg, zi_lt, zi_le, zi_eq, zi_div, zi_t, zi_n, xb_I, xb_J, xb_V, xb_s, if_pos, if_neg, if_true, if_false, true_and, and_true, true_or, or_true, false_or, or_false, not_true, not_false_iff, zb_z, zb_o, zb_ft, tn_0, tn_1, tn_2, tn_3, tn_c, Int.reduceToNat, te_0, te_1, tk_0, tk_1, tk_m, ts_1, or_0, bp_f]
                  refine lp_all (fun q z => G_X9_copy_124 S q 15 (zi e) (zi y) (zi a) (zi z) (wrM (wrM m 20 0 (fun k => m.1 17 (40 * s + x + k)) a) 17 (40 * e + y) (fun k => m.1 17 (40 * s + x + k)) z)) a 10000 (fun z q hj => ?_) (fun q => ?_) (by omega)
                  · have e1 : (40 * (e : Int) + (y : Int) + (z : Int)).toNat = 40 * e + y + z := by omega
                    have e2 : (wrM m 20 0 (fun k => m.1 17 (40 * s + x + k)) a).1 20 z = m.1 17 (40 * s + x + z) := by rw [wr_if, if_pos (by omega)]; rfl
                    simp only [G_X9_copy_124]
                    simp (disch := omega) only [zi_f, zi_0, zi_1, zi_31, zi_all, zi_8, zi_16, zi_add, zi_sub, zi_mul, zi_neg, zi_lt, zi_le, zi_eq, zi_div, zi_t, zi_n, xb_I, xb_J, xb_V, xb_s, if_pos, if_neg, if_true, if_false, true_and, and_true, true_or, or_true, false_or, or_false, not_true, not_false_iff, zb_z, zb_o, zb_ft, tn_0, tn_1, tn_2, tn_3, tn_c, Int.reduceToNat, te_0, te_1, tk_0, tk_1, tk_m, ts_1, or_0, bp_f, sX_x0 hX, sX_xr0 hX, sX_xr1 hX, sX_xr2 hX, sX_xr3 hX, sX_xr4 hX, sX_xr5 hX, sX_xr6 hX, sX_xr7 hX, sX_xr8 hX, sX_xr9 hX, sX_xr10 hX, sX_xr11 hX, sX_xr12 hX, sX_xr13 hX, sX_xk0 hX, sX_xk1 hX, sX_xk2 hX, sX_xk3 hX, sX_xk4 hX, sX_xk5 hX, sX_xk6 hX, sX_xk7 hX, sX_xk8 hX, sX_xk9 hX, sX_xk10 hX, sX_xk11 hX, sX_xk12 hX, sX_xk13 hX, sX_xl0 hX, sX_xl1 hX, sX_xl2 hX, sX_xl3 hX, sX_xl4 hX, sX_xl5 hX, sX_xl6 hX, sX_xl7 hX, sX_xl8 hX, sX_xl9 hX, sX_xl10 hX, sX_xl11 hX, sX_xl12 hX, sX_xl13 hX, wr_s, e1, wr_o, e2]
                  · simp only [G_X9_copy_124]
                    simp (disch := omega) only [zi_f, zi_0, zi_1, zi_31, zi_all, zi_8, zi_16, zi_add, zi_sub, zi_mul, zi_neg, zi_lt, zi_le, zi_eq, zi_div, zi_t, zi_n, xb_I, xb_J, xb_V, xb_s, if_pos, if_neg, if_true, if_false, true_and, and_true, true_or, or_true, false_or, or_false, not_true, not_false_iff, zb_z, zb_o, zb_ft, tn_0, tn_1, tn_2, tn_3, tn_c, Int.reduceToNat, te_0, te_1, tk_0, tk_1, tk_m, ts_1, or_0, bp_f]
                    rfl
              · rw [decide_eq_false p2, zb_f] at hg
                rw [if_neg (fun q => p2 q.2)]
                refine ⟨rfM m 2, ?_, MM_rf hC, fun b hb => ⟨rfM_o (by omega) (by omega), rfl⟩⟩
                unfold E_X9_copy
                simp (disch := omega) only [zi_f, zi_0, zi_1, zi_31, zi_all, zi_8, zi_16, zi_add, zi_sub, zi_mul, zi_neg, zi_lt, zi_le, zi_eq, zi_div, zi_t, zi_n, xb_I, xb_J, xb_V, xb_s, if_pos, if_neg, if_true, if_false, true_and, and_true, true_or, or_true, false_or, or_false, not_true, not_false_iff, zb_z, zb_o, zb_ft, tn_0, tn_1, tn_2, tn_3, tn_c, Int.reduceToNat, te_0, te_1, tk_0, tk_1, tk_m, ts_1, or_0, bp_f, sX_x0 hX, sX_xr0 hX, sX_xr1 hX, sX_xr2 hX, sX_xr3 hX, sX_xr4 hX, sX_xr5 hX, sX_xr6 hX, sX_xr7 hX, sX_xr8 hX, sX_xr9 hX, sX_xr10 hX, sX_xr11 hX, sX_xr12 hX, sX_xr13 hX, sX_xk0 hX, sX_xk1 hX, sX_xk2 hX, sX_xk3 hX, sX_xk4 hX, sX_xk5 hX, sX_xk6 hX, sX_xk7 hX, sX_xk8 hX, sX_xk9 hX, sX_xk10 hX, sX_xk11 hX, sX_xk12 hX, sX_xk13 hX, sX_xl0 hX, sX_xl1 hX, sX_xl2 hX, sX_xl3 hX, sX_xl4 hX, sX_xl5 hX, sX_xl6 hX, sX_xl7 hX, sX_xl8 hX, sX_xl9 hX, sX_xl10 hX, sX_xl11 hX, sX_xl12 hX, sX_xl13 hX, M_it, M_if, M_rt, M_rf, M_tt, M_tf, M_r1 hX, M_r2 hX, M_r3 hX, M_r4 hX, M_r5 hX, M_an hX, u1, v1, hh, hg]
                rfl
            · rw [decide_eq_false p1, zb_f] at hh
              rw [if_neg (fun q => p1 q.1)]
              refine ⟨rfM m 2, ?_, MM_rf hC, fun b hb => ⟨rfM_o (by omega) (by omega), rfl⟩⟩
              unfold E_X9_copy
              simp (disch := omega) only [zi_f, zi_0, zi_1, zi_31, zi_all, zi_8, zi_16, zi_add, zi_sub, zi_mul, zi_neg, zi_lt, zi_le, zi_eq, zi_div, zi_t, zi_n, xb_I, xb_J, xb_V, xb_s, if_pos, if_neg, if_true, if_false, true_and, and_true, true_or, or_true, false_or, or_false, not_true, not_false_iff, zb_z, zb_o, zb_ft, tn_0, tn_1, tn_2, tn_3, tn_c, Int.reduceToNat, te_0, te_1, tk_0, tk_1, tk_m, ts_1, or_0, bp_f, sX_x0 hX, sX_xr0 hX, sX_xr1 hX, sX_xr2 hX, sX_xr3 hX, sX_xr4 hX, sX_xr5 hX, sX_xr6 hX, sX_xr7 hX, sX_xr8 hX, sX_xr9 hX, sX_xr10 hX, sX_xr11 hX, sX_xr12 hX, sX_xr13 hX, sX_xk0 hX, sX_xk1 hX, sX_xk2 hX, sX_xk3 hX, sX_xk4 hX, sX_xk5 hX, sX_xk6 hX, sX_xk7 hX, sX_xk8 hX, sX_xk9 hX, sX_xk10 hX, sX_xk11 hX, sX_xk12 hX, sX_xk13 hX, sX_xl0 hX, sX_xl1 hX, sX_xl2 hX, sX_xl3 hX, sX_xl4 hX, sX_xl5 hX, sX_xl6 hX, sX_xl7 hX, sX_xl8 hX, sX_xl9 hX, sX_xl10 hX, sX_xl11 hX, sX_xl12 hX, sX_xl13 hX, M_it, M_if, M_rt, M_rf, M_tt, M_tf, M_r1 hX, M_r2 hX, M_r3 hX, M_r4 hX, M_r5 hX, M_an hX, u1, v1, hh]
              rfl
      · rw [if_neg h3]
        refine ⟨rfM m 5, ?_, MM_rf hC, fun b hb => ⟨rfM_o (by omega) (by omega), rfl⟩⟩
        unfold E_X9_copy
        simp (disch := omega) only [zi_f, zi_0, zi_1, zi_31, zi_all, zi_8, zi_16, zi_add, zi_sub, zi_mul, zi_neg, zi_lt, zi_le, zi_eq, zi_div, zi_t, zi_n, xb_I, xb_J, xb_V, xb_s, if_pos, if_neg, if_true, if_false, true_and, and_true, true_or, or_true, false_or, or_false, not_true, not_false_iff, zb_z, zb_o, zb_ft, tn_0, tn_1, tn_2, tn_3, tn_c, Int.reduceToNat, te_0, te_1, tk_0, tk_1, tk_m, ts_1, or_0, bp_f, sX_x0 hX, sX_xr0 hX, sX_xr1 hX, sX_xr2 hX, sX_xr3 hX, sX_xr4 hX, sX_xr5 hX, sX_xr6 hX, sX_xr7 hX, sX_xr8 hX, sX_xr9 hX, sX_xr10 hX, sX_xr11 hX, sX_xr12 hX, sX_xr13 hX, sX_xk0 hX, sX_xk1 hX, sX_xk2 hX, sX_xk3 hX, sX_xk4 hX, sX_xk5 hX, sX_xk6 hX, sX_xk7 hX, sX_xk8 hX, sX_xk9 hX, sX_xk10 hX, sX_xk11 hX, sX_xk12 hX, sX_xk13 hX, sX_xl0 hX, sX_xl1 hX, sX_xl2 hX, sX_xl3 hX, sX_xl4 hX, sX_xl5 hX, sX_xl6 hX, sX_xl7 hX, sX_xl8 hX, sX_xl9 hX, sX_xl10 hX, sX_xl11 hX, sX_xl12 hX, sX_xl13 hX, M_it, M_if, M_rt, M_rf, M_tt, M_tf, M_r1 hX, M_r2 hX, M_r3 hX, M_r4 hX, M_r5 hX, M_an hX]
        rfl
    · rw [if_neg (fun q => h2 q.2)]
      refine ⟨m, ?_, hC, fun b _ => Cself⟩
      exact bI_of (M_rt h1.1 h1.2) ((if_neg (show ¬ zi 1 = 0 by decide)).trans (bI_of (M_rf h2 d1 d2) (if_pos (show zi 0 = 0 from rfl))))
  · rw [if_neg (fun q => h1 q.1)]
    refine ⟨m, ?_, hC, fun b _ => Cself⟩
    exact bI_of (M_rf h1 r1 r2) (if_pos (show zi 0 = 0 from rfl))
theorem o_copy (r i d j n : Int) : ∀ q, OK q → OK (sp_copy r i d j n q).2 := by
  intro q h
  unfold sp_copy
  repeat' split
  · exact h
  · refine ⟨⟨h.1.1, fun u hu k hk => ?_⟩, h.2⟩
    rw [show (cpT q.1 r.toNat i.toNat d.toNat j.toNat n.toNat).2 (6 + u) = q.1.2 (6 + u) from if_neg (by omega)]
    exact h.1.2 u hu k hk
  · exact h
  · exact h
  · exact h
end
