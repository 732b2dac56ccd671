/-! Rows and texts, further. -/
def rfQ (j : Nat) (q : Sg) : Sg := (q.1, q.2.1, q.2.2.1, rfS j q.2.2.2)
def anQ (v : Int32) (q : Sg) : Sg := (q.1, q.2.1, q.2.2.1, anS v q.2.2.2)
def tlQ (u l : Int64) (q : Sg) : Sg := (q.1, q.2.1, q.2.2.1, tlS u l q.2.2.2)
theorem CS_no {m : xi_M} {t : TT} (h : CS m t) {s : Nat} (hs : s < 10) (hz : t.1 s = -9) : m.1 (30 + s) 0 = zi 0 := by rw [(h s hs).1, decide_eq_false (by omega)]; rfl
theorem CS_yes {m : xi_M} {t : TT} (h : CS m t) {s : Nat} (hs : s < 10) (hz : ¬ t.1 s = -9) : m.1 (30 + s) 0 = zi 1 ∧ m.1 (30 + s) 1 = zi (t.1 s) := ⟨by rw [(h s hs).1, decide_eq_true hz]; rfl, (h s hs).2.1 hz⟩
theorem CS_it {m : xi_M} {t : TT} (h : CS m t) {s : Nat} (hs : s < 6) : ∀ k, k < 40 → m.1 (40 + s) k = t.2 s k := fun k hk => (h s (by omega)).2.2 k (by rw [lenS, if_pos hs]; exact hk)
theorem CS_ix {m : xi_M} {t : TT} (h : CS m t) {s : Nat} (hs : s < 4) : ∀ k, k < 60 → m.1 (40 + (6 + s)) k = t.2 (6 + s) k := fun k hk => (h (6 + s) (by omega)).2.2 k (by rw [lenS, if_neg (by omega)]; exact hk)
theorem OT_r {t : TT} (h : OT t) {s : Nat} (hs : s < 6) : t.1 s = -9 ∨ (0 ≤ t.1 s ∧ t.1 s ≤ 40) := by
  have := h.1 s (by omega)
  rwa [lenS, if_pos hs] at this
theorem OT_t {t : TT} (h : OT t) {s : Nat} (hs : s < 4) : t.1 (6 + s) = -9 ∨ (0 ≤ t.1 (6 + s) ∧ t.1 (6 + s) ≤ 60) := by
  have := h.1 (6 + s) (by omega)
  rwa [lenS, if_neg (by omega)] at this
section
variable {S : xi_S}
theorem C_r1 (hT : ShT S) (m : xi_M) : E_X8_refuse S 0 (zi 1) m = some (some (.int (zi (-3))), rfC m 1) := C_refuse hT (j := 1) (by omega)
theorem M_r1 (hX : ShX S) (m : xi_M) : E_X9_found S 15 (zi 1) m = some (some (.int (zi (-3))), rfM m 1) := M_found hX (j := 1) (by omega)
theorem C_r2 (hT : ShT S) (m : xi_M) : E_X8_refuse S 0 (zi 2) m = some (some (.int (zi (-3))), rfC m 2) := C_refuse hT (j := 2) (by omega)
theorem M_r2 (hX : ShX S) (m : xi_M) : E_X9_found S 15 (zi 2) m = some (some (.int (zi (-3))), rfM m 2) := M_found hX (j := 2) (by omega)
theorem C_r3 (hT : ShT S) (m : xi_M) : E_X8_refuse S 0 (zi 3) m = some (some (.int (zi (-3))), rfC m 3) := C_refuse hT (j := 3) (by omega)
theorem M_r3 (hX : ShX S) (m : xi_M) : E_X9_found S 15 (zi 3) m = some (some (.int (zi (-3))), rfM m 3) := M_found hX (j := 3) (by omega)
theorem C_r4 (hT : ShT S) (m : xi_M) : E_X8_refuse S 0 (zi 4) m = some (some (.int (zi (-3))), rfC m 4) := C_refuse hT (j := 4) (by omega)
theorem M_r4 (hX : ShX S) (m : xi_M) : E_X9_found S 15 (zi 4) m = some (some (.int (zi (-3))), rfM m 4) := M_found hX (j := 4) (by omega)
theorem C_r5 (hT : ShT S) (m : xi_M) : E_X8_refuse S 0 (zi 5) m = some (some (.int (zi (-3))), rfC m 5) := C_refuse hT (j := 5) (by omega)
theorem M_r5 (hX : ShX S) (m : xi_M) : E_X9_found S 15 (zi 5) m = some (some (.int (zi (-3))), rfM m 5) := M_found hX (j := 5) (by omega)
theorem C_an (hT : ShT S) (v : Int32) (m : xi_M) : E_X8_answer S 0 v m = some (some (.int (zi 1)), xi_wI m 0 11 v) := C_answer hT v
theorem M_an (hX : ShX S) (v : Int32) (m : xi_M) : E_X9_tells S 15 v m = some (some (.int (zi 1)), xi_wI m 15 15 v) := M_tells hX v
theorem C_fa1 (hT : ShT S) {m : xi_M} {s : Nat} (hs : s < 10) (u : m.1 (30 + s) 0 = zi 0) (i : Int32) : E_X7_findingAt S (30 + s) i m = some (some (.int (zi 1)), m) := by
  unfold E_X7_findingAt
  simp (disch := omega) only [zi_f, zi_0, zi_1, zi_31, zi_all, zi_8, zi_16, zi_add, zi_sub, zi_mul, zi_neg, zi_lt, zi_le, zi_eq, zi_div, zi_t, zi_n, xb_I, xb_J, xb_V, xb_s, if_pos, if_neg, if_true, if_false, true_and, and_true, true_or, or_true, false_or, or_false, not_true, not_false_iff, zb_z, zb_o, zb_ft, tn_0, tn_1, tn_2, tn_3, tn_c, Int.reduceToNat, te_0, te_1, tk_0, tk_1, tk_m, ts_1, or_0, bp_f, sT_e1 hT, u]
theorem C_fa0 (hT : ShT S) {m : xi_M} {s : Nat} {z i : Int} (hs : s < 10) (u : m.1 (30 + s) 0 = zi 1) (u1 : m.1 (30 + s) 1 = zi z) (h0 : 0 ≤ i) (hi : i < z) (hz : z ≤ 1000) : E_X7_findingAt S (30 + s) (zi i) m = some (some (.int (zi 0)), m) := by
  unfold E_X7_findingAt
  simp (disch := omega) only [zi_f, zi_0, zi_1, zi_31, zi_all, zi_8, zi_16, zi_add, zi_sub, zi_mul, zi_neg, zi_lt, zi_le, zi_eq, zi_div, zi_t, zi_n, xb_I, xb_J, xb_V, xb_s, if_pos, if_neg, if_true, if_false, true_and, and_true, true_or, or_true, false_or, or_false, not_true, not_false_iff, zb_z, zb_o, zb_ft, tn_0, tn_1, tn_2, tn_3, tn_c, Int.reduceToNat, te_0, te_1, tk_0, tk_1, tk_m, ts_1, or_0, bp_f, sT_e1 hT, u, u1]
theorem C_fa2 (hT : ShT S) {m : xi_M} {s : Nat} {z i : Int} (hs : s < 10) (u : m.1 (30 + s) 0 = zi 1) (u1 : m.1 (30 + s) 1 = zi z) (h1 : -2147483648 ≤ i) (h2 : i < 2147483648) (hi : ¬ (0 ≤ i ∧ i < z)) (hz : 0 ≤ z ∧ z ≤ 1000) : E_X7_findingAt S (30 + s) (zi i) m = some (some (.int (zi 2)), m) := by
  unfold E_X7_findingAt
  by_cases h : i < 0
  · simp (disch := omega) only [zi_f, zi_0, zi_1, zi_31, zi_all, zi_8, zi_16, zi_add, zi_sub, zi_mul, zi_neg, zi_lt, zi_le, zi_eq, zi_div, zi_t, zi_n, xb_I, xb_J, xb_V, xb_s, if_pos, if_neg, if_true, if_false, true_and, and_true, true_or, or_true, false_or, or_false, not_true, not_false_iff, zb_z, zb_o, zb_ft, tn_0, tn_1, tn_2, tn_3, tn_c, Int.reduceToNat, te_0, te_1, tk_0, tk_1, tk_m, ts_1, or_0, bp_f, sT_e1 hT, u, u1]
  · simp (disch := omega) only [zi_f, zi_0, zi_1, zi_31, zi_all, zi_8, zi_16, zi_add, zi_sub, zi_mul, zi_neg, zi_lt, zi_le, zi_eq, zi_div, zi_t, zi_n, xb_I, xb_J, xb_V, xb_s, if_pos, if_neg, if_true, if_false, true_and, and_true, true_or, or_true, false_or, or_false, not_true, not_false_iff, zb_z, zb_o, zb_ft, tn_0, tn_1, tn_2, tn_3, tn_c, Int.reduceToNat, te_0, te_1, tk_0, tk_1, tk_m, ts_1, or_0, bp_f, sT_e1 hT, u, u1]
theorem CC_pu {m : xi_M} {t : TT} {r : RR} {k : KK} {f : FF} (h : CC m (t, r, k, f)) {s i : Nat} (hs : s < 10) {v : Int32} : CC (xi_wI m (40 + s) i v) (puT t s i v, r, k, f) := by
  refine CC_t h (fun b hb => wI_o (by omega)) rfl (fun x hx => ?_)
  obtain ⟨h1, h2, h3⟩ := h.1 x hx
  rw [wI_o (by omega)]
  refine ⟨h1, h2, fun q hq => ?_⟩
  show _ = (if x = s then fun k => if k = i then v else t.2 x k else t.2 x) q
  by_cases e : x = s
  · rw [if_pos e, mw_if]
    by_cases e2 : q = i
    · rw [if_pos (by omega), if_pos e2]
    · rw [if_neg (by omega), if_neg e2, h3 q hq]
  · rw [if_neg e, mw_ne (by omega), h3 q hq]
theorem MM_pu {m : xi_M} {t : TT} {r : RR} {k : KK} {f : FF} (h : MM m (t, r, k, f)) {s i : Nat} (hs : s < 6) (hi : i < 40) {v : Int32} : MM (xi_wI m 17 (40 * s + i) v) (puT t s i v, r, k, f) := by
  refine MM_t h (fun b hb => wI_o (by omega)) rfl ⟨fun x hx => ?_, fun u hu => ?_⟩
  · obtain ⟨h1, h2⟩ := h.1.1 x hx
    rw [wI_o (by omega)]
    refine ⟨h1, fun q hq => ?_⟩
    show _ = (if x = s then fun k => if k = i then v else t.2 x k else t.2 x) q
    by_cases e : x = s
    · rw [if_pos e, mw_if]
      by_cases e2 : q = i
      · rw [if_pos (by omega), if_pos e2]
      · rw [if_neg (by omega), if_neg e2, h2 q hq]
    · rw [if_neg e, mw_ne (by omega), h2 q hq]
  · obtain ⟨h1, h2⟩ := h.1.2 u hu
    rw [wI_o (by omega), wI_o (by omega), show (puT t s i v).2 (6 + u) = t.2 (6 + u) from if_neg (by omega)]
    exact ⟨h1, h2⟩
theorem MM_px {m : xi_M} {t : TT} {r : RR} {k : KK} {f : FF} (h : MM m (t, r, k, f)) {s i : Nat} (hs : s < 4) (hi : i < 60) {v : Int32} : MM (xi_wI m 19 (60 * s + i) v) (puT t (6 + s) i v, r, k, f) := by
  refine MM_t h (fun b hb => wI_o (by omega)) rfl ⟨fun x hx => ?_, fun u hu => ?_⟩
  · obtain ⟨h1, h2⟩ := h.1.1 x hx
    rw [wI_o (by omega), wI_o (by omega), show (puT t (6 + s) i v).2 x = t.2 x from if_neg (by omega)]
    exact ⟨h1, h2⟩
  · obtain ⟨h1, h2⟩ := h.1.2 u hu
    rw [wI_o (by omega)]
    refine ⟨h1, fun q hq => ?_⟩
    show _ = (if 6 + u = 6 + s then fun k => if k = i then v else t.2 (6 + u) k else t.2 (6 + u)) q
    by_cases e : u = s
    · rw [if_pos (by omega), mw_if]
      by_cases e2 : q = i
      · rw [if_pos (by omega), if_pos e2]
      · rw [if_neg (by omega), if_neg e2, h2 q hq]
    · rw [if_neg (by omega), mw_ne (by omega), h2 q hq]
theorem byte_low (x : Int32) : (x &&& zi 255).toInt8 = x.toInt8 := by
  apply Int8.toBitVec_inj.1
  apply BitVec.eq_of_getLsbD_eq
  intro i hi
  have h2 : (zi 255).toBitVec.getLsbD i = true := (show ∀ j, j < 8 → (zi 255).toBitVec.getLsbD j = true by decide +kernel) i hi
  have h4 : (x &&& zi 255).toBitVec.getLsbD i = x.toBitVec.getLsbD i := by
    show (x.toBitVec &&& (zi 255).toBitVec).getLsbD i = _
    rw [BitVec.getLsbD_and, h2, Bool.and_true]
  have h3 : i < 32 := by omega
  show (((x &&& zi 255).toBitVec).signExtend 8).getLsbD i = (x.toBitVec.signExtend 8).getLsbD i
  rw [BitVec.getLsbD_signExtend, BitVec.getLsbD_signExtend, if_pos h3, if_pos h3, h4]
theorem byte_and (x : Int32) : ∃ n : Nat, n < 256 ∧ x &&& zi 255 = zi n := by
  refine ⟨x.toBitVec.toNat % 256, Nat.mod_lt _ (by decide), ?_⟩
  apply Int32.toBitVec.inj
  apply BitVec.eq_of_toNat_eq
  show (x.toBitVec &&& 255#32).toNat = (BitVec.ofInt 32 ((x.toBitVec.toNat % 256 : Nat) : Int)).toNat
  rw [BitVec.toNat_and, BitVec.ofInt_natCast, BitVec.toNat_ofNat, show 255 % 2 ^ 32 = 2 ^ 8 - 1 by decide, Nat.and_two_pow_sub_one_eq_mod, BitVec.toNat_ofNat]
  have : x.toBitVec.toNat % 256 < 2 ^ 32 := Nat.lt_trans (Nat.mod_lt _ (by decide)) (by decide)
  rw [Nat.mod_eq_of_lt this]
def byV (x : Int32) : Int32 := x.toInt8.toInt32
theorem by_1 : ∀ n, n < 256 → byV (zi (n : Nat)) = zi (if (n : Int) ≤ 127 then (n : Int) else (n : Int) - 256) := by decide +kernel
theorem by_c (x : Int32) : ∃ n : Nat, n < 256 ∧ x &&& zi 255 = zi n ∧ byV x = zi (if (n : Int) ≤ 127 then (n : Int) else (n : Int) - 256) := by
  obtain ⟨n, h1, h2⟩ := byte_and x
  refine ⟨n, h1, h2, ?_⟩
  rw [← by_1 n h1, ← h2]
  unfold byV
  rw [byte_low]
/-! at -/
def sp_at (r i : Int) (q : Sg) : Option Value × Sg := if 0 ≤ r ∧ r ≤ 5 then (if q.1.1 r.toNat = -9 then (vI (-3), rfQ 1 q) else if 0 ≤ i ∧ i < q.1.1 r.toNat then (vI 1, anQ (q.1.2 r.toNat i.toNat) q) else (vI (-3), rfQ 2 q)) else (vI (-1), q)
theorem c_at (hS : Sh S) (r : Int) (r1 : -2147483648 ≤ r) (r2 : r < 2147483648) (i : Int) (i1 : -2147483648 ≤ i) (i2 : i < 2147483648)  : Cim S (fun m => E_X8_at S 0 (zi r) (zi i) m) (sp_at r i) := by
  rintro ⟨t, rr, k, f⟩ m hO hC
  have hT := hS.1
  have hO1 : OT t := hO.1
  have hC1 : CS m t := hC.1
  unfold sp_at
  dsimp only
  by_cases h1 : 0 ≤ r ∧ r ≤ 5
  · rw [if_pos h1]
    obtain ⟨s, rfl⟩ : ∃ s : Nat, r = s := ⟨r.toNat, by omega⟩
    rw [Int.toNat_natCast]
    have hz := OT_r hO1 (s := s) (by omega)
    by_cases hn : t.1 s = -9
    · rw [if_pos hn]
      have u := CS_no hC1 (s := s) (by omega) hn
      refine ⟨rfC m 1, ?_, CC_rf hC, fun b _ _ => ⟨rfC_o (by omega) (by omega), rfl⟩⟩
      unfold E_X8_at
      simp (disch := omega) only [zi_f, zi_0, zi_1, zi_31, zi_all, zi_8, zi_16, zi_add, zi_sub, zi_mul, zi_neg, zi_lt, zi_le, zi_eq, zi_div, zi_t, zi_n, xb_I, xb_J, xb_V, xb_s, if_pos, if_neg, if_true, if_false, true_and, and_true, true_or, or_true, false_or, or_false, not_true, not_false_iff, zb_z, zb_o, zb_ft, tn_0, tn_1, tn_2, tn_3, tn_c, Int.reduceToNat, te_0, te_1, tk_0, tk_1, tk_m, ts_1, or_0, bp_f, sT_t0 hT, sT_t1 hT, sT_t2 hT, sT_t3 hT, sT_t4 hT, sT_t5 hT, sT_t6 hT, sT_t7 hT, sT_t8 hT, sT_t9 hT, sT_t10 hT, sT_a1 hT, sT_a2 hT, sT_a3 hT, sT_a4 hT, sT_b1 hT, sT_b2 hT, sT_b3 hT, sT_b4 hT, sT_d1 hT, sT_d2 hT, sT_d3 hT, sT_e1 hT, sT_e2 hT, sT_e3 hT, sT_e4 hT, sT_e5 hT, C_wt, C_wf, C_r1 hT, C_r2 hT, C_r3 hT, C_r4 hT, C_r5 hT, C_an hT, C_fa1 hT (show s < 10 by omega) u]
      rfl
    · rw [if_neg hn]
      have u := CS_yes hC1 (s := s) (by omega) hn
      have ui := CS_it hC1 (s := s) (by omega)
      by_cases hi : 0 ≤ i ∧ i < t.1 s
      · rw [if_pos hi]
        have e0 := ui i.toNat (by omega)
        refine ⟨xi_wI m 0 11 (t.2 s i.toNat), ?_, CC_an hC, fun b _ _ => ⟨wI_o (by omega), rfl⟩⟩
        unfold E_X8_at
        simp (disch := omega) only [zi_f, zi_0, zi_1, zi_31, zi_all, zi_8, zi_16, zi_add, zi_sub, zi_mul, zi_neg, zi_lt, zi_le, zi_eq, zi_div, zi_t, zi_n, xb_I, xb_J, xb_V, xb_s, if_pos, if_neg, if_true, if_false, true_and, and_true, true_or, or_true, false_or, or_false, not_true, not_false_iff, zb_z, zb_o, zb_ft, tn_0, tn_1, tn_2, tn_3, tn_c, Int.reduceToNat, te_0, te_1, tk_0, tk_1, tk_m, ts_1, or_0, bp_f, sT_t0 hT, sT_t1 hT, sT_t2 hT, sT_t3 hT, sT_t4 hT, sT_t5 hT, sT_t6 hT, sT_t7 hT, sT_t8 hT, sT_t9 hT, sT_t10 hT, sT_a1 hT, sT_a2 hT, sT_a3 hT, sT_a4 hT, sT_b1 hT, sT_b2 hT, sT_b3 hT, sT_b4 hT, sT_d1 hT, sT_d2 hT, sT_d3 hT, sT_e1 hT, sT_e2 hT, sT_e3 hT, sT_e4 hT, sT_e5 hT, C_wt, C_wf, C_r1 hT, C_r2 hT, C_r3 hT, C_r4 hT, C_r5 hT, C_an hT, C_fa0 hT (show s < 10 by omega) u.1 u.2, e0]
        rfl
      · rw [if_neg hi]
        refine ⟨rfC m 2, ?_, CC_rf hC, fun b _ _ => ⟨rfC_o (by omega) (by omega), rfl⟩⟩
        unfold E_X8_at
        simp (disch := omega) only [zi_f, zi_0, zi_1, zi_31, zi_all, zi_8, zi_16, zi_add, zi_sub, zi_mul, zi_neg, zi_lt, zi_le, zi_eq, zi_div, zi_t, zi_n, xb_I, xb_J, xb_V, xb_s, if_pos, if_neg, if_true, if_false, true_and, and_true, true_or, or_true, false_or, or_false, not_true, not_false_iff, zb_z, zb_o, zb_ft, tn_0, tn_1, tn_2, tn_3, tn_c, Int.reduceToNat, te_0, te_1, tk_0, tk_1, tk_m, ts_1, or_0, bp_f, sT_t0 hT, sT_t1 hT, sT_t2 hT, sT_t3 hT, sT_t4 hT, sT_t5 hT, sT_t6 hT, sT_t7 hT, sT_t8 hT, sT_t9 hT, sT_t10 hT, sT_a1 hT, sT_a2 hT, sT_a3 hT, sT_a4 hT, sT_b1 hT, sT_b2 hT, sT_b3 hT, sT_b4 hT, sT_d1 hT, sT_d2 hT, sT_d3 hT, sT_e1 hT, sT_e2 hT, sT_e3 hT, sT_e4 hT, sT_e5 hT, C_wt, C_wf, C_r1 hT, C_r2 hT, C_r3 hT, C_r4 hT, C_r5 hT, C_an hT, C_fa2 hT (show s < 10 by omega) u.1 u.2 i1 i2 hi]
        rfl
  · rw [if_neg h1]
    refine ⟨m, ?_, hC, fun b _ _ => Cself⟩
    unfold E_X8_at
    simp (disch := omega) only [zi_f, zi_0, zi_1, zi_31, zi_all, zi_8, zi_16, zi_add, zi_sub, zi_mul, zi_neg, zi_lt, zi_le, zi_eq, zi_div, zi_t, zi_n, xb_I, xb_J, xb_V, xb_s, if_pos, if_neg, if_true, if_false, true_and, and_true, true_or, or_true, false_or, or_false, not_true, not_false_iff, zb_z, zb_o, zb_ft, tn_0, tn_1, tn_2, tn_3, tn_c, Int.reduceToNat, te_0, te_1, tk_0, tk_1, tk_m, ts_1, or_0, bp_f, sT_t0 hT, sT_t1 hT, sT_t2 hT, sT_t3 hT, sT_t4 hT, sT_t5 hT, sT_t6 hT, sT_t7 hT, sT_t8 hT, sT_t9 hT, sT_t10 hT, sT_a1 hT, sT_a2 hT, sT_a3 hT, sT_a4 hT, sT_b1 hT, sT_b2 hT, sT_b3 hT, sT_b4 hT, sT_d1 hT, sT_d2 hT, sT_d3 hT, sT_e1 hT, sT_e2 hT, sT_e3 hT, sT_e4 hT, sT_e5 hT, C_wt, C_wf, C_r1 hT, C_r2 hT, C_r3 hT, C_r4 hT, C_r5 hT, C_an hT]
    rfl
theorem m_at (hS : Sh S) (r : Int) (r1 : -2147483648 ≤ r) (r2 : r < 2147483648) (i : Int) (i1 : -2147483648 ≤ i) (i2 : i < 2147483648)  : Mim S (fun m => E_X9_at S 15 (zi r) (zi i) m) (sp_at r i) := by
  rintro ⟨t, rr, k, f⟩ m hO hC
  have hX := hS.2.2.1
  have hO1 : OT t := hO.1
  have hC1 : MS m t := hC.1
  unfold sp_at
  dsimp only
  by_cases h1 : 0 ≤ r ∧ r ≤ 5
  · rw [if_pos h1]
    obtain ⟨s, rfl⟩ : ∃ s : Nat, r = s := ⟨r.toNat, by omega⟩
    rw [Int.toNat_natCast]
    have hz := OT_r hO1 (s := s) (by omega)
    obtain ⟨u1, u2⟩ := hC1.1 s (by omega)
    by_cases hn : t.1 s = -9
    · rw [if_pos hn]
      refine ⟨rfM m 1, ?_, MM_rf hC, fun b hb => ⟨rfM_o (by omega) (by omega), rfl⟩⟩
      unfold E_X9_at
      simp (disch := omega) only [zi_f, zi_0, zi_1, zi_31, zi_all, zi_8, zi_16, zi_add, zi_sub, zi_mul, zi_neg, zi_lt, zi_le, zi_eq, zi_div, zi_t, zi_n, xb_I, xb_J, xb_V, xb_s, if_pos, if_neg, if_true, if_false, true_and, and_true, true_or, or_true, false_or, or_false, not_true, not_false_iff, zb_z, zb_o, zb_ft, tn_0, tn_1, tn_2, tn_3, tn_c, Int.reduceToNat, te_0, te_1, tk_0, tk_1, tk_m, ts_1, or_0, bp_f, sX_x0 hX, sX_xr0 hX, sX_xr1 hX, sX_xr2 hX, sX_xr3 hX, sX_xr4 hX, sX_xr5 hX, sX_xr6 hX, sX_xr7 hX, sX_xr8 hX, sX_xr9 hX, sX_xr10 hX, sX_xr11 hX, sX_xr12 hX, sX_xr13 hX, sX_xk0 hX, sX_xk1 hX, sX_xk2 hX, sX_xk3 hX, sX_xk4 hX, sX_xk5 hX, sX_xk6 hX, sX_xk7 hX, sX_xk8 hX, sX_xk9 hX, sX_xk10 hX, sX_xk11 hX, sX_xk12 hX, sX_xk13 hX, sX_xl0 hX, sX_xl1 hX, sX_xl2 hX, sX_xl3 hX, sX_xl4 hX, sX_xl5 hX, sX_xl6 hX, sX_xl7 hX, sX_xl8 hX, sX_xl9 hX, sX_xl10 hX, sX_xl11 hX, sX_xl12 hX, sX_xl13 hX, M_it, M_if, M_rt, M_rf, M_tt, M_tf, M_r1 hX, M_r2 hX, M_r3 hX, M_r4 hX, M_r5 hX, M_an hX, u1]
      rfl
    · rw [if_neg hn]
      by_cases hi : 0 ≤ i ∧ i < t.1 s
      · rw [if_pos hi]
        have e0 := u2 i.toNat (by omega)
        have e1 : (40 * (s : Int) + i).toNat = 40 * s + i.toNat := by omega
        refine ⟨xi_wI m 15 15 (t.2 s i.toNat), ?_, MM_an hC, fun b hb => ⟨wI_o (by omega), rfl⟩⟩
        unfold E_X9_at
        simp (disch := omega) only [zi_f, zi_0, zi_1, zi_31, zi_all, zi_8, zi_16, zi_add, zi_sub, zi_mul, zi_neg, zi_lt, zi_le, zi_eq, zi_div, zi_t, zi_n, xb_I, xb_J, xb_V, xb_s, if_pos, if_neg, if_true, if_false, true_and, and_true, true_or, or_true, false_or, or_false, not_true, not_false_iff, zb_z, zb_o, zb_ft, tn_0, tn_1, tn_2, tn_3, tn_c, Int.reduceToNat, te_0, te_1, tk_0, tk_1, tk_m, ts_1, or_0, bp_f, sX_x0 hX, sX_xr0 hX, sX_xr1 hX, sX_xr2 hX, sX_xr3 hX, sX_xr4 hX, sX_xr5 hX, sX_xr6 hX, sX_xr7 hX, sX_xr8 hX, sX_xr9 hX, sX_xr10 hX, sX_xr11 hX, sX_xr12 hX, sX_xr13 hX, sX_xk0 hX, sX_xk1 hX, sX_xk2 hX, sX_xk3 hX, sX_xk4 hX, sX_xk5 hX, sX_xk6 hX, sX_xk7 hX, sX_xk8 hX, sX_xk9 hX, sX_xk10 hX, sX_xk11 hX, sX_xk12 hX, sX_xk13 hX, sX_xl0 hX, sX_xl1 hX, sX_xl2 hX, sX_xl3 hX, sX_xl4 hX, sX_xl5 hX, sX_xl6 hX, sX_xl7 hX, sX_xl8 hX, sX_xl9 hX, sX_xl10 hX, sX_xl11 hX, sX_xl12 hX, sX_xl13 hX, M_it, M_if, M_rt, M_rf, M_tt, M_tf, M_r1 hX, M_r2 hX, M_r3 hX, M_r4 hX, M_r5 hX, M_an hX, u1, e1, e0]
        rfl
      · rw [if_neg hi]
        refine ⟨rfM m 2, ?_, MM_rf hC, fun b hb => ⟨rfM_o (by omega) (by omega), rfl⟩⟩
        unfold E_X9_at
        simp (disch := omega) only [zi_f, zi_0, zi_1, zi_31, zi_all, zi_8, zi_16, zi_add, zi_sub, zi_mul, zi_neg, zi_lt, zi_le, zi_eq, zi_div, zi_t, zi_n, xb_I, xb_J, xb_V, xb_s, if_pos, if_neg, if_true, if_false, true_and, and_true, true_or, or_true, false_or, or_false, not_true, not_false_iff, zb_z, zb_o, zb_ft, tn_0, tn_1, tn_2, tn_3, tn_c, Int.reduceToNat, te_0, te_1, tk_0, tk_1, tk_m, ts_1, or_0, bp_f, sX_x0 hX, sX_xr0 hX, sX_xr1 hX, sX_xr2 hX, sX_xr3 hX, sX_xr4 hX, sX_xr5 hX, sX_xr6 hX, sX_xr7 hX, sX_xr8 hX, sX_xr9 hX, sX_xr10 hX, sX_xr11 hX, sX_xr12 hX, sX_xr13 hX, sX_xk0 hX, sX_xk1 hX, sX_xk2 hX, sX_xk3 hX, sX_xk4 hX, sX_xk5 hX, sX_xk6 hX, sX_xk7 hX, sX_xk8 hX, sX_xk9 hX, sX_xk10 hX, sX_xk11 hX, sX_xk12 hX, sX_xk13 hX, sX_xl0 hX, sX_xl1 hX, sX_xl2 hX, sX_xl3 hX, sX_xl4 hX, sX_xl5 hX, sX_xl6 hX, sX_xl7 hX, sX_xl8 hX, sX_xl9 hX, sX_xl10 hX, sX_xl11 hX, sX_xl12 hX, sX_xl13 hX, M_it, M_if, M_rt, M_rf, M_tt, M_tf, M_r1 hX, M_r2 hX, M_r3 hX, M_r4 hX, M_r5 hX, M_an hX, u1]
        rfl
  · rw [if_neg h1]
    refine ⟨m, ?_, hC, fun b _ => Cself⟩
    unfold E_X9_at
    simp (disch := omega) only [zi_f, zi_0, zi_1, zi_31, zi_all, zi_8, zi_16, zi_add, zi_sub, zi_mul, zi_neg, zi_lt, zi_le, zi_eq, zi_div, zi_t, zi_n, xb_I, xb_J, xb_V, xb_s, if_pos, if_neg, if_true, if_false, true_and, and_true, true_or, or_true, false_or, or_false, not_true, not_false_iff, zb_z, zb_o, zb_ft, tn_0, tn_1, tn_2, tn_3, tn_c, Int.reduceToNat, te_0, te_1, tk_0, tk_1, tk_m, ts_1, or_0, bp_f, sX_x0 hX, sX_xr0 hX, sX_xr1 hX, sX_xr2 hX, sX_xr3 hX, sX_xr4 hX, sX_xr5 hX, sX_xr6 hX, sX_xr7 hX, sX_xr8 hX, sX_xr9 hX, sX_xr10 hX, sX_xr11 hX, sX_xr12 hX, sX_xr13 hX, sX_xk0 hX, sX_xk1 hX, sX_xk2 hX, sX_xk3 hX, sX_xk4 hX, sX_xk5 hX, sX_xk6 hX, sX_xk7 hX, sX_xk8 hX, sX_xk9 hX, sX_xk10 hX, sX_xk11 hX, sX_xk12 hX, sX_xk13 hX, sX_xl0 hX, sX_xl1 hX, sX_xl2 hX, sX_xl3 hX, sX_xl4 hX, sX_xl5 hX, sX_xl6 hX, sX_xl7 hX, sX_xl8 hX, sX_xl9 hX, sX_xl10 hX, sX_xl11 hX, sX_xl12 hX, sX_xl13 hX, M_it, M_if, M_rt, M_rf, M_tt, M_tf, M_r1 hX, M_r2 hX, M_r3 hX, M_r4 hX, M_r5 hX, M_an hX]
    rfl
theorem o_at (r i : Int) : ∀ q, OK q → OK (sp_at r i q).2 := by
  intro q h
  unfold sp_at
  repeat' split
  all_goals exact h
/-! lay -/
def sp_lay (r i : Int) (v : Int32) (q : Sg) : Option Value × Sg := if 0 ≤ r ∧ r ≤ 5 then (if q.1.1 r.toNat = -9 then (vI (-3), rfQ 1 q) else if 0 ≤ i ∧ i < q.1.1 r.toNat then (vI 1, anQ (q.1.2 r.toNat i.toNat) (puT q.1 r.toNat i.toNat v, q.2)) else (vI (-3), rfQ 2 q)) else (vI (-1), q)
theorem c_lay (hS : Sh S) (r : Int) (r1 : -2147483648 ≤ r) (r2 : r < 2147483648) (i : Int) (i1 : -2147483648 ≤ i) (i2 : i < 2147483648) (v : Int32) : Cim S (fun m => E_X8_lay S 0 (zi r) (zi i) v m) (sp_lay r i v) := by
  rintro ⟨t, rr, k, f⟩ m hO hC
  have hT := hS.1
  have hO1 : OT t := hO.1
  have hC1 : CS m t := hC.1
  unfold sp_lay
  dsimp only
  by_cases h1 : 0 ≤ r ∧ r ≤ 5
  · rw [if_pos h1]
    obtain ⟨s, rfl⟩ : ∃ s : Nat, r = s := ⟨r.toNat, by omega⟩
    rw [Int.toNat_natCast]
    have hz := OT_r hO1 (s := s) (by omega)
    by_cases hn : t.1 s = -9
    · rw [if_pos hn]
      have u := CS_no hC1 (s := s) (by omega) hn
      refine ⟨rfC m 1, ?_, CC_rf hC, fun b _ _ => ⟨rfC_o (by omega) (by omega), rfl⟩⟩
      unfold E_X8_lay
      simp (disch := omega) only [zi_f, zi_0, zi_1, zi_31, zi_all, zi_8, zi_16, zi_add, zi_sub, zi_mul, zi_neg, zi_lt, zi_le, zi_eq, zi_div, zi_t, zi_n, xb_I, xb_J, xb_V, xb_s, if_pos, if_neg, if_true, if_false, true_and, and_true, true_or, or_true, false_or, or_false, not_true, not_false_iff, zb_z, zb_o, zb_ft, tn_0, tn_1, tn_2, tn_3, tn_c, Int.reduceToNat, te_0, te_1, tk_0, tk_1, tk_m, ts_1, or_0, bp_f, sT_t0 hT, sT_t1 hT, sT_t2 hT, sT_t3 hT, sT_t4 hT, sT_t5 hT, sT_t6 hT, sT_t7 hT, sT_t8 hT, sT_t9 hT, sT_t10 hT, sT_a1 hT, sT_a2 hT, sT_a3 hT, sT_a4 hT, sT_b1 hT, sT_b2 hT, sT_b3 hT, sT_b4 hT, sT_d1 hT, sT_d2 hT, sT_d3 hT, sT_e1 hT, sT_e2 hT, sT_e3 hT, sT_e4 hT, sT_e5 hT, C_wt, C_wf, C_r1 hT, C_r2 hT, C_r3 hT, C_r4 hT, C_r5 hT, C_an hT, C_fa1 hT (show s < 10 by omega) u]
      rfl
    · rw [if_neg hn]
      have u := CS_yes hC1 (s := s) (by omega) hn
      have ui := CS_it hC1 (s := s) (by omega)
      by_cases hi : 0 ≤ i ∧ i < t.1 s
      · rw [if_pos hi]
        have e0 := ui i.toNat (by omega)
        refine ⟨xi_wI (xi_wI m (40 + s) i.toNat v) 0 11 (t.2 s i.toNat), ?_, CC_an (CC_pu hC (by omega)), fun b _ _ => ⟨by rw [wI_o (by omega), wI_o (by omega)], rfl⟩⟩
        unfold E_X8_lay
        simp (disch := omega) only [zi_f, zi_0, zi_1, zi_31, zi_all, zi_8, zi_16, zi_add, zi_sub, zi_mul, zi_neg, zi_lt, zi_le, zi_eq, zi_div, zi_t, zi_n, xb_I, xb_J, xb_V, xb_s, if_pos, if_neg, if_true, if_false, true_and, and_true, true_or, or_true, false_or, or_false, not_true, not_false_iff, zb_z, zb_o, zb_ft, tn_0, tn_1, tn_2, tn_3, tn_c, Int.reduceToNat, te_0, te_1, tk_0, tk_1, tk_m, ts_1, or_0, bp_f, sT_t0 hT, sT_t1 hT, sT_t2 hT, sT_t3 hT, sT_t4 hT, sT_t5 hT, sT_t6 hT, sT_t7 hT, sT_t8 hT, sT_t9 hT, sT_t10 hT, sT_a1 hT, sT_a2 hT, sT_a3 hT, sT_a4 hT, sT_b1 hT, sT_b2 hT, sT_b3 hT, sT_b4 hT, sT_d1 hT, sT_d2 hT, sT_d3 hT, sT_e1 hT, sT_e2 hT, sT_e3 hT, sT_e4 hT, sT_e5 hT, C_wt, C_wf, C_r1 hT, C_r2 hT, C_r3 hT, C_r4 hT, C_r5 hT, C_an hT, C_fa0 hT (show s < 10 by omega) u.1 u.2, e0]
        rfl
      · rw [if_neg hi]
        refine ⟨rfC m 2, ?_, CC_rf hC, fun b _ _ => ⟨rfC_o (by omega) (by omega), rfl⟩⟩
        unfold E_X8_lay
        simp (disch := omega) only [zi_f, zi_0, zi_1, zi_31, zi_all, zi_8, zi_16, zi_add, zi_sub, zi_mul, zi_neg, zi_lt, zi_le, zi_eq, zi_div, zi_t, zi_n, xb_I, xb_J, xb_V, xb_s, if_pos, if_neg, if_true, if_false, true_and, and_true, true_or, or_true, false_or, or_false, not_true, not_false_iff, zb_z, zb_o, zb_ft, tn_0, tn_1, tn_2, tn_3, tn_c, Int.reduceToNat, te_0, te_1, tk_0, tk_1, tk_m, ts_1, or_0, bp_f, sT_t0 hT, sT_t1 hT, sT_t2 hT, sT_t3 hT, sT_t4 hT, sT_t5 hT, sT_t6 hT, sT_t7 hT, sT_t8 hT, sT_t9 hT, sT_t10 hT, sT_a1 hT, sT_a2 hT, sT_a3 hT, sT_a4 hT, sT_b1 hT, sT_b2 hT, sT_b3 hT, sT_b4 hT, sT_d1 hT, sT_d2 hT, sT_d3 hT, sT_e1 hT, sT_e2 hT, sT_e3 hT, sT_e4 hT, sT_e5 hT, C_wt, C_wf, C_r1 hT, C_r2 hT, C_r3 hT, C_r4 hT, C_r5 hT, C_an hT, C_fa2 hT (show s < 10 by omega) u.1 u.2 i1 i2 hi]
        rfl
  · rw [if_neg h1]
    refine ⟨m, ?_, hC, fun b _ _ => Cself⟩
    unfold E_X8_lay
    simp (disch := omega) only [zi_f, zi_0, zi_1, zi_31, zi_all, zi_8, zi_16, zi_add, zi_sub, zi_mul, zi_neg, zi_lt, zi_le, zi_eq, zi_div, zi_t, zi_n, xb_I, xb_J, xb_V, xb_s, if_pos, if_neg, if_true, if_false, true_and, and_true, true_or, or_true, false_or, or_false, not_true, not_false_iff, zb_z, zb_o, zb_ft, tn_0, tn_1, tn_2, tn_3, tn_c, Int.reduceToNat, te_0, te_1, tk_0, tk_1, tk_m, ts_1, or_0, bp_f, sT_t0 hT, sT_t1 hT, sT_t2 hT, sT_t3 hT, sT_t4 hT, sT_t5 hT, sT_t6 hT, sT_t7 hT, sT_t8 hT, sT_t9 hT, sT_t10 hT, sT_a1 hT, sT_a2 hT, sT_a3 hT, sT_a4 hT, sT_b1 hT, sT_b2 hT, sT_b3 hT, sT_b4 hT, sT_d1 hT, sT_d2 hT, sT_d3 hT, sT_e1 hT, sT_e2 hT, sT_e3 hT, sT_e4 hT, sT_e5 hT, C_wt, C_wf, C_r1 hT, C_r2 hT, C_r3 hT, C_r4 hT, C_r5 hT, C_an hT]
    rfl
theorem m_lay (hS : Sh S) (r : Int) (r1 : -2147483648 ≤ r) (r2 : r < 2147483648) (i : Int) (i1 : -2147483648 ≤ i) (i2 : i < 2147483648) (v : Int32) : Mim S (fun m => E_X9_lay S 15 (zi r) (zi i) v m) (sp_lay r i v) := by
  rintro ⟨t, rr, k, f⟩ m hO hC
  have hX := hS.2.2.1
  have hO1 : OT t := hO.1
  have hC1 : MS m t := hC.1
  unfold sp_lay
  dsimp only
  by_cases h1 : 0 ≤ r ∧ r ≤ 5
  · rw [if_pos h1]
    obtain ⟨s, rfl⟩ : ∃ s : Nat, r = s := ⟨r.toNat, by omega⟩
    rw [Int.toNat_natCast]
    have hz := OT_r hO1 (s := s) (by omega)
    obtain ⟨u1, u2⟩ := hC1.1 s (by omega)
    by_cases hn : t.1 s = -9
    · rw [if_pos hn]
      refine ⟨rfM m 1, ?_, MM_rf hC, fun b hb => ⟨rfM_o (by omega) (by omega), rfl⟩⟩
      unfold E_X9_lay
      simp (disch := omega) only [zi_f, zi_0, zi_1, zi_31, zi_all, zi_8, zi_16, zi_add, zi_sub, zi_mul, zi_neg, zi_lt, zi_le, zi_eq, zi_div, zi_t, zi_n, xb_I, xb_J, xb_V, xb_s, if_pos, if_neg, if_true, if_false, true_and, and_true, true_or, or_true, false_or, or_false, not_true, not_false_iff, zb_z, zb_o, zb_ft, tn_0, tn_1, tn_2, tn_3, tn_c, Int.reduceToNat, te_0, te_1, tk_0, tk_1, tk_m, ts_1, or_0, bp_f, sX_x0 hX, sX_xr0 hX, sX_xr1 hX, sX_xr2 hX, sX_xr3 hX, sX_xr4 hX, sX_xr5 hX, sX_xr6 hX, sX_xr7 hX, sX_xr8 hX, sX_xr9 hX, sX_xr10 hX, sX_xr11 hX, sX_xr12 hX, sX_xr13 hX, sX_xk0 hX, sX_xk1 hX, sX_xk2 hX, sX_xk3 hX, sX_xk4 hX, sX_xk5 hX, sX_xk6 hX, sX_xk7 hX, sX_xk8 hX, sX_xk9 hX, sX_xk10 hX, sX_xk11 hX, sX_xk12 hX, sX_xk13 hX, sX_xl0 hX, sX_xl1 hX, sX_xl2 hX, sX_xl3 hX, sX_xl4 hX, sX_xl5 hX, sX_xl6 hX, sX_xl7 hX, sX_xl8 hX, sX_xl9 hX, sX_xl10 hX, sX_xl11 hX, sX_xl12 hX, sX_xl13 hX, M_it, M_if, M_rt, M_rf, M_tt, M_tf, M_r1 hX, M_r2 hX, M_r3 hX, M_r4 hX, M_r5 hX, M_an hX, u1]
      rfl
    · rw [if_neg hn]
      by_cases hi : 0 ≤ i ∧ i < t.1 s
      · rw [if_pos hi]
        have e0 := u2 i.toNat (by omega)
        have e1 : (40 * (s : Int) + i).toNat = 40 * s + i.toNat := by omega
        refine ⟨xi_wI (xi_wI m 17 (40 * s + i.toNat) v) 15 15 (t.2 s i.toNat), ?_, MM_an (MM_pu hC (by omega) (by omega)), fun b hb => ⟨by rw [wI_o (by omega), wI_o (by omega)], rfl⟩⟩
        unfold E_X9_lay
        simp (disch := omega) only [zi_f, zi_0, zi_1, zi_31, zi_all, zi_8, zi_16, zi_add, zi_sub, zi_mul, zi_neg, zi_lt, zi_le, zi_eq, zi_div, zi_t, zi_n, xb_I, xb_J, xb_V, xb_s, if_pos, if_neg, if_true, if_false, true_and, and_true, true_or, or_true, false_or, or_false, not_true, not_false_iff, zb_z, zb_o, zb_ft, tn_0, tn_1, tn_2, tn_3, tn_c, Int.reduceToNat, te_0, te_1, tk_0, tk_1, tk_m, ts_1, or_0, bp_f, sX_x0 hX, sX_xr0 hX, sX_xr1 hX, sX_xr2 hX, sX_xr3 hX, sX_xr4 hX, sX_xr5 hX, sX_xr6 hX, sX_xr7 hX, sX_xr8 hX, sX_xr9 hX, sX_xr10 hX, sX_xr11 hX, sX_xr12 hX, sX_xr13 hX, sX_xk0 hX, sX_xk1 hX, sX_xk2 hX, sX_xk3 hX, sX_xk4 hX, sX_xk5 hX, sX_xk6 hX, sX_xk7 hX, sX_xk8 hX, sX_xk9 hX, sX_xk10 hX, sX_xk11 hX, sX_xk12 hX, sX_xk13 hX, sX_xl0 hX, sX_xl1 hX, sX_xl2 hX, sX_xl3 hX, sX_xl4 hX, sX_xl5 hX, sX_xl6 hX, sX_xl7 hX, sX_xl8 hX, sX_xl9 hX, sX_xl10 hX, sX_xl11 hX, sX_xl12 hX, sX_xl13 hX, M_it, M_if, M_rt, M_rf, M_tt, M_tf, M_r1 hX, M_r2 hX, M_r3 hX, M_r4 hX, M_r5 hX, M_an hX, u1, e1, e0]
        rfl
      · rw [if_neg hi]
        refine ⟨rfM m 2, ?_, MM_rf hC, fun b hb => ⟨rfM_o (by omega) (by omega), rfl⟩⟩
        unfold E_X9_lay
        simp (disch := omega) only [zi_f, zi_0, zi_1, zi_31, zi_all, zi_8, zi_16, zi_add, zi_sub, zi_mul, zi_neg, zi_lt, zi_le, zi_eq, zi_div, zi_t, zi_n, xb_I, xb_J, xb_V, xb_s, if_pos, if_neg, if_true, if_false, true_and, and_true, true_or, or_true, false_or, or_false, not_true, not_false_iff, zb_z, zb_o, zb_ft, tn_0, tn_1, tn_2, tn_3, tn_c, Int.reduceToNat, te_0, te_1, tk_0, tk_1, tk_m, ts_1, or_0, bp_f, sX_x0 hX, sX_xr0 hX, sX_xr1 hX, sX_xr2 hX, sX_xr3 hX, sX_xr4 hX, sX_xr5 hX, sX_xr6 hX, sX_xr7 hX, sX_xr8 hX, sX_xr9 hX, sX_xr10 hX, sX_xr11 hX, sX_xr12 hX, sX_xr13 hX, sX_xk0 hX, sX_xk1 hX, sX_xk2 hX, sX_xk3 hX, sX_xk4 hX, sX_xk5 hX, sX_xk6 hX, sX_xk7 hX, sX_xk8 hX, sX_xk9 hX, sX_xk10 hX, sX_xk11 hX, sX_xk12 hX, sX_xk13 hX, sX_xl0 hX, sX_xl1 hX, sX_xl2 hX, sX_xl3 hX, sX_xl4 hX, sX_xl5 hX, sX_xl6 hX, sX_xl7 hX, sX_xl8 hX, sX_xl9 hX, sX_xl10 hX, sX_xl11 hX, sX_xl12 hX, sX_xl13 hX, M_it, M_if, M_rt, M_rf, M_tt, M_tf, M_r1 hX, M_r2 hX, M_r3 hX, M_r4 hX, M_r5 hX, M_an hX, u1]
        rfl
  · rw [if_neg h1]
    refine ⟨m, ?_, hC, fun b _ => Cself⟩
    unfold E_X9_lay
    simp (disch := omega) only [zi_f, zi_0, zi_1, zi_31, zi_all, zi_8, zi_16, zi_add, zi_sub, zi_mul, zi_neg, zi_lt, zi_le, zi_eq, zi_div, zi_t, zi_n, xb_I, xb_J, xb_V, xb_s, if_pos, if_neg, if_true, if_false, true_and, and_true, true_or, or_true, false_or, or_false, not_true, not_false_iff, zb_z, zb_o, zb_ft, tn_0, tn_1, tn_2, tn_3, tn_c, Int.reduceToNat, te_0, te_1, tk_0, tk_1, tk_m, ts_1, or_0, bp_f, sX_x0 hX, sX_xr0 hX, sX_xr1 hX, sX_xr2 hX, sX_xr3 hX, sX_xr4 hX, sX_xr5 hX, sX_xr6 hX, sX_xr7 hX, sX_xr8 hX, sX_xr9 hX, sX_xr10 hX, sX_xr11 hX, sX_xr12 hX, sX_xr13 hX, sX_xk0 hX, sX_xk1 hX, sX_xk2 hX, sX_xk3 hX, sX_xk4 hX, sX_xk5 hX, sX_xk6 hX, sX_xk7 hX, sX_xk8 hX, sX_xk9 hX, sX_xk10 hX, sX_xk11 hX, sX_xk12 hX, sX_xk13 hX, sX_xl0 hX, sX_xl1 hX, sX_xl2 hX, sX_xl3 hX, sX_xl4 hX, sX_xl5 hX, sX_xl6 hX, sX_xl7 hX, sX_xl8 hX, sX_xl9 hX, sX_xl10 hX, sX_xl11 hX, sX_xl12 hX, sX_xl13 hX, M_it, M_if, M_rt, M_rf, M_tt, M_tf, M_r1 hX, M_r2 hX, M_r3 hX, M_r4 hX, M_r5 hX, M_an hX]
    rfl
theorem OT_pu {t : TT} (h : OT t) {s i : Nat} {v : Int32} (hv : s < 6 ∨ ∃ b : Int, -128 ≤ b ∧ b ≤ 127 ∧ v = zi b) : OT (puT t s i v) := by
  refine ⟨h.1, fun u hu k hk => ?_⟩
  obtain ⟨b, h1, h2, h3⟩ := h.2 u hu k hk
  show ∃ d : Int, -128 ≤ d ∧ d ≤ 127 ∧ (if 6 + u = s then fun k => if k = i then v else t.2 (6 + u) k else t.2 (6 + u)) k = zi d
  by_cases e : 6 + u = s
  · rw [if_pos e]
    by_cases e2 : k = i
    · rw [if_pos e2]
      rcases hv with h | ⟨d, q1, q2, q3⟩
      · exfalso; omega
      · exact ⟨d, q1, q2, q3⟩
    · rw [if_neg e2]
      exact ⟨b, h1, h2, h3⟩
  · rw [if_neg e]
    exact ⟨b, h1, h2, h3⟩
theorem o_lay (r i : Int) (v : Int32) : ∀ q, OK q → OK (sp_lay r i v q).2 := by
  intro q h
  unfold sp_lay
  repeat' split
  · exact h
  · exact ⟨OT_pu h.1 (Or.inl (by omega)), h.2⟩
  · exact h
  · exact h
/-! put -/
def sp_put (r i : Int) (v : Int32) (q : Sg) : Option Value × Sg := if 0 ≤ r ∧ r ≤ 3 then (if q.1.1 (6 + r.toNat) = -9 then (vI (-3), rfQ 1 q) else if 0 ≤ i ∧ i < q.1.1 (6 + r.toNat) then (some (.int (q.1.2 (6 + r.toNat) i.toNat + zi 1000)), puT q.1 (6 + r.toNat) i.toNat (byV v), q.2) else (vI (-3), rfQ 2 q)) else (vI (-1), q)
theorem c_put (hS : Sh S) (r : Int) (r1 : -2147483648 ≤ r) (r2 : r < 2147483648) (i : Int) (i1 : -2147483648 ≤ i) (i2 : i < 2147483648) (v : Int32) : Cim S (fun m => E_X8_put S 0 (zi r) (zi i) v m) (sp_put r i v) := by
  rintro ⟨t, rr, k, f⟩ m hO hC
  have hT := hS.1
  have hO1 : OT t := hO.1
  have hC1 : CS m t := hC.1
  unfold sp_put
  dsimp only
  by_cases h1 : 0 ≤ r ∧ r ≤ 3
  · rw [if_pos h1]
    obtain ⟨s, rfl⟩ : ∃ s : Nat, r = s := ⟨r.toNat, by omega⟩
    rw [Int.toNat_natCast]
    have hz := OT_t hO1 (s := s) (by omega)
    by_cases hn : t.1 (6 + s) = -9
    · rw [if_pos hn]
      have u := CS_no hC1 (s := 6 + s) (by omega) hn
      refine ⟨rfC m 1, ?_, CC_rf hC, fun b _ _ => ⟨rfC_o (by omega) (by omega), rfl⟩⟩
      unfold E_X8_put
      simp (disch := omega) only [zi_f, zi_0, zi_1, zi_31, zi_all, zi_8, zi_16, zi_add, zi_sub, zi_mul, zi_neg, zi_lt, zi_le, zi_eq, zi_div, zi_t, zi_n, xb_I, xb_J, xb_V, xb_s, if_pos, if_neg, if_true, if_false, true_and, and_true, true_or, or_true, false_or, or_false, not_true, not_false_iff, zb_z, zb_o, zb_ft, tn_0, tn_1, tn_2, tn_3, tn_c, Int.reduceToNat, te_0, te_1, tk_0, tk_1, tk_m, ts_1, or_0, bp_f, sT_t0 hT, sT_t1 hT, sT_t2 hT, sT_t3 hT, sT_t4 hT, sT_t5 hT, sT_t6 hT, sT_t7 hT, sT_t8 hT, sT_t9 hT, sT_t10 hT, sT_a1 hT, sT_a2 hT, sT_a3 hT, sT_a4 hT, sT_b1 hT, sT_b2 hT, sT_b3 hT, sT_b4 hT, sT_d1 hT, sT_d2 hT, sT_d3 hT, sT_e1 hT, sT_e2 hT, sT_e3 hT, sT_e4 hT, sT_e5 hT, C_wt, C_wf, C_r1 hT, C_r2 hT, C_r3 hT, C_r4 hT, C_r5 hT, C_an hT, C_fa1 hT (show 6 + s < 10 by omega) u]
      rfl
    · rw [if_neg hn]
      have u := CS_yes hC1 (s := 6 + s) (by omega) hn
      have ui := CS_ix hC1 (s := s) (by omega)
      by_cases hi : 0 ≤ i ∧ i < t.1 (6 + s)
      · rw [if_pos hi]
        have e0 := ui i.toNat (by omega)
        refine ⟨xi_wI m (40 + (6 + s)) i.toNat (byV v), ?_, CC_pu hC (by omega), fun b _ _ => ⟨wI_o (by omega), rfl⟩⟩
        unfold E_X8_put
        simp (disch := omega) only [zi_f, zi_0, zi_1, zi_31, zi_all, zi_8, zi_16, zi_add, zi_sub, zi_mul, zi_neg, zi_lt, zi_le, zi_eq, zi_div, zi_t, zi_n, xb_I, xb_J, xb_V, xb_s, if_pos, if_neg, if_true, if_false, true_and, and_true, true_or, or_true, false_or, or_false, not_true, not_false_iff, zb_z, zb_o, zb_ft, tn_0, tn_1, tn_2, tn_3, tn_c, Int.reduceToNat, te_0, te_1, tk_0, tk_1, tk_m, ts_1, or_0, bp_f, sT_t0 hT, sT_t1 hT, sT_t2 hT, sT_t3 hT, sT_t4 hT, sT_t5 hT, sT_t6 hT, sT_t7 hT, sT_t8 hT, sT_t9 hT, sT_t10 hT, sT_a1 hT, sT_a2 hT, sT_a3 hT, sT_a4 hT, sT_b1 hT, sT_b2 hT, sT_b3 hT, sT_b4 hT, sT_d1 hT, sT_d2 hT, sT_d3 hT, sT_e1 hT, sT_e2 hT, sT_e3 hT, sT_e4 hT, sT_e5 hT, C_wt, C_wf, C_r1 hT, C_r2 hT, C_r3 hT, C_r4 hT, C_r5 hT, C_an hT, C_fa0 hT (show 6 + s < 10 by omega) u.1 u.2, e0]
        rfl
      · rw [if_neg hi]
        refine ⟨rfC m 2, ?_, CC_rf hC, fun b _ _ => ⟨rfC_o (by omega) (by omega), rfl⟩⟩
        unfold E_X8_put
        simp (disch := omega) only [zi_f, zi_0, zi_1, zi_31, zi_all, zi_8, zi_16, zi_add, zi_sub, zi_mul, zi_neg, zi_lt, zi_le, zi_eq, zi_div, zi_t, zi_n, xb_I, xb_J, xb_V, xb_s, if_pos, if_neg, if_true, if_false, true_and, and_true, true_or, or_true, false_or, or_false, not_true, not_false_iff, zb_z, zb_o, zb_ft, tn_0, tn_1, tn_2, tn_3, tn_c, Int.reduceToNat, te_0, te_1, tk_0, tk_1, tk_m, ts_1, or_0, bp_f, sT_t0 hT, sT_t1 hT, sT_t2 hT, sT_t3 hT, sT_t4 hT, sT_t5 hT, sT_t6 hT, sT_t7 hT, sT_t8 hT, sT_t9 hT, sT_t10 hT, sT_a1 hT, sT_a2 hT, sT_a3 hT, sT_a4 hT, sT_b1 hT, sT_b2 hT, sT_b3 hT, sT_b4 hT, sT_d1 hT, sT_d2 hT, sT_d3 hT, sT_e1 hT, sT_e2 hT, sT_e3 hT, sT_e4 hT, sT_e5 hT, C_wt, C_wf, C_r1 hT, C_r2 hT, C_r3 hT, C_r4 hT, C_r5 hT, C_an hT, C_fa2 hT (show 6 + s < 10 by omega) u.1 u.2 i1 i2 hi]
        rfl
  · rw [if_neg h1]
    refine ⟨m, ?_, hC, fun b _ _ => Cself⟩
    unfold E_X8_put
    simp (disch := omega) only [zi_f, zi_0, zi_1, zi_31, zi_all, zi_8, zi_16, zi_add, zi_sub, zi_mul, zi_neg, zi_lt, zi_le, zi_eq, zi_div, zi_t, zi_n, xb_I, xb_J, xb_V, xb_s, if_pos, if_neg, if_true, if_false, true_and, and_true, true_or, or_true, false_or, or_false, not_true, not_false_iff, zb_z, zb_o, zb_ft, tn_0, tn_1, tn_2, tn_3, tn_c, Int.reduceToNat, te_0, te_1, tk_0, tk_1, tk_m, ts_1, or_0, bp_f, sT_t0 hT, sT_t1 hT, sT_t2 hT, sT_t3 hT, sT_t4 hT, sT_t5 hT, sT_t6 hT, sT_t7 hT, sT_t8 hT, sT_t9 hT, sT_t10 hT, sT_a1 hT, sT_a2 hT, sT_a3 hT, sT_a4 hT, sT_b1 hT, sT_b2 hT, sT_b3 hT, sT_b4 hT, sT_d1 hT, sT_d2 hT, sT_d3 hT, sT_e1 hT, sT_e2 hT, sT_e3 hT, sT_e4 hT, sT_e5 hT, C_wt, C_wf, C_r1 hT, C_r2 hT, C_r3 hT, C_r4 hT, C_r5 hT, C_an hT]
    rfl
theorem m_put (hS : Sh S) (r : Int) (r1 : -2147483648 ≤ r) (r2 : r < 2147483648) (i : Int) (i1 : -2147483648 ≤ i) (i2 : i < 2147483648) (v : Int32) : Mim S (fun m => E_X9_put S 15 (zi r) (zi i) v m) (sp_put r i v) := by
  rintro ⟨t, rr, k, f⟩ m hO hC
  have hX := hS.2.2.1
  have hO1 : OT t := hO.1
  have hC1 : MS m t := hC.1
  unfold sp_put
  dsimp only
  by_cases h1 : 0 ≤ r ∧ r ≤ 3
  · rw [if_pos h1]
    obtain ⟨s, rfl⟩ : ∃ s : Nat, r = s := ⟨r.toNat, by omega⟩
    rw [Int.toNat_natCast]
    have hz := OT_t hO1 (s := s) (by omega)
    obtain ⟨u1, u2⟩ := hC1.2 s (by omega)
    by_cases hn : t.1 (6 + s) = -9
    · rw [if_pos hn]
      refine ⟨rfM m 1, ?_, MM_rf hC, fun b hb => ⟨rfM_o (by omega) (by omega), rfl⟩⟩
      unfold E_X9_put
      simp (disch := omega) only [zi_f, zi_0, zi_1, zi_31, zi_all, zi_8, zi_16, zi_add, zi_sub, zi_mul, zi_neg, zi_lt, zi_le, zi_eq, zi_div, zi_t, zi_n, xb_I, xb_J, xb_V, xb_s, if_pos, if_neg, if_true, if_false, true_and, and_true, true_or, or_true, false_or, or_false, not_true, not_false_iff, zb_z, zb_o, zb_ft, tn_0, tn_1, tn_2, tn_3, tn_c, Int.reduceToNat, te_0, te_1, tk_0, tk_1, tk_m, ts_1, or_0, bp_f, sX_x0 hX, sX_xr0 hX, sX_xr1 hX, sX_xr2 hX, sX_xr3 hX, sX_xr4 hX, sX_xr5 hX, sX_xr6 hX, sX_xr7 hX, sX_xr8 hX, sX_xr9 hX, sX_xr10 hX, sX_xr11 hX, sX_xr12 hX, sX_xr13 hX, sX_xk0 hX, sX_xk1 hX, sX_xk2 hX, sX_xk3 hX, sX_xk4 hX, sX_xk5 hX, sX_xk6 hX, sX_xk7 hX, sX_xk8 hX, sX_xk9 hX, sX_xk10 hX, sX_xk11 hX, sX_xk12 hX, sX_xk13 hX, sX_xl0 hX, sX_xl1 hX, sX_xl2 hX, sX_xl3 hX, sX_xl4 hX, sX_xl5 hX, sX_xl6 hX, sX_xl7 hX, sX_xl8 hX, sX_xl9 hX, sX_xl10 hX, sX_xl11 hX, sX_xl12 hX, sX_xl13 hX, M_it, M_if, M_rt, M_rf, M_tt, M_tf, M_r1 hX, M_r2 hX, M_r3 hX, M_r4 hX, M_r5 hX, M_an hX, u1]
      rfl
    · rw [if_neg hn]
      by_cases hi : 0 ≤ i ∧ i < t.1 (6 + s)
      · rw [if_pos hi]
        have e0 := u2 i.toNat (by omega)
        have e1 : (60 * (s : Int) + i).toNat = 60 * s + i.toNat := by omega
        refine ⟨xi_wI m 19 (60 * s + i.toNat) (byV v), ?_, MM_px hC (by omega) (by omega), fun b hb => ⟨wI_o (by omega), rfl⟩⟩
        obtain ⟨n, n1, n2, n3⟩ := by_c v
        rw [n3]
        unfold E_X9_put
        by_cases hc : (n : Int) ≤ 127
        · simp (disch := omega) only [zi_f, zi_0, zi_1, zi_31, zi_all, zi_8, zi_16, zi_add, zi_sub, zi_mul, zi_neg, zi_lt, zi_le, zi_eq, zi_div, zi_t, zi_n, xb_I, xb_J, xb_V, xb_s, if_pos, if_neg, if_true, if_false, true_and, and_true, true_or, or_true, false_or, or_false, not_true, not_false_iff, zb_z, zb_o, zb_ft, tn_0, tn_1, tn_2, tn_3, tn_c, Int.reduceToNat, te_0, te_1, tk_0, tk_1, tk_m, ts_1, or_0, bp_f, sX_x0 hX, sX_xr0 hX, sX_xr1 hX, sX_xr2 hX, sX_xr3 hX, sX_xr4 hX, sX_xr5 hX, sX_xr6 hX, sX_xr7 hX, sX_xr8 hX, sX_xr9 hX, sX_xr10 hX, sX_xr11 hX, sX_xr12 hX, sX_xr13 hX, sX_xk0 hX, sX_xk1 hX, sX_xk2 hX, sX_xk3 hX, sX_xk4 hX, sX_xk5 hX, sX_xk6 hX, sX_xk7 hX, sX_xk8 hX, sX_xk9 hX, sX_xk10 hX, sX_xk11 hX, sX_xk12 hX, sX_xk13 hX, sX_xl0 hX, sX_xl1 hX, sX_xl2 hX, sX_xl3 hX, sX_xl4 hX, sX_xl5 hX, sX_xl6 hX, sX_xl7 hX, sX_xl8 hX, sX_xl9 hX, sX_xl10 hX, sX_xl11 hX, sX_xl12 hX, sX_xl13 hX, M_it, M_tt, u1, e1, e0, n2]
        · simp (disch := omega) only [zi_f, zi_0, zi_1, zi_31, zi_all, zi_8, zi_16, zi_add, zi_sub, zi_mul, zi_neg, zi_lt, zi_le, zi_eq, zi_div, zi_t, zi_n, xb_I, xb_J, xb_V, xb_s, if_pos, if_neg, if_true, if_false, true_and, and_true, true_or, or_true, false_or, or_false, not_true, not_false_iff, zb_z, zb_o, zb_ft, tn_0, tn_1, tn_2, tn_3, tn_c, Int.reduceToNat, te_0, te_1, tk_0, tk_1, tk_m, ts_1, or_0, bp_f, sX_x0 hX, sX_xr0 hX, sX_xr1 hX, sX_xr2 hX, sX_xr3 hX, sX_xr4 hX, sX_xr5 hX, sX_xr6 hX, sX_xr7 hX, sX_xr8 hX, sX_xr9 hX, sX_xr10 hX, sX_xr11 hX, sX_xr12 hX, sX_xr13 hX, sX_xk0 hX, sX_xk1 hX, sX_xk2 hX, sX_xk3 hX, sX_xk4 hX, sX_xk5 hX, sX_xk6 hX, sX_xk7 hX, sX_xk8 hX, sX_xk9 hX, sX_xk10 hX, sX_xk11 hX, sX_xk12 hX, sX_xk13 hX, sX_xl0 hX, sX_xl1 hX, sX_xl2 hX, sX_xl3 hX, sX_xl4 hX, sX_xl5 hX, sX_xl6 hX, sX_xl7 hX, sX_xl8 hX, sX_xl9 hX, sX_xl10 hX, sX_xl11 hX, sX_xl12 hX, sX_xl13 hX, M_it, M_tt, u1, e1, e0, n2]
      · rw [if_neg hi]
        refine ⟨rfM m 2, ?_, MM_rf hC, fun b hb => ⟨rfM_o (by omega) (by omega), rfl⟩⟩
        unfold E_X9_put
        simp (disch := omega) only [zi_f, zi_0, zi_1, zi_31, zi_all, zi_8, zi_16, zi_add, zi_sub, zi_mul, zi_neg, zi_lt, zi_le, zi_eq, zi_div, zi_t, zi_n, xb_I, xb_J, xb_V, xb_s, if_pos, if_neg, if_true, if_false, true_and, and_true, true_or, or_true, false_or, or_false, not_true, not_false_iff, zb_z, zb_o, zb_ft, tn_0, tn_1, tn_2, tn_3, tn_c, Int.reduceToNat, te_0, te_1, tk_0, tk_1, tk_m, ts_1, or_0, bp_f, sX_x0 hX, sX_xr0 hX, sX_xr1 hX, sX_xr2 hX, sX_xr3 hX, sX_xr4 hX, sX_xr5 hX, sX_xr6 hX, sX_xr7 hX, sX_xr8 hX, sX_xr9 hX, sX_xr10 hX, sX_xr11 hX, sX_xr12 hX, sX_xr13 hX, sX_xk0 hX, sX_xk1 hX, sX_xk2 hX, sX_xk3 hX, sX_xk4 hX, sX_xk5 hX, sX_xk6 hX, sX_xk7 hX, sX_xk8 hX, sX_xk9 hX, sX_xk10 hX, sX_xk11 hX, sX_xk12 hX, sX_xk13 hX, sX_xl0 hX, sX_xl1 hX, sX_xl2 hX, sX_xl3 hX, sX_xl4 hX, sX_xl5 hX, sX_xl6 hX, sX_xl7 hX, sX_xl8 hX, sX_xl9 hX, sX_xl10 hX, sX_xl11 hX, sX_xl12 hX, sX_xl13 hX, M_it, M_if, M_rt, M_rf, M_tt, M_tf, M_r1 hX, M_r2 hX, M_r3 hX, M_r4 hX, M_r5 hX, M_an hX, u1]
        rfl
  · rw [if_neg h1]
    refine ⟨m, ?_, hC, fun b _ => Cself⟩
    unfold E_X9_put
    simp (disch := omega) only [zi_f, zi_0, zi_1, zi_31, zi_all, zi_8, zi_16, zi_add, zi_sub, zi_mul, zi_neg, zi_lt, zi_le, zi_eq, zi_div, zi_t, zi_n, xb_I, xb_J, xb_V, xb_s, if_pos, if_neg, if_true, if_false, true_and, and_true, true_or, or_true, false_or, or_false, not_true, not_false_iff, zb_z, zb_o, zb_ft, tn_0, tn_1, tn_2, tn_3, tn_c, Int.reduceToNat, te_0, te_1, tk_0, tk_1, tk_m, ts_1, or_0, bp_f, sX_x0 hX, sX_xr0 hX, sX_xr1 hX, sX_xr2 hX, sX_xr3 hX, sX_xr4 hX, sX_xr5 hX, sX_xr6 hX, sX_xr7 hX, sX_xr8 hX, sX_xr9 hX, sX_xr10 hX, sX_xr11 hX, sX_xr12 hX, sX_xr13 hX, sX_xk0 hX, sX_xk1 hX, sX_xk2 hX, sX_xk3 hX, sX_xk4 hX, sX_xk5 hX, sX_xk6 hX, sX_xk7 hX, sX_xk8 hX, sX_xk9 hX, sX_xk10 hX, sX_xk11 hX, sX_xk12 hX, sX_xk13 hX, sX_xl0 hX, sX_xl1 hX, sX_xl2 hX, sX_xl3 hX, sX_xl4 hX, sX_xl5 hX, sX_xl6 hX, sX_xl7 hX, sX_xl8 hX, sX_xl9 hX, sX_xl10 hX, sX_xl11 hX, sX_xl12 hX, sX_xl13 hX, M_it, M_if, M_rt, M_rf, M_tt, M_tf, M_r1 hX, M_r2 hX, M_r3 hX, M_r4 hX, M_r5 hX, M_an hX]
    rfl
theorem o_put (r i : Int) (v : Int32) : ∀ q, OK q → OK (sp_put r i v q).2 := by
  intro q h
  unfold sp_put
  repeat' split
  · exact h
  · obtain ⟨n, n1, n2, n3⟩ := by_c v
    refine ⟨OT_pu h.1 (Or.inr ⟨_, ?_, ?_, n3⟩), h.2⟩
    · split <;> omega
    · split <;> omega
  · exact h
  · exact h
/-! tear -/
def sp_tear (r : Int) (q : Sg) : Option Value × Sg := if 0 ≤ r ∧ r ≤ 5 then (if q.1.1 r.toNat = -9 then (vI (-3), rfQ 1 q) else (vI 1, teT q.1 r.toNat, q.2)) else (vI (-1), q)
theorem CC_te {m : xi_M} {t : TT} {r : RR} {k : KK} {f : FF} (h : CC m (t, r, k, f)) {s : Nat} (hs : s < 10) : CC (xi_wI m (30 + s) 0 (zi 0)) (teT t s, r, k, f) := by
  refine CC_t h (fun b hb => wI_o (by omega)) rfl (fun x hx => ?_)
  obtain ⟨h1, h2, h3⟩ := h.1 x hx
  by_cases e : x = s
  · subst e
    rw [mw_eq, show (teT t x).1 x = -9 from if_pos rfl, wI_o (show 40 + x ≠ 30 + x by omega)]
    exact ⟨rfl, fun q => absurd rfl q, h3⟩
  · rw [wI_o (by omega), wI_o (by omega), show (teT t s).1 x = t.1 x from if_neg e]
    exact ⟨h1, h2, h3⟩
theorem MM_te {m : xi_M} {t : TT} {r : RR} {k : KK} {f : FF} (h : MM m (t, r, k, f)) {s : Nat} (hs : s < 6) : MM (xi_wI m 16 s (zi (-9))) (teT t s, r, k, f) := by
  refine MM_t h (fun b hb => wI_o (by omega)) rfl ⟨fun x hx => ?_, fun u hu => ?_⟩
  · obtain ⟨h1, h2⟩ := h.1.1 x hx
    by_cases e : x = s
    · subst e
      rw [mw_eq, show (teT t x).1 x = -9 from if_pos rfl, wI_o (by omega)]
      exact ⟨rfl, h2⟩
    · rw [mw_ne (by omega), wI_o (by omega), show (teT t s).1 x = t.1 x from if_neg e]
      exact ⟨h1, h2⟩
  · obtain ⟨h1, h2⟩ := h.1.2 u hu
    rw [wI_o (by omega), wI_o (by omega), show (teT t s).1 (6 + u) = t.1 (6 + u) from if_neg (by omega)]
    exact ⟨h1, h2⟩
theorem c_tear (hS : Sh S) (r : Int) (r1 : -2147483648 ≤ r) (r2 : r < 2147483648)  : Cim S (fun m => E_X8_tear S 0 (zi r) m) (sp_tear r) := by
  rintro ⟨t, rr, k, f⟩ m hO hC
  have hT := hS.1
  have hO1 : OT t := hO.1
  have hC1 : CS m t := hC.1
  unfold sp_tear
  dsimp only
  by_cases h1 : 0 ≤ r ∧ r ≤ 5
  · rw [if_pos h1]
    obtain ⟨s, rfl⟩ : ∃ s : Nat, r = s := ⟨r.toNat, by omega⟩
    rw [Int.toNat_natCast]
    have hz := OT_r hO1 (s := s) (by omega)
    by_cases hn : t.1 s = -9
    · rw [if_pos hn]
      have u := CS_no hC1 (s := s) (by omega) hn
      refine ⟨rfC m 1, ?_, CC_rf hC, fun b _ _ => ⟨rfC_o (by omega) (by omega), rfl⟩⟩
      unfold E_X8_tear
      simp (disch := omega) only [zi_f, zi_0, zi_1, zi_31, zi_all, zi_8, zi_16, zi_add, zi_sub, zi_mul, zi_neg, zi_lt, zi_le, zi_eq, zi_div, zi_t, zi_n, xb_I, xb_J, xb_V, xb_s, if_pos, if_neg, if_true, if_false, true_and, and_true, true_or, or_true, false_or, or_false, not_true, not_false_iff, zb_z, zb_o, zb_ft, tn_0, tn_1, tn_2, tn_3, tn_c, Int.reduceToNat, te_0, te_1, tk_0, tk_1, tk_m, ts_1, or_0, bp_f, sT_t0 hT, sT_t1 hT, sT_t2 hT, sT_t3 hT, sT_t4 hT, sT_t5 hT, sT_t6 hT, sT_t7 hT, sT_t8 hT, sT_t9 hT, sT_t10 hT, sT_a1 hT, sT_a2 hT, sT_a3 hT, sT_a4 hT, sT_b1 hT, sT_b2 hT, sT_b3 hT, sT_b4 hT, sT_d1 hT, sT_d2 hT, sT_d3 hT, sT_e1 hT, sT_e2 hT, sT_e3 hT, sT_e4 hT, sT_e5 hT, C_wt, C_wf, C_r1 hT, C_r2 hT, C_r3 hT, C_r4 hT, C_r5 hT, C_an hT, u]
      rfl
    · rw [if_neg hn]
      have u := CS_yes hC1 (s := s) (by omega) hn
      refine ⟨xi_wI m (30 + s) 0 (zi 0), ?_, CC_te hC (by omega), fun b _ _ => ⟨wI_o (by omega), rfl⟩⟩
      unfold E_X8_tear
      simp (disch := omega) only [zi_f, zi_0, zi_1, zi_31, zi_all, zi_8, zi_16, zi_add, zi_sub, zi_mul, zi_neg, zi_lt, zi_le, zi_eq, zi_div, zi_t, zi_n, xb_I, xb_J, xb_V, xb_s, if_pos, if_neg, if_true, if_false, true_and, and_true, true_or, or_true, false_or, or_false, not_true, not_false_iff, zb_z, zb_o, zb_ft, tn_0, tn_1, tn_2, tn_3, tn_c, Int.reduceToNat, te_0, te_1, tk_0, tk_1, tk_m, ts_1, or_0, bp_f, sT_t0 hT, sT_t1 hT, sT_t2 hT, sT_t3 hT, sT_t4 hT, sT_t5 hT, sT_t6 hT, sT_t7 hT, sT_t8 hT, sT_t9 hT, sT_t10 hT, sT_a1 hT, sT_a2 hT, sT_a3 hT, sT_a4 hT, sT_b1 hT, sT_b2 hT, sT_b3 hT, sT_b4 hT, sT_d1 hT, sT_d2 hT, sT_d3 hT, sT_e1 hT, sT_e2 hT, sT_e3 hT, sT_e4 hT, sT_e5 hT, C_wt, C_wf, C_r1 hT, C_r2 hT, C_r3 hT, C_r4 hT, C_r5 hT, C_an hT, u.1, u.2]
      rfl
  · rw [if_neg h1]
    refine ⟨m, ?_, hC, fun b _ _ => Cself⟩
    unfold E_X8_tear
    simp (disch := omega) only [zi_f, zi_0, zi_1, zi_31, zi_all, zi_8, zi_16, zi_add, zi_sub, zi_mul, zi_neg, zi_lt, zi_le, zi_eq, zi_div, zi_t, zi_n, xb_I, xb_J, xb_V, xb_s, if_pos, if_neg, if_true, if_false, true_and, and_true, true_or, or_true, false_or, or_false, not_true, not_false_iff, zb_z, zb_o, zb_ft, tn_0, tn_1, tn_2, tn_3, tn_c, Int.reduceToNat, te_0, te_1, tk_0, tk_1, tk_m, ts_1, or_0, bp_f, sT_t0 hT, sT_t1 hT, sT_t2 hT, sT_t3 hT, sT_t4 hT, sT_t5 hT, sT_t6 hT, sT_t7 hT, sT_t8 hT, sT_t9 hT, sT_t10 hT, sT_a1 hT, sT_a2 hT, sT_a3 hT, sT_a4 hT, sT_b1 hT, sT_b2 hT, sT_b3 hT, sT_b4 hT, sT_d1 hT, sT_d2 hT, sT_d3 hT, sT_e1 hT, sT_e2 hT, sT_e3 hT, sT_e4 hT, sT_e5 hT, C_wt, C_wf, C_r1 hT, C_r2 hT, C_r3 hT, C_r4 hT, C_r5 hT, C_an hT]
    rfl
theorem m_tear (hS : Sh S) (r : Int) (r1 : -2147483648 ≤ r) (r2 : r < 2147483648)  : Mim S (fun m => E_X9_tear S 15 (zi r) m) (sp_tear r) := by
  rintro ⟨t, rr, k, f⟩ m hO hC
  have hX := hS.2.2.1
  have hO1 : OT t := hO.1
  have hC1 : MS m t := hC.1
  unfold sp_tear
  dsimp only
  by_cases h1 : 0 ≤ r ∧ r ≤ 5
  · rw [if_pos h1]
    obtain ⟨s, rfl⟩ : ∃ s : Nat, r = s := ⟨r.toNat, by omega⟩
    rw [Int.toNat_natCast]
    have hz := OT_r hO1 (s := s) (by omega)
    obtain ⟨u1, u2⟩ := hC1.1 s (by omega)
    by_cases hn : t.1 s = -9
    · rw [if_pos hn]
      refine ⟨rfM m 1, ?_, MM_rf hC, fun b hb => ⟨rfM_o (by omega) (by omega), rfl⟩⟩
      unfold E_X9_tear
      simp (disch := omega) only [zi_f, zi_0, zi_1, zi_31, zi_all, zi_8, zi_16, zi_add, zi_sub, zi_mul, zi_neg, zi_lt, zi_le, zi_eq, zi_div, zi_t, zi_n, xb_I, xb_J, xb_V, xb_s, if_pos, if_neg, if_true, if_false, true_and, and_true, true_or, or_true, false_or, or_false, not_true, not_false_iff, zb_z, zb_o, zb_ft, tn_0, tn_1, tn_2, tn_3, tn_c, Int.reduceToNat, te_0, te_1, tk_0, tk_1, tk_m, ts_1, or_0, bp_f, sX_x0 hX, sX_xr0 hX, sX_xr1 hX, sX_xr2 hX, sX_xr3 hX, sX_xr4 hX, sX_xr5 hX, sX_xr6 hX, sX_xr7 hX, sX_xr8 hX, sX_xr9 hX, sX_xr10 hX, sX_xr11 hX, sX_xr12 hX, sX_xr13 hX, sX_xk0 hX, sX_xk1 hX, sX_xk2 hX, sX_xk3 hX, sX_xk4 hX, sX_xk5 hX, sX_xk6 hX, sX_xk7 hX, sX_xk8 hX, sX_xk9 hX, sX_xk10 hX, sX_xk11 hX, sX_xk12 hX, sX_xk13 hX, sX_xl0 hX, sX_xl1 hX, sX_xl2 hX, sX_xl3 hX, sX_xl4 hX, sX_xl5 hX, sX_xl6 hX, sX_xl7 hX, sX_xl8 hX, sX_xl9 hX, sX_xl10 hX, sX_xl11 hX, sX_xl12 hX, sX_xl13 hX, M_it, M_if, M_rt, M_rf, M_tt, M_tf, M_r1 hX, M_r2 hX, M_r3 hX, M_r4 hX, M_r5 hX, M_an hX, u1]
      rfl
    · rw [if_neg hn]
      refine ⟨xi_wI m 16 s (zi (-9)), ?_, MM_te hC (by omega), fun b hb => ⟨wI_o (by omega), rfl⟩⟩
      unfold E_X9_tear
      simp (disch := omega) only [zi_f, zi_0, zi_1, zi_31, zi_all, zi_8, zi_16, zi_add, zi_sub, zi_mul, zi_neg, zi_lt, zi_le, zi_eq, zi_div, zi_t, zi_n, xb_I, xb_J, xb_V, xb_s, if_pos, if_neg, if_true, if_false, true_and, and_true, true_or, or_true, false_or, or_false, not_true, not_false_iff, zb_z, zb_o, zb_ft, tn_0, tn_1, tn_2, tn_3, tn_c, Int.reduceToNat, te_0, te_1, tk_0, tk_1, tk_m, ts_1, or_0, bp_f, sX_x0 hX, sX_xr0 hX, sX_xr1 hX, sX_xr2 hX, sX_xr3 hX, sX_xr4 hX, sX_xr5 hX, sX_xr6 hX, sX_xr7 hX, sX_xr8 hX, sX_xr9 hX, sX_xr10 hX, sX_xr11 hX, sX_xr12 hX, sX_xr13 hX, sX_xk0 hX, sX_xk1 hX, sX_xk2 hX, sX_xk3 hX, sX_xk4 hX, sX_xk5 hX, sX_xk6 hX, sX_xk7 hX, sX_xk8 hX, sX_xk9 hX, sX_xk10 hX, sX_xk11 hX, sX_xk12 hX, sX_xk13 hX, sX_xl0 hX, sX_xl1 hX, sX_xl2 hX, sX_xl3 hX, sX_xl4 hX, sX_xl5 hX, sX_xl6 hX, sX_xl7 hX, sX_xl8 hX, sX_xl9 hX, sX_xl10 hX, sX_xl11 hX, sX_xl12 hX, sX_xl13 hX, M_it, M_if, M_rt, M_rf, M_tt, M_tf, M_r1 hX, M_r2 hX, M_r3 hX, M_r4 hX, M_r5 hX, M_an hX, u1]
      rfl
  · rw [if_neg h1]
    refine ⟨m, ?_, hC, fun b _ => Cself⟩
    unfold E_X9_tear
    simp (disch := omega) only [zi_f, zi_0, zi_1, zi_31, zi_all, zi_8, zi_16, zi_add, zi_sub, zi_mul, zi_neg, zi_lt, zi_le, zi_eq, zi_div, zi_t, zi_n, xb_I, xb_J, xb_V, xb_s, if_pos, if_neg, if_true, if_false, true_and, and_true, true_or, or_true, false_or, or_false, not_true, not_false_iff, zb_z, zb_o, zb_ft, tn_0, tn_1, tn_2, tn_3, tn_c, Int.reduceToNat, te_0, te_1, tk_0, tk_1, tk_m, ts_1, or_0, bp_f, sX_x0 hX, sX_xr0 hX, sX_xr1 hX, sX_xr2 hX, sX_xr3 hX, sX_xr4 hX, sX_xr5 hX, sX_xr6 hX, sX_xr7 hX, sX_xr8 hX, sX_xr9 hX, sX_xr10 hX, sX_xr11 hX, sX_xr12 hX, sX_xr13 hX, sX_xk0 hX, sX_xk1 hX, sX_xk2 hX, sX_xk3 hX, sX_xk4 hX, sX_xk5 hX, sX_xk6 hX, sX_xk7 hX, sX_xk8 hX, sX_xk9 hX, sX_xk10 hX, sX_xk11 hX, sX_xk12 hX, sX_xk13 hX, sX_xl0 hX, sX_xl1 hX, sX_xl2 hX, sX_xl3 hX, sX_xl4 hX, sX_xl5 hX, sX_xl6 hX, sX_xl7 hX, sX_xl8 hX, sX_xl9 hX, sX_xl10 hX, sX_xl11 hX, sX_xl12 hX, sX_xl13 hX, M_it, M_if, M_rt, M_rf, M_tt, M_tf, M_r1 hX, M_r2 hX, M_r3 hX, M_r4 hX, M_r5 hX, M_an hX]
    rfl
theorem o_tear (r : Int) : ∀ q, OK q → OK (sp_tear r q).2 := by
  intro q h
  unfold sp_tear
  repeat' split
  · exact h
  · refine ⟨⟨fun x hx => ?_, h.1.2⟩, h.2⟩
    show (if x = r.toNat then -9 else q.1.1 x) = -9 ∨ 0 ≤ (if x = r.toNat then -9 else q.1.1 x) ∧ (if x = r.toNat then -9 else q.1.1 x) ≤ _
    split
    · exact Or.inl rfl
    · exact h.1.1 x hx
  · exact h
end
