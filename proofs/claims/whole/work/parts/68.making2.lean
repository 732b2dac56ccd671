/-! fault, republic: the class, from what its cells say -/
theorem xcl {u : Nat} (hu : u < 4) : ¬ ((zi (u : Nat)) < 0 ∨ xS0.2.1 2 ≤ (zi (u : Nat)).toNatClampNeg) ∧ xS0.2.2 2 (zi (u : Nat)).toNatClampNeg = some (36 + u) ∧ xS0.1 (36 + u) = 6 + 3 := by
  have hc : (zi (u : Nat)).toNatClampNeg = u := by rw [zi_n (by omega) (by omega), Int.toNat_natCast]
  refine ⟨?_, ?_, ?_⟩
  · rintro (h | h)
    · rw [show (0 : Int32) = zi 0 from rfl, zi_lt (by omega) (by omega) (by omega) (by omega)] at h
      omega
    · rw [hc] at h
      have h4 : 4 ≤ u := h
      omega
  · rw [hc]
    show (if u < 4 then some (36 + u) else none) = some (36 + u)
    rw [if_pos hu]
  · have := sT_e1 sh0.1 (6 + u) (by omega)
    rw [show 30 + (6 + u) = 36 + u by omega] at this
    exact this
theorem Tx_of {m : xi_M} {t : TT} (hO : OT t) (hM : CS m t) {u : Nat} (hu : u < 4) (h9 : ¬ t.1 (6 + u) = -9) : Tx m u (t.1 (6 + u)).toNat (cT t u) := by
  obtain ⟨c1, c2⟩ := cT_z hO hu
  have hz := (hO.1 (6 + u) (by omega)).resolve_left h9
  have hle : lenS (6 + u) = 60 := if_neg (by omega)
  rw [hle] at hz
  obtain ⟨y0, y1, y2⟩ := hM (6 + u) (by omega)
  have y1' := y1 h9
  rw [hle] at y2
  rw [show 30 + (6 + u) = 36 + u by omega] at y1'
  rw [show 40 + (6 + u) = 46 + u by omega] at y2
  refine ⟨⟨by omega, c1⟩, ?_, fun k hk => ?_⟩
  · rw [y1', show (((t.1 (6 + u)).toNat : Nat) : Int) = t.1 (6 + u) by omega]
  · rw [y2 k (by omega), c2 k (by omega)]
theorem xrd {m0 : xi_M} {t : TT} (hO : OT t) (hM : CS m0 t) {u : Nat} (hu : u < 4) (h9 : ¬ t.1 (6 + u) = -9) : ∃ m1, F_X5_read (xS1 u) [.ref 100, .ref 60] (xm1 m0) = some (some (.int (zi (rdT t u).1.1)), m1) ∧ RF m1 60 (rdT t u).2 ∧ m1.1 60 4 = zi 0 ∧ (∀ b, b ≠ 100 → b < 60 ∨ 70 ≤ b → m1.1 b = m0.1 b) ∧ m1.2 = m0.2 := by
  have hT := Tx_of hO hM hu h9
  have hx : ∀ b, b ≠ 100 → (xm1 m0).1 b = m0.1 b := fun b hb => if_neg hb
  have hD : ShD (xS1 u) 100 u := ShD_of (sh1 hu).1 (Nat.le_refl _) hu rfl rfl
  obtain ⟨m1, e1, e2, e3, e4, e5⟩ := C_read (m := xm1 m0) (S := xS1 u) (R := 100) ((sh1 hu).2.2.2 1 (by omega)) hD (Tx_fr hT (Nat.le_refl _) hu hx) ⟨rfl, rfl⟩
  exact ⟨m1, e1, e2, e3, fun b b1 b2 => by rw [e4 b b1 b2, hx b b1], by rw [e5]; rfl⟩
section
variable {l : Launch} {D : va_G} {E : xi_E} {tys : List (ClassId × FieldType)}
theorem cf_fault (hC : xCx E xS0 tys) (hn : E.2.1 = 100) (sz : Nat) {m0 : xi_M} {q : Sg} (hO : OK q) (hCC : CC m0 q) (v : Int) (v1 : -2147483648 ≤ v) (v2 : v < 2147483648) : ∃ m2, CC m2 (sp_fault v q).2 ∧ (∀ b, 15 ≤ b → b < 30 → m2.1 b = m0.1 b ∧ m2.2 b = m0.2 b) ∧ Met l yX8_fault (.code yX8_fault cX8_fault 2 (some .int) :: xTs) { frames := 8, cells := 1, slots := 3, locals := 100 * 8 } (va_Pc ((Value.ref 0 :: [.int (zi v)]).map (xi_cv E)) (fun U => U.heap.size = sz ∧ va_P D vwCl (xi_wld E xS0 m0) U.heap ∧ xi_Kn D vwCl tys xNs U)) (fun _ st o t => o = .returned ((sp_fault v q).1.map (xi_cv E)) ∧ va_P D vwCl (xi_wld E xS0 m2) t.heap ∧ va_F (fun q => xi_A E q ∨ sz ≤ q) st t) 1 3 (fun q => xi_A E q ∨ sz ≤ q) := by
  obtain ⟨t, rr, k, f⟩ := q
  unfold sp_fault
  dsimp only
  by_cases h1 : 0 ≤ v ∧ v ≤ 3
  · rw [if_pos h1]
    obtain ⟨u, rfl⟩ : ∃ s : Nat, v = s := ⟨v.toNat, by omega⟩
    rw [Int.toNat_natCast]
    have hu4 : u < 4 := by omega
    obtain ⟨hin2, hrf2, hst9⟩ := xcl hu4
    have hwi : F_X8_within xS0 [.int (zi (u : Nat)), .int (zi 3)] m0 = some (some (.int (zi 1)), m0) := C_wt (S := xS0) (m := m0) (a := (u : Nat)) (b := 3) (by omega) (by omega) (by omega)
    have hth := (hCC.1 (6 + u) (by omega)).1
    rw [show 30 + (6 + u) = 36 + u by omega] at hth
    by_cases h2 : t.1 (6 + u) = -9
    · rw [if_pos h2]
      have hth' : m0.1 (36 + u) 0 = zi 0 := by
        have h3 : m0.1 (36 + u) 0 = zb (decide (t.1 (6 + u) ≠ -9)) := hth
        rw [h3, decide_eq_false (fun h => h h2)]
        rfl
      exact ⟨rfC m0 1, CC_rf hCC, fun b _ _ => ⟨rfC_o (by omega) (by omega), rfl⟩, f1_fault l D hC hn sz hwi u hu4 hin2 hrf2 hst9 hth' (C_r1 sh0.1 m0)⟩
    · rw [if_neg h2]
      have hth' : m0.1 (36 + u) 0 = zi 1 := by
        have h3 : m0.1 (36 + u) 0 = zb (decide (t.1 (6 + u) ≠ -9)) := hth
        rw [h3, decide_eq_true h2]
        rfl
      obtain ⟨m1, e1, e2, e3, e4, e5⟩ := xrd hO.1 hCC.1 hu4 h2
      exact ⟨m1, ⟨CS_fr (fun b _ _ => e4 b (by omega) (by omega)) hCC.1, CR_fr (fun b _ _ => e4 b (by omega) (by omega)) hCC.2.1, CK_fr (fun b _ _ => e4 b (by omega) (by omega)) hCC.2.2.1, CF_fr (e4 0 (by omega) (by omega)) (e4 4 (by omega) (by omega)) (by rw [e5]) hCC.2.2.2⟩, fun b _ _ => ⟨e4 b (by omega) (by omega), by rw [e5]⟩, f2_fault l D hC hn sz (zi (rdT t u).1.1) hwi u hu4 hin2 hrf2 hst9 hth' e1⟩
  · rw [if_neg h1]
    exact ⟨m0, hCC, fun b _ _ => ⟨rfl, rfl⟩, f0_fault l D hC hn sz rfl (C_wf (S := xS0) (m := m0) (a := v) (b := 3) (by omega) (by omega) (by omega) (by omega) (by omega))⟩
set_option maxHeartbeats 4000000 in
theorem cf_republic (hC : xCx E xS0 tys) (hn : E.2.1 = 100) (sz : Nat) {m0 : xi_M} {q : Sg} (hO : OK q) (hCC : CC m0 q) (v : Int) (v1 : -2147483648 ≤ v) (v2 : v < 2147483648) : ∃ m2, CC m2 (sp_republic v q).2 ∧ (∀ b, 15 ≤ b → b < 30 → m2.1 b = m0.1 b ∧ m2.2 b = m0.2 b) ∧ Met l yX8_republic (.code yX8_republic cX8_republic 3 (some .int) :: xTs) { frames := 8, cells := 1, slots := 3, locals := 100 * 8 } (va_Pc ((Value.ref 0 :: [.int (zi v)]).map (xi_cv E)) (fun U => U.heap.size = sz ∧ va_P D vwCl (xi_wld E xS0 m0) U.heap ∧ xi_Kn D vwCl tys xNs U)) (fun _ st o t => o = .returned ((sp_republic v q).1.map (xi_cv E)) ∧ va_P D vwCl (xi_wld E xS0 m2) t.heap ∧ va_F (fun q => xi_A E q ∨ sz ≤ q) st t) 1 3 (fun q => xi_A E q ∨ sz ≤ q) := by
  obtain ⟨t, rr, k, f⟩ := q
  unfold sp_republic
  dsimp only
  by_cases h1 : 0 ≤ v ∧ v ≤ 3
  · rw [if_pos h1]
    obtain ⟨u, rfl⟩ : ∃ s : Nat, v = s := ⟨v.toNat, by omega⟩
    rw [Int.toNat_natCast]
    have hu4 : u < 4 := by omega
    obtain ⟨hin2, hrf2, hst9⟩ := xcl hu4
    have hwi : F_X8_within xS0 [.int (zi (u : Nat)), .int (zi 3)] m0 = some (some (.int (zi 1)), m0) := C_wt (S := xS0) (m := m0) (a := (u : Nat)) (b := 3) (by omega) (by omega) (by omega)
    have hth := (hCC.1 (6 + u) (by omega)).1
    rw [show 30 + (6 + u) = 36 + u by omega] at hth
    by_cases h2 : t.1 (6 + u) = -9
    · rw [if_pos h2]
      have hth' : m0.1 (36 + u) 0 = zi 0 := by
        have h3 : m0.1 (36 + u) 0 = zb (decide (t.1 (6 + u) ≠ -9)) := hth
        rw [h3, decide_eq_false (fun h => h h2)]
        rfl
      exact ⟨rfC m0 1, CC_rf hCC, fun b _ _ => ⟨rfC_o (by omega) (by omega), rfl⟩, f1_republic l D hC hn sz hwi u hu4 hin2 hrf2 hst9 hth' (C_r1 sh0.1 m0)⟩
    · rw [if_neg h2]
      have hth' : m0.1 (36 + u) 0 = zi 1 := by
        have h3 : m0.1 (36 + u) 0 = zb (decide (t.1 (6 + u) ≠ -9)) := hth
        rw [h3, decide_eq_true h2]
        rfl
      obtain ⟨m1, e1, e2, e3, e4, e5⟩ := xrd hO.1 hCC.1 hu4 h2
      have hPB : (rdT t u).1.1 = -9 ∨ (0 ≤ (rdT t u).1.1 ∧ (rdT t u).1.1 ≤ ((t.1 (6 + u)).toNat : Int)) := (PB_rdP (t.1 (6 + u)).toNat (cT t u) 7).2
      by_cases h3 : (rdT t u).1.1 = -9
      · rw [if_pos h3]
        have hk := (rd_wk _ _ h3).1
        rw [h3] at e1
        generalize hw : (rdT t u).2 = w at *
        have hkw : Wk w := by rw [← hw]; exact hk
        have s60 : ShR xS0 60 := sh0.2.2.2 1 (by omega)
        have s50 : ShR xS0 50 := sh0.2.2.2 0 (by omega)
        obtain ⟨m4, a1, a2⟩ := C_take (m := m1) s50 s60 (Or.inl (Nat.le_refl _))
        have r60 : CR m1 60 (0, fun _ => w) := ⟨e2, e3, fun d hd => absurd hd (Nat.not_lt_zero _)⟩
        have r50 := CR_tk r60 (Nat.zero_le _) hkw.1.n.2 a2
        have o4 := a2.2.2.2.2.2.2.2.2.2.2.1
        have l4 := a2.2.2.2.2.2.2.2.2.2.2.2
        obtain ⟨m5, b1, b2, b3, b4, b5⟩ := C_clear (m := m4) (sh0.2.2.2 2 (by omega) : ShR xS0 70)
        obtain ⟨m6, c1, c2, c3, c4, c5⟩ := C_clear (m := m5) (sh0.2.2.2 3 (by omega) : ShR xS0 80)
        obtain ⟨m7, d1, d2, d3, d4, d5⟩ := C_clear (m := m6) (sh0.2.2.2 4 (by omega) : ShR xS0 90)
        have G : ∀ b, b < 50 → m7.1 b = m0.1 b := fun b hb => by rw [d4 b (by omega), c4 b (by omega), b4 b (by omega), o4 b (by omega), e4 b (by omega) (by omega)]
        have G2 : m7.2 = m0.2 := by rw [d5, c5, b5, l4, e5]
        have r7 : CR m7 50 (0, fun _ => w) := CR_fr (fun b _ _ => by rw [d4 b (by omega), c4 b (by omega), b4 b (by omega)]) r50
        have an : m7.1 50 1 = zi (w 1) := r7.1.2.1
        refine ⟨m7, ⟨CS_fr (fun b _ _ => G b (by omega)) hCC.1, r7, fun j hj => ⟨fun _ => ?_, fun h => absurd rfl h⟩, CF_fr (G 0 (by omega)) (G 4 (by omega)) (by rw [G2]) hCC.2.2.2⟩, fun b _ _ => ⟨G b (by omega), by rw [G2]⟩, ?_⟩
        · rcases (show j = 0 ∨ j = 1 ∨ j = 2 by omega) with rfl | rfl | rfl
          · show m7.1 70 1 = zi 0
            rw [d4 70 (by omega), c4 70 (by omega)]; exact b2.2.1
          · show m7.1 80 1 = zi 0
            rw [d4 80 (by omega)]; exact c2.2.1
          · show m7.1 90 1 = zi 0
            exact d2.2.1
        · have := f3_republic l D hC hn sz (m3 := m1) (m4 := m4) (m5 := m5) (m6 := m6) (m2 := m7) hwi u hu4 hin2 hrf2 hst9 hth' e1 a1 b1 c1 d1
          rw [an] at this
          exact this
      · rw [if_neg h3]
        have hx9 : ¬ zi (rdT t u).1.1 = zi (-9) := by
          have hzb : 0 ≤ t.1 (6 + u) ∧ t.1 (6 + u) ≤ lenS (6 + u) := (hO.1.1 (6 + u) (by omega)).resolve_left h2
          have hle : lenS (6 + u) = 60 := if_neg (by omega)
          rw [hle] at hzb
          rw [zi_eq (by omega) (by omega) (by omega) (by omega)]
          exact h3
        exact ⟨m1, ⟨CS_fr (fun b _ _ => e4 b (by omega) (by omega)) hCC.1, CR_fr (fun b _ _ => e4 b (by omega) (by omega)) hCC.2.1, CK_fr (fun b _ _ => e4 b (by omega) (by omega)) hCC.2.2.1, CF_fr (e4 0 (by omega) (by omega)) (e4 4 (by omega) (by omega)) (by rw [e5]) hCC.2.2.2⟩, fun b _ _ => ⟨e4 b (by omega) (by omega), by rw [e5]⟩, f2_republic l D hC hn sz (zi (rdT t u).1.1) hx9 hwi u hu4 hin2 hrf2 hst9 hth' e1⟩
  · rw [if_neg h1]
    exact ⟨m0, hCC, fun b _ _ => ⟨rfl, rfl⟩, f0_republic l D hC hn sz rfl (C_wf (S := xS0) (m := m0) (a := v) (b := 3) (by omega) (by omega) (by omega) (by omega) (by omega))⟩
end
