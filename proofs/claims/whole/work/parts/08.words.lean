def xi_tab {α : Type} : List (Nat × α) → Nat → Option α
  | [], _ => none
  | q :: t, x => bif Nat.beq q.1 x then some q.2 else xi_tab t x
theorem xi_tab_mem {α : Type} : ∀ {l : List (Nat × α)} {x : Nat} {v : α}, xi_tab l x = some v → (x, v) ∈ l := by
  intro l
  induction l with
  | nil => intro x v h; cases h
  | cons q t ih =>
    intro x v h
    unfold xi_tab at h
    cases hb : Nat.beq q.1 x with
    | true =>
      rw [hb] at h
      have e := Nat.eq_of_beq_eq_true hb
      cases h
      rw [← e]
      exact List.mem_cons_self
    | false =>
      rw [hb] at h
      exact List.mem_cons_of_mem _ (ih h)
abbrev xi_F : Type := List Value → xi_M → Option xi_R
def xi_calls : List (Nat × xi_F) → xi_C
  | [], _, _, _ => none
  | q :: t, x, As, m => bif Nat.beq q.1 x then q.2 As m else xi_calls t x As m
theorem xi_calls_mem : ∀ {l : List (Nat × xi_F)} {x : Nat} {As : List Value} {m : xi_M} {q : xi_R}, xi_calls l x As m = some q → ∃ f, (x, f) ∈ l ∧ f As m = some q := by
  intro l
  induction l with
  | nil => intro x As m q h; cases h
  | cons p t ih =>
    intro x As m q h
    unfold xi_calls at h
    cases hb : Nat.beq p.1 x with
    | true =>
      rw [hb] at h
      have e := Nat.eq_of_beq_eq_true hb
      exact ⟨p.2, by rw [← e]; exact List.mem_cons_self, h⟩
    | false =>
      rw [hb] at h
      obtain ⟨f, h1, h2⟩ := ih h
      exact ⟨f, List.mem_cons_of_mem _ h1, h2⟩
/-- a callee with n arguments -/
def xi_wS (n : Nat) (f : xi_F) : xi_F := fun As m => bif Nat.beq As.length n then f As m else none
/-- a callee of an object of a kind, with n arguments beside it -/
def xi_wV (S : xi_S) (k n : Nat) (f : xi_F) : xi_F := fun As m => match As with
  | .ref b :: t => bif Nat.beq t.length n then (if S.1 b = k then f (.ref b :: t) m else none) else none
  | _ => none
theorem xi_wS_some {n : Nat} {f : xi_F} {As : List Value} {m : xi_M} {q : xi_R} (h : xi_wS n f As m = some q) : As.length = n ∧ f As m = some q := by
  unfold xi_wS at h
  obtain ⟨h1, h2⟩ := xi_bif_some h
  exact ⟨Nat.eq_of_beq_eq_true h1, h2⟩
theorem xi_wV_some {S : xi_S} {k n : Nat} {f : xi_F} {As : List Value} {m : xi_M} {q : xi_R} (h : xi_wV S k n f As m = some q) : ∃ b t, As = .ref b :: t ∧ t.length = n ∧ S.1 b = k ∧ f (.ref b :: t) m = some q := by
  unfold xi_wV at h
  split at h
  · obtain ⟨h1, h2⟩ := xi_bif_some h
    obtain ⟨h3, h4⟩ := xi_if_some h2
    exact ⟨_, _, rfl, Nat.eq_of_beq_eq_true h1, h3, h4⟩
  · cases h
def xi_dck (cc : ByteArray) (tb : List (Nat × Instr × Nat)) : Bool := tb.all fun q => decide (decode cc q.1 = .ok q.2) && decide (q.2.2 = xi_len q.2.1 q.2.2)
theorem xi_dck_ok {cc : ByteArray} {tb : List (Nat × Instr × Nat)} (h : xi_dck cc tb = true) : ∀ pc i n, xi_tab tb pc = some (i, n) → decode cc pc = .ok (i, n) ∧ n = xi_len i n := by
  intro pc i n ht
  have h2 := List.all_eq_true.mp h _ (xi_tab_mem ht)
  rw [Bool.and_eq_true] at h2
  exact ⟨of_decide_eq_true h2.1, of_decide_eq_true h2.2⟩
/-- the tables' words that stay true -/
def xTs : List Cond := lw_tbl.filter goodWord
theorem xw_good : ∀ w ∈ xTs, goodWord w = true := fun _ h => (List.mem_filter.mp h).2
theorem xw_in {w : Cond} (i : Nat) (h : lw_tbl[i]? = some w) (hg : goodWord w = true) : w ∈ xTs := List.mem_filter.mpr ⟨List.mem_of_getElem? h, hg⟩

def xft : Nat → List Nat := fun k => match k with
  | 0 => [3, 0, 0]
  | 1 => [0, 0, 3, 3, 3]
  | 2 => [3]
  | 3 => [0, 0, 3]
  | 4 => [3, 0, 0]
  | 5 => [0, 0, 0, 0, 0, 3, 3, 3, 3, 3, 3, 3, 3, 3]
  | 6 => [1, 0, 3]
  | 7 => [3, 3, 3, 3, 3, 3, 3, 3, 3, 3, 0, 0, 2, 2]
  | 8 => [3, 3, 3, 3, 3, 3, 3, 3, 3, 0, 3, 3, 3, 0, 3, 0, 2, 2, 0, 0, 3]
  | _ => []
theorem xin_X0 : ∀ w ∈ u_ws RX0 TX0 3, w ∈ xTs := fun w h => List.mem_filter.mpr ⟨(show ∀ w ∈ u_ws RX0 TX0 3, w ∈ lw_tbl by decide +kernel) w h, (show ∀ w ∈ u_ws RX0 TX0 3, goodWord w = true by decide +kernel) w h⟩
theorem xin_X1 : ∀ w ∈ u_ws RX1 TX1 5, w ∈ xTs := fun w h => List.mem_filter.mpr ⟨(show ∀ w ∈ u_ws RX1 TX1 5, w ∈ lw_tbl by decide +kernel) w h, (show ∀ w ∈ u_ws RX1 TX1 5, goodWord w = true by decide +kernel) w h⟩
theorem xin_X2 : ∀ w ∈ u_ws RX2 TX2 1, w ∈ xTs := fun w h => List.mem_filter.mpr ⟨(show ∀ w ∈ u_ws RX2 TX2 1, w ∈ lw_tbl by decide +kernel) w h, (show ∀ w ∈ u_ws RX2 TX2 1, goodWord w = true by decide +kernel) w h⟩
theorem xin_X3 : ∀ w ∈ u_ws RX3 TX3 3, w ∈ xTs := fun w h => List.mem_filter.mpr ⟨(show ∀ w ∈ u_ws RX3 TX3 3, w ∈ lw_tbl by decide +kernel) w h, (show ∀ w ∈ u_ws RX3 TX3 3, goodWord w = true by decide +kernel) w h⟩
theorem xin_X5 : ∀ w ∈ u_ws RX5 TX5 3, w ∈ xTs := fun w h => List.mem_filter.mpr ⟨(show ∀ w ∈ u_ws RX5 TX5 3, w ∈ lw_tbl by decide +kernel) w h, (show ∀ w ∈ u_ws RX5 TX5 3, goodWord w = true by decide +kernel) w h⟩
theorem xin_X6 : ∀ w ∈ u_ws RX6 TX6 14, w ∈ xTs := fun w h => List.mem_filter.mpr ⟨(show ∀ w ∈ u_ws RX6 TX6 14, w ∈ lw_tbl by decide +kernel) w h, (show ∀ w ∈ u_ws RX6 TX6 14, goodWord w = true by decide +kernel) w h⟩
theorem xin_X7 : ∀ w ∈ u_ws RX7 TX7 3, w ∈ xTs := fun w h => List.mem_filter.mpr ⟨(show ∀ w ∈ u_ws RX7 TX7 3, w ∈ lw_tbl by decide +kernel) w h, (show ∀ w ∈ u_ws RX7 TX7 3, goodWord w = true by decide +kernel) w h⟩
theorem xin_X8 : ∀ w ∈ u_ws RX8 TX8 14, w ∈ xTs := fun w h => List.mem_filter.mpr ⟨(show ∀ w ∈ u_ws RX8 TX8 14, w ∈ lw_tbl by decide +kernel) w h, (show ∀ w ∈ u_ws RX8 TX8 14, goodWord w = true by decide +kernel) w h⟩
theorem xin_X9 : ∀ w ∈ u_ws RX9 TX9 21, w ∈ xTs := fun w h => List.mem_filter.mpr ⟨(show ∀ w ∈ u_ws RX9 TX9 21, w ∈ lw_tbl by decide +kernel) w h, (show ∀ w ∈ u_ws RX9 TX9 21, goodWord w = true by decide +kernel) w h⟩
def xNs : List (String × Nat × MethodName × String) := [(RX6, 95, yX8_between, "CoatGoals"), (RX6, 88, yX8_span, "CoatGoals"), (RX1, 45, yX8_between, "CoatGoals"), (RX7, 29, yX8_within, "CoatGoals"), (RX3, 37, yX8_between, "CoatGoals"), (RX2, 40, yX8_mayMove, "CoatGoals")]
theorem xf_X0_11 : xi_Fok RX0 xTs vwCl xft 11 0 0 3 := ⟨RX0, TX0, 3, tyX0, rfl, by decide, xin_X0, xw_in 178 (by decide +kernel) rfl, rfl, tyX0_ok, nmX0, by decide, by decide, by decide, by decide⟩
theorem xf_X0_19 : xi_Fok RX0 xTs vwCl xft 19 5 5 3 := ⟨RX6, TX6, 14, tyX6, rfl, by decide, xin_X6, xw_in 98 (by decide +kernel) rfl, rfl, tyX6_ok, nmX6, by decide, by decide, by decide, by decide⟩
theorem xf_X0_52 : xi_Fok RX0 xTs vwCl xft 52 0 1 0 := ⟨RX0, TX0, 3, tyX0, rfl, by decide, xin_X0, xw_in 179 (by decide +kernel) rfl, rfl, tyX0_ok, nmX0, by decide, by decide, by decide, by decide⟩
theorem xf_X0_56 : xi_Fok RX0 xTs vwCl xft 56 0 2 0 := ⟨RX0, TX0, 3, tyX0, rfl, by decide, xin_X0, xw_in 180 (by decide +kernel) rfl, rfl, tyX0_ok, nmX0, by decide, by decide, by decide, by decide⟩
def xfl_X0 : List (Nat × Nat × Nat × Nat) := [(11, 0, 0, 3), (19, 5, 5, 3), (52, 0, 1, 0), (56, 0, 2, 0)]
theorem xfa_X0 : ∀ q ∈ xfl_X0, xi_Fok RX0 xTs vwCl xft q.1 q.2.1 q.2.2.1 q.2.2.2 := List.forall_mem_cons.mpr ⟨xf_X0_11, List.forall_mem_cons.mpr ⟨xf_X0_19, List.forall_mem_cons.mpr ⟨xf_X0_52, List.forall_mem_cons.mpr ⟨xf_X0_56, fun _ h => absurd h List.not_mem_nil⟩⟩⟩⟩
theorem xfo_X0 : ∀ x ci k t, xi_tab xfl_X0 x = some (ci, k, t) → xi_Fok RX0 xTs vwCl xft x ci k t := fun x ci k t h => xfa_X0 (x, ci, k, t) (xi_tab_mem h)
def xki_X0 : List (Nat × Int32) := []
theorem xkia_X0 : ∀ q ∈ xki_X0, Cond.constant RX0 q.1 q.2 ∈ xTs := fun _ h => absurd h List.not_mem_nil
theorem xkio_X0 : ∀ x v, xi_tab xki_X0 x = some v → Cond.constant RX0 x v ∈ xTs := fun x v h => xkia_X0 (x, v) (xi_tab_mem h)
def xkl_X0 : List (Nat × Int64) := []
theorem xkla_X0 : ∀ q ∈ xkl_X0, Cond.constantLong RX0 q.1 q.2 ∈ xTs := fun _ h => absurd h List.not_mem_nil
theorem xklo_X0 : ∀ x v, xi_tab xkl_X0 x = some v → Cond.constantLong RX0 x v ∈ xTs := fun x v h => xkla_X0 (x, v) (xi_tab_mem h)
def xcs_X0 : List (Nat × Nat × Nat) := [(15, 4, 1), (24, 1, 1), (28, 1, 1), (40, 1, 1), (45, 1, 1)]
def xcv_X0 : List (Nat × Nat × Nat) := [(31, 2, 1), (34, 4, 1), (48, 5, 1)]
theorem xf_X1_9 : xi_Fok RX1 xTs vwCl xft 9 1 2 3 := ⟨RX1, TX1, 5, tyX1, rfl, by decide, xin_X1, xw_in 158 (by decide +kernel) rfl, rfl, tyX1_ok, nmX1, by decide, by decide, by decide, by decide⟩
theorem xf_X1_15 : xi_Fok RX1 xTs vwCl xft 15 1 3 3 := ⟨RX1, TX1, 5, tyX1, rfl, by decide, xin_X1, xw_in 159 (by decide +kernel) rfl, rfl, tyX1_ok, nmX1, by decide, by decide, by decide, by decide⟩
theorem xf_X1_18 : xi_Fok RX1 xTs vwCl xft 18 1 4 3 := ⟨RX1, TX1, 5, tyX1, rfl, by decide, xin_X1, xw_in 160 (by decide +kernel) rfl, rfl, tyX1_ok, nmX1, by decide, by decide, by decide, by decide⟩
theorem xf_X1_21 : xi_Fok RX1 xTs vwCl xft 21 5 0 0 := ⟨RX6, TX6, 14, tyX6, rfl, by decide, xin_X6, xw_in 84 (by decide +kernel) rfl, rfl, tyX6_ok, nmX6, by decide, by decide, by decide, by decide⟩
theorem xf_X1_27 : xi_Fok RX1 xTs vwCl xft 27 1 0 0 := ⟨RX1, TX1, 5, tyX1, rfl, by decide, xin_X1, xw_in 156 (by decide +kernel) rfl, rfl, tyX1_ok, nmX1, by decide, by decide, by decide, by decide⟩
theorem xf_X1_28 : xi_Fok RX1 xTs vwCl xft 28 5 1 0 := ⟨RX6, TX6, 14, tyX6, rfl, by decide, xin_X6, xw_in 88 (by decide +kernel) rfl, rfl, tyX6_ok, nmX6, by decide, by decide, by decide, by decide⟩
theorem xf_X1_31 : xi_Fok RX1 xTs vwCl xft 31 1 1 0 := ⟨RX1, TX1, 5, tyX1, rfl, by decide, xin_X1, xw_in 157 (by decide +kernel) rfl, rfl, tyX1_ok, nmX1, by decide, by decide, by decide, by decide⟩
theorem xf_X1_38 : xi_Fok RX1 xTs vwCl xft 38 5 8 3 := ⟨RX6, TX6, 14, tyX6, rfl, by decide, xin_X6, xw_in 107 (by decide +kernel) rfl, rfl, tyX6_ok, nmX6, by decide, by decide, by decide, by decide⟩
def xfl_X1 : List (Nat × Nat × Nat × Nat) := [(9, 1, 2, 3), (15, 1, 3, 3), (18, 1, 4, 3), (21, 5, 0, 0), (27, 1, 0, 0), (28, 5, 1, 0), (31, 1, 1, 0), (38, 5, 8, 3)]
theorem xfa_X1 : ∀ q ∈ xfl_X1, xi_Fok RX1 xTs vwCl xft q.1 q.2.1 q.2.2.1 q.2.2.2 := List.forall_mem_cons.mpr ⟨xf_X1_9, List.forall_mem_cons.mpr ⟨xf_X1_15, List.forall_mem_cons.mpr ⟨xf_X1_18, List.forall_mem_cons.mpr ⟨xf_X1_21, List.forall_mem_cons.mpr ⟨xf_X1_27, List.forall_mem_cons.mpr ⟨xf_X1_28, List.forall_mem_cons.mpr ⟨xf_X1_31, List.forall_mem_cons.mpr ⟨xf_X1_38, fun _ h => absurd h List.not_mem_nil⟩⟩⟩⟩⟩⟩⟩⟩
theorem xfo_X1 : ∀ x ci k t, xi_tab xfl_X1 x = some (ci, k, t) → xi_Fok RX1 xTs vwCl xft x ci k t := fun x ci k t h => xfa_X1 (x, ci, k, t) (xi_tab_mem h)
def xki_X1 : List (Nat × Int32) := []
theorem xkia_X1 : ∀ q ∈ xki_X1, Cond.constant RX1 q.1 q.2 ∈ xTs := fun _ h => absurd h List.not_mem_nil
theorem xkio_X1 : ∀ x v, xi_tab xki_X1 x = some v → Cond.constant RX1 x v ∈ xTs := fun x v h => xkia_X1 (x, v) (xi_tab_mem h)
def xkl_X1 : List (Nat × Int64) := []
theorem xkla_X1 : ∀ q ∈ xkl_X1, Cond.constantLong RX1 q.1 q.2 ∈ xTs := fun _ h => absurd h List.not_mem_nil
theorem xklo_X1 : ∀ x v, xi_tab xkl_X1 x = some v → Cond.constantLong RX1 x v ∈ xTs := fun x v h => xkla_X1 (x, v) (xi_tab_mem h)
def xcs_X1 : List (Nat × Nat × Nat) := [(45, 3, 1)]
def xcv_X1 : List (Nat × Nat × Nat) := [(34, 2, 1), (41, 3, 1)]
theorem xf_X2_9 : xi_Fok RX2 xTs vwCl xft 9 2 0 3 := ⟨RX2, TX2, 1, tyX2, rfl, by decide, xin_X2, xw_in 194 (by decide +kernel) rfl, rfl, tyX2_ok, nmX2, by decide, by decide, by decide, by decide⟩
theorem xf_X2_15 : xi_Fok RX2 xTs vwCl xft 15 5 5 3 := ⟨RX6, TX6, 14, tyX6, rfl, by decide, xin_X6, xw_in 97 (by decide +kernel) rfl, rfl, tyX6_ok, nmX6, by decide, by decide, by decide, by decide⟩
def xfl_X2 : List (Nat × Nat × Nat × Nat) := [(9, 2, 0, 3), (15, 5, 5, 3)]
theorem xfa_X2 : ∀ q ∈ xfl_X2, xi_Fok RX2 xTs vwCl xft q.1 q.2.1 q.2.2.1 q.2.2.2 := List.forall_mem_cons.mpr ⟨xf_X2_9, List.forall_mem_cons.mpr ⟨xf_X2_15, fun _ h => absurd h List.not_mem_nil⟩⟩
theorem xfo_X2 : ∀ x ci k t, xi_tab xfl_X2 x = some (ci, k, t) → xi_Fok RX2 xTs vwCl xft x ci k t := fun x ci k t h => xfa_X2 (x, ci, k, t) (xi_tab_mem h)
def xki_X2 : List (Nat × Int32) := []
theorem xkia_X2 : ∀ q ∈ xki_X2, Cond.constant RX2 q.1 q.2 ∈ xTs := fun _ h => absurd h List.not_mem_nil
theorem xkio_X2 : ∀ x v, xi_tab xki_X2 x = some v → Cond.constant RX2 x v ∈ xTs := fun x v h => xkia_X2 (x, v) (xi_tab_mem h)
def xkl_X2 : List (Nat × Int64) := []
theorem xkla_X2 : ∀ q ∈ xkl_X2, Cond.constantLong RX2 q.1 q.2 ∈ xTs := fun _ h => absurd h List.not_mem_nil
theorem xklo_X2 : ∀ x v, xi_tab xkl_X2 x = some v → Cond.constantLong RX2 x v ∈ xTs := fun x v h => xkla_X2 (x, v) (xi_tab_mem h)
def xcs_X2 : List (Nat × Nat × Nat) := [(18, 5, 0), (24, 2, 1), (30, 6, 1), (40, 3, 1), (44, 2, 1)]
def xcv_X2 : List (Nat × Nat × Nat) := [(34, 4, 1)]
theorem xf_X3_9 : xi_Fok RX3 xTs vwCl xft 9 3 2 3 := ⟨RX3, TX3, 3, tyX3, rfl, by decide, xin_X3, xw_in 208 (by decide +kernel) rfl, rfl, tyX3_ok, nmX3, by decide, by decide, by decide, by decide⟩
theorem xf_X3_15 : xi_Fok RX3 xTs vwCl xft 15 3 0 0 := ⟨RX3, TX3, 3, tyX3, rfl, by decide, xin_X3, xw_in 204 (by decide +kernel) rfl, rfl, tyX3_ok, nmX3, by decide, by decide, by decide, by decide⟩
theorem xf_X3_19 : xi_Fok RX3 xTs vwCl xft 19 3 1 0 := ⟨RX3, TX3, 3, tyX3, rfl, by decide, xin_X3, xw_in 206 (by decide +kernel) rfl, rfl, tyX3_ok, nmX3, by decide, by decide, by decide, by decide⟩
theorem xf_X3_34 : xi_Fok RX3 xTs vwCl xft 34 5 0 0 := ⟨RX6, TX6, 14, tyX6, rfl, by decide, xin_X6, xw_in 85 (by decide +kernel) rfl, rfl, tyX6_ok, nmX6, by decide, by decide, by decide, by decide⟩
theorem xf_X3_49 : xi_Fok RX3 xTs vwCl xft 49 6 1 0 := ⟨RX7, TX7, 3, tyX7, rfl, by decide, xin_X7, xw_in 224 (by decide +kernel) rfl, rfl, tyX7_ok, nmX7, by decide, by decide, by decide, by decide⟩
theorem xf_X3_54 : xi_Fok RX3 xTs vwCl xft 54 6 2 3 := ⟨RX7, TX7, 3, tyX7, rfl, by decide, xin_X7, xw_in 228 (by decide +kernel) rfl, rfl, tyX7_ok, nmX7, by decide, by decide, by decide, by decide⟩
def xfl_X3 : List (Nat × Nat × Nat × Nat) := [(9, 3, 2, 3), (15, 3, 0, 0), (19, 3, 1, 0), (34, 5, 0, 0), (49, 6, 1, 0), (54, 6, 2, 3)]
theorem xfa_X3 : ∀ q ∈ xfl_X3, xi_Fok RX3 xTs vwCl xft q.1 q.2.1 q.2.2.1 q.2.2.2 := List.forall_mem_cons.mpr ⟨xf_X3_9, List.forall_mem_cons.mpr ⟨xf_X3_15, List.forall_mem_cons.mpr ⟨xf_X3_19, List.forall_mem_cons.mpr ⟨xf_X3_34, List.forall_mem_cons.mpr ⟨xf_X3_49, List.forall_mem_cons.mpr ⟨xf_X3_54, fun _ h => absurd h List.not_mem_nil⟩⟩⟩⟩⟩⟩
theorem xfo_X3 : ∀ x ci k t, xi_tab xfl_X3 x = some (ci, k, t) → xi_Fok RX3 xTs vwCl xft x ci k t := fun x ci k t h => xfa_X3 (x, ci, k, t) (xi_tab_mem h)
def xki_X3 : List (Nat × Int32) := []
theorem xkia_X3 : ∀ q ∈ xki_X3, Cond.constant RX3 q.1 q.2 ∈ xTs := fun _ h => absurd h List.not_mem_nil
theorem xkio_X3 : ∀ x v, xi_tab xki_X3 x = some v → Cond.constant RX3 x v ∈ xTs := fun x v h => xkia_X3 (x, v) (xi_tab_mem h)
def xkl_X3 : List (Nat × Int64) := []
theorem xkla_X3 : ∀ q ∈ xkl_X3, Cond.constantLong RX3 q.1 q.2 ∈ xTs := fun _ h => absurd h List.not_mem_nil
theorem xklo_X3 : ∀ x v, xi_tab xkl_X3 x = some v → Cond.constantLong RX3 x v ∈ xTs := fun x v h => xkla_X3 (x, v) (xi_tab_mem h)
def xcs_X3 : List (Nat × Nat × Nat) := [(22, 2, 0), (37, 3, 1), (41, 2, 1), (57, 2, 1)]
def xcv_X3 : List (Nat × Nat × Nat) := [(28, 2, 1), (45, 4, 0), (63, 2, 1)]
def xfl_X4 : List (Nat × Nat × Nat × Nat) := []
theorem xfa_X4 : ∀ q ∈ xfl_X4, xi_Fok RX4 xTs vwCl xft q.1 q.2.1 q.2.2.1 q.2.2.2 := fun _ h => absurd h List.not_mem_nil
theorem xfo_X4 : ∀ x ci k t, xi_tab xfl_X4 x = some (ci, k, t) → xi_Fok RX4 xTs vwCl xft x ci k t := fun x ci k t h => xfa_X4 (x, ci, k, t) (xi_tab_mem h)
def xki_X4 : List (Nat × Int32) := []
theorem xkia_X4 : ∀ q ∈ xki_X4, Cond.constant RX4 q.1 q.2 ∈ xTs := fun _ h => absurd h List.not_mem_nil
theorem xkio_X4 : ∀ x v, xi_tab xki_X4 x = some v → Cond.constant RX4 x v ∈ xTs := fun x v h => xkia_X4 (x, v) (xi_tab_mem h)
def xkl_X4 : List (Nat × Int64) := []
theorem xkla_X4 : ∀ q ∈ xkl_X4, Cond.constantLong RX4 q.1 q.2 ∈ xTs := fun _ h => absurd h List.not_mem_nil
theorem xklo_X4 : ∀ x v, xi_tab xkl_X4 x = some v → Cond.constantLong RX4 x v ∈ xTs := fun x v h => xkla_X4 (x, v) (xi_tab_mem h)
def xcs_X4 : List (Nat × Nat × Nat) := [(11, 2, 1), (15, 2, 1), (21, 2, 1)]
def xcv_X4 : List (Nat × Nat × Nat) := []
theorem xf_X5_9 : xi_Fok RX5 xTs vwCl xft 9 4 2 0 := ⟨RX5, TX5, 3, tyX5, rfl, by decide, xin_X5, xw_in 362 (by decide +kernel) rfl, rfl, tyX5_ok, nmX5, by decide, by decide, by decide, by decide⟩
theorem xf_X5_15 : xi_Fok RX5 xTs vwCl xft 15 4 0 3 := ⟨RX5, TX5, 3, tyX5, rfl, by decide, xin_X5, xw_in 360 (by decide +kernel) rfl, rfl, tyX5_ok, nmX5, by decide, by decide, by decide, by decide⟩
theorem xf_X5_46 : xi_Fok RX5 xTs vwCl xft 46 5 0 0 := ⟨RX6, TX6, 14, tyX6, rfl, by decide, xin_X6, xw_in 86 (by decide +kernel) rfl, rfl, tyX6_ok, nmX6, by decide, by decide, by decide, by decide⟩
theorem xf_X5_49 : xi_Fok RX5 xTs vwCl xft 49 5 5 3 := ⟨RX6, TX6, 14, tyX6, rfl, by decide, xin_X6, xw_in 99 (by decide +kernel) rfl, rfl, tyX6_ok, nmX6, by decide, by decide, by decide, by decide⟩
theorem xf_X5_57 : xi_Fok RX5 xTs vwCl xft 57 4 1 0 := ⟨RX5, TX5, 3, tyX5, rfl, by decide, xin_X5, xw_in 361 (by decide +kernel) rfl, rfl, tyX5_ok, nmX5, by decide, by decide, by decide, by decide⟩
theorem xf_X5_60 : xi_Fok RX5 xTs vwCl xft 60 6 1 0 := ⟨RX7, TX7, 3, tyX7, rfl, by decide, xin_X7, xw_in 225 (by decide +kernel) rfl, rfl, tyX7_ok, nmX7, by decide, by decide, by decide, by decide⟩
theorem xf_X5_65 : xi_Fok RX5 xTs vwCl xft 65 6 2 3 := ⟨RX7, TX7, 3, tyX7, rfl, by decide, xin_X7, xw_in 230 (by decide +kernel) rfl, rfl, tyX7_ok, nmX7, by decide, by decide, by decide, by decide⟩
theorem xf_X5_73 : xi_Fok RX5 xTs vwCl xft 73 5 7 3 := ⟨RX6, TX6, 14, tyX6, rfl, by decide, xin_X6, xw_in 104 (by decide +kernel) rfl, rfl, tyX6_ok, nmX6, by decide, by decide, by decide, by decide⟩
theorem xf_X5_76 : xi_Fok RX5 xTs vwCl xft 76 5 8 3 := ⟨RX6, TX6, 14, tyX6, rfl, by decide, xin_X6, xw_in 108 (by decide +kernel) rfl, rfl, tyX6_ok, nmX6, by decide, by decide, by decide, by decide⟩
theorem xf_X5_79 : xi_Fok RX5 xTs vwCl xft 79 5 9 3 := ⟨RX6, TX6, 14, tyX6, rfl, by decide, xin_X6, xw_in 111 (by decide +kernel) rfl, rfl, tyX6_ok, nmX6, by decide, by decide, by decide, by decide⟩
theorem xf_X5_82 : xi_Fok RX5 xTs vwCl xft 82 5 10 3 := ⟨RX6, TX6, 14, tyX6, rfl, by decide, xin_X6, xw_in 114 (by decide +kernel) rfl, rfl, tyX6_ok, nmX6, by decide, by decide, by decide, by decide⟩
theorem xf_X5_85 : xi_Fok RX5 xTs vwCl xft 85 5 1 0 := ⟨RX6, TX6, 14, tyX6, rfl, by decide, xin_X6, xw_in 89 (by decide +kernel) rfl, rfl, tyX6_ok, nmX6, by decide, by decide, by decide, by decide⟩
def xfl_X5 : List (Nat × Nat × Nat × Nat) := [(9, 4, 2, 0), (15, 4, 0, 3), (46, 5, 0, 0), (49, 5, 5, 3), (57, 4, 1, 0), (60, 6, 1, 0), (65, 6, 2, 3), (73, 5, 7, 3), (76, 5, 8, 3), (79, 5, 9, 3), (82, 5, 10, 3), (85, 5, 1, 0)]
theorem xfa_X5 : ∀ q ∈ xfl_X5, xi_Fok RX5 xTs vwCl xft q.1 q.2.1 q.2.2.1 q.2.2.2 := List.forall_mem_cons.mpr ⟨xf_X5_9, List.forall_mem_cons.mpr ⟨xf_X5_15, List.forall_mem_cons.mpr ⟨xf_X5_46, List.forall_mem_cons.mpr ⟨xf_X5_49, List.forall_mem_cons.mpr ⟨xf_X5_57, List.forall_mem_cons.mpr ⟨xf_X5_60, List.forall_mem_cons.mpr ⟨xf_X5_65, List.forall_mem_cons.mpr ⟨xf_X5_73, List.forall_mem_cons.mpr ⟨xf_X5_76, List.forall_mem_cons.mpr ⟨xf_X5_79, List.forall_mem_cons.mpr ⟨xf_X5_82, List.forall_mem_cons.mpr ⟨xf_X5_85, fun _ h => absurd h List.not_mem_nil⟩⟩⟩⟩⟩⟩⟩⟩⟩⟩⟩⟩
theorem xfo_X5 : ∀ x ci k t, xi_tab xfl_X5 x = some (ci, k, t) → xi_Fok RX5 xTs vwCl xft x ci k t := fun x ci k t h => xfa_X5 (x, ci, k, t) (xi_tab_mem h)
def xki_X5 : List (Nat × Int32) := []
theorem xkia_X5 : ∀ q ∈ xki_X5, Cond.constant RX5 q.1 q.2 ∈ xTs := fun _ h => absurd h List.not_mem_nil
theorem xkio_X5 : ∀ x v, xi_tab xki_X5 x = some v → Cond.constant RX5 x v ∈ xTs := fun x v h => xkia_X5 (x, v) (xi_tab_mem h)
def xkl_X5 : List (Nat × Int64) := []
theorem xkla_X5 : ∀ q ∈ xkl_X5, Cond.constantLong RX5 q.1 q.2 ∈ xTs := fun _ h => absurd h List.not_mem_nil
theorem xklo_X5 : ∀ x v, xi_tab xkl_X5 x = some v → Cond.constantLong RX5 x v ∈ xTs := fun x v h => xkla_X5 (x, v) (xi_tab_mem h)
def xcs_X5 : List (Nat × Nat × Nat) := [(68, 1, 1)]
def xcv_X5 : List (Nat × Nat × Nat) := [(19, 1, 0), (24, 2, 0), (28, 3, 0), (32, 3, 0), (35, 1, 0), (38, 2, 0), (42, 3, 1), (53, 2, 1)]
theorem xf_X6_9 : xi_Fok RX6 xTs vwCl xft 9 5 5 3 := ⟨RX6, TX6, 14, tyX6, rfl, by decide, xin_X6, xw_in 96 (by decide +kernel) rfl, rfl, tyX6_ok, nmX6, by decide, by decide, by decide, by decide⟩
theorem xf_X6_15 : xi_Fok RX6 xTs vwCl xft 15 5 6 3 := ⟨RX6, TX6, 14, tyX6, rfl, by decide, xin_X6, xw_in 101 (by decide +kernel) rfl, rfl, tyX6_ok, nmX6, by decide, by decide, by decide, by decide⟩
theorem xf_X6_18 : xi_Fok RX6 xTs vwCl xft 18 5 7 3 := ⟨RX6, TX6, 14, tyX6, rfl, by decide, xin_X6, xw_in 103 (by decide +kernel) rfl, rfl, tyX6_ok, nmX6, by decide, by decide, by decide, by decide⟩
theorem xf_X6_21 : xi_Fok RX6 xTs vwCl xft 21 5 8 3 := ⟨RX6, TX6, 14, tyX6, rfl, by decide, xin_X6, xw_in 106 (by decide +kernel) rfl, rfl, tyX6_ok, nmX6, by decide, by decide, by decide, by decide⟩
theorem xf_X6_24 : xi_Fok RX6 xTs vwCl xft 24 5 9 3 := ⟨RX6, TX6, 14, tyX6, rfl, by decide, xin_X6, xw_in 110 (by decide +kernel) rfl, rfl, tyX6_ok, nmX6, by decide, by decide, by decide, by decide⟩
theorem xf_X6_27 : xi_Fok RX6 xTs vwCl xft 27 5 10 3 := ⟨RX6, TX6, 14, tyX6, rfl, by decide, xin_X6, xw_in 113 (by decide +kernel) rfl, rfl, tyX6_ok, nmX6, by decide, by decide, by decide, by decide⟩
theorem xf_X6_30 : xi_Fok RX6 xTs vwCl xft 30 5 11 3 := ⟨RX6, TX6, 14, tyX6, rfl, by decide, xin_X6, xw_in 116 (by decide +kernel) rfl, rfl, tyX6_ok, nmX6, by decide, by decide, by decide, by decide⟩
theorem xf_X6_33 : xi_Fok RX6 xTs vwCl xft 33 5 12 3 := ⟨RX6, TX6, 14, tyX6, rfl, by decide, xin_X6, xw_in 117 (by decide +kernel) rfl, rfl, tyX6_ok, nmX6, by decide, by decide, by decide, by decide⟩
theorem xf_X6_36 : xi_Fok RX6 xTs vwCl xft 36 5 13 3 := ⟨RX6, TX6, 14, tyX6, rfl, by decide, xin_X6, xw_in 118 (by decide +kernel) rfl, rfl, tyX6_ok, nmX6, by decide, by decide, by decide, by decide⟩
theorem xf_X6_39 : xi_Fok RX6 xTs vwCl xft 39 5 0 0 := ⟨RX6, TX6, 14, tyX6, rfl, by decide, xin_X6, xw_in 83 (by decide +kernel) rfl, rfl, tyX6_ok, nmX6, by decide, by decide, by decide, by decide⟩
theorem xf_X6_43 : xi_Fok RX6 xTs vwCl xft 43 5 1 0 := ⟨RX6, TX6, 14, tyX6, rfl, by decide, xin_X6, xw_in 87 (by decide +kernel) rfl, rfl, tyX6_ok, nmX6, by decide, by decide, by decide, by decide⟩
theorem xf_X6_46 : xi_Fok RX6 xTs vwCl xft 46 5 2 0 := ⟨RX6, TX6, 14, tyX6, rfl, by decide, xin_X6, xw_in 91 (by decide +kernel) rfl, rfl, tyX6_ok, nmX6, by decide, by decide, by decide, by decide⟩
theorem xf_X6_49 : xi_Fok RX6 xTs vwCl xft 49 5 3 0 := ⟨RX6, TX6, 14, tyX6, rfl, by decide, xin_X6, xw_in 92 (by decide +kernel) rfl, rfl, tyX6_ok, nmX6, by decide, by decide, by decide, by decide⟩
theorem xf_X6_52 : xi_Fok RX6 xTs vwCl xft 52 5 4 0 := ⟨RX6, TX6, 14, tyX6, rfl, by decide, xin_X6, xw_in 94 (by decide +kernel) rfl, rfl, tyX6_ok, nmX6, by decide, by decide, by decide, by decide⟩
def xfl_X6 : List (Nat × Nat × Nat × Nat) := [(9, 5, 5, 3), (15, 5, 6, 3), (18, 5, 7, 3), (21, 5, 8, 3), (24, 5, 9, 3), (27, 5, 10, 3), (30, 5, 11, 3), (33, 5, 12, 3), (36, 5, 13, 3), (39, 5, 0, 0), (43, 5, 1, 0), (46, 5, 2, 0), (49, 5, 3, 0), (52, 5, 4, 0)]
theorem xfa_X6 : ∀ q ∈ xfl_X6, xi_Fok RX6 xTs vwCl xft q.1 q.2.1 q.2.2.1 q.2.2.2 := List.forall_mem_cons.mpr ⟨xf_X6_9, List.forall_mem_cons.mpr ⟨xf_X6_15, List.forall_mem_cons.mpr ⟨xf_X6_18, List.forall_mem_cons.mpr ⟨xf_X6_21, List.forall_mem_cons.mpr ⟨xf_X6_24, List.forall_mem_cons.mpr ⟨xf_X6_27, List.forall_mem_cons.mpr ⟨xf_X6_30, List.forall_mem_cons.mpr ⟨xf_X6_33, List.forall_mem_cons.mpr ⟨xf_X6_36, List.forall_mem_cons.mpr ⟨xf_X6_39, List.forall_mem_cons.mpr ⟨xf_X6_43, List.forall_mem_cons.mpr ⟨xf_X6_46, List.forall_mem_cons.mpr ⟨xf_X6_49, List.forall_mem_cons.mpr ⟨xf_X6_52, fun _ h => absurd h List.not_mem_nil⟩⟩⟩⟩⟩⟩⟩⟩⟩⟩⟩⟩⟩⟩
theorem xfo_X6 : ∀ x ci k t, xi_tab xfl_X6 x = some (ci, k, t) → xi_Fok RX6 xTs vwCl xft x ci k t := fun x ci k t h => xfa_X6 (x, ci, k, t) (xi_tab_mem h)
def xki_X6 : List (Nat × Int32) := [(91, 2097151)]
theorem xkia_X6 : ∀ q ∈ xki_X6, Cond.constant RX6 q.1 q.2 ∈ xTs := List.forall_mem_cons.mpr ⟨xw_in 467 (by decide +kernel) rfl, fun _ h => absurd h List.not_mem_nil⟩
theorem xkio_X6 : ∀ x v, xi_tab xki_X6 x = some v → Cond.constant RX6 x v ∈ xTs := fun x v h => xkia_X6 (x, v) (xi_tab_mem h)
def xkl_X6 : List (Nat × Int64) := []
theorem xkla_X6 : ∀ q ∈ xkl_X6, Cond.constantLong RX6 q.1 q.2 ∈ xTs := fun _ h => absurd h List.not_mem_nil
theorem xklo_X6 : ∀ x v, xi_tab xkl_X6 x = some v → Cond.constantLong RX6 x v ∈ xTs := fun x v h => xkla_X6 (x, v) (xi_tab_mem h)
def xcs_X6 : List (Nat × Nat × Nat) := [(55, 2, 0), (61, 5, 0), (67, 4, 1), (76, 2, 1), (82, 2, 1), (85, 2, 1), (88, 2, 1), (95, 3, 1), (114, 1, 1), (119, 1, 1), (125, 2, 1)]
def xcv_X6 : List (Nat × Nat × Nat) := [(73, 2, 1), (92, 2, 1), (99, 2, 1), (102, 3, 1), (105, 2, 1), (108, 2, 1), (111, 2, 1), (122, 2, 1), (129, 4, 0), (133, 3, 0), (137, 4, 0)]
theorem xf_X7_9 : xi_Fok RX7 xTs vwCl xft 9 6 2 3 := ⟨RX7, TX7, 3, tyX7, rfl, by decide, xin_X7, xw_in 227 (by decide +kernel) rfl, rfl, tyX7_ok, nmX7, by decide, by decide, by decide, by decide⟩
theorem xf_X7_15 : xi_Fok RX7 xTs vwCl xft 15 6 0 1 := ⟨RX7, TX7, 3, tyX7, rfl, by decide, xin_X7, xw_in 221 (by decide +kernel) rfl, rfl, tyX7_ok, nmX7, by decide, by decide, by decide, by decide⟩
theorem xf_X7_19 : xi_Fok RX7 xTs vwCl xft 19 6 1 0 := ⟨RX7, TX7, 3, tyX7, rfl, by decide, xin_X7, xw_in 223 (by decide +kernel) rfl, rfl, tyX7_ok, nmX7, by decide, by decide, by decide, by decide⟩
def xfl_X7 : List (Nat × Nat × Nat × Nat) := [(9, 6, 2, 3), (15, 6, 0, 1), (19, 6, 1, 0)]
theorem xfa_X7 : ∀ q ∈ xfl_X7, xi_Fok RX7 xTs vwCl xft q.1 q.2.1 q.2.2.1 q.2.2.2 := List.forall_mem_cons.mpr ⟨xf_X7_9, List.forall_mem_cons.mpr ⟨xf_X7_15, List.forall_mem_cons.mpr ⟨xf_X7_19, fun _ h => absurd h List.not_mem_nil⟩⟩⟩
theorem xfo_X7 : ∀ x ci k t, xi_tab xfl_X7 x = some (ci, k, t) → xi_Fok RX7 xTs vwCl xft x ci k t := fun x ci k t h => xfa_X7 (x, ci, k, t) (xi_tab_mem h)
def xki_X7 : List (Nat × Int32) := []
theorem xkia_X7 : ∀ q ∈ xki_X7, Cond.constant RX7 q.1 q.2 ∈ xTs := fun _ h => absurd h List.not_mem_nil
theorem xkio_X7 : ∀ x v, xi_tab xki_X7 x = some v → Cond.constant RX7 x v ∈ xTs := fun x v h => xkia_X7 (x, v) (xi_tab_mem h)
def xkl_X7 : List (Nat × Int64) := [(33, 31)]
theorem xkla_X7 : ∀ q ∈ xkl_X7, Cond.constantLong RX7 q.1 q.2 ∈ xTs := List.forall_mem_cons.mpr ⟨xw_in 821 (by decide +kernel) rfl, fun _ h => absurd h List.not_mem_nil⟩
theorem xklo_X7 : ∀ x v, xi_tab xkl_X7 x = some v → Cond.constantLong RX7 x v ∈ xTs := fun x v h => xkla_X7 (x, v) (xi_tab_mem h)
def xcs_X7 : List (Nat × Nat × Nat) := [(23, 2, 0), (29, 2, 1)]
def xcv_X7 : List (Nat × Nat × Nat) := []
theorem xf_X8_11 : xi_Fok RX8 xTs vwCl xft 11 7 0 3 := ⟨RX8, TX8, 14, tyX8, rfl, by decide, xin_X8, xw_in 238 (by decide +kernel) rfl, rfl, tyX8_ok, nmX8, by decide, by decide, by decide, by decide⟩
theorem xf_X8_15 : xi_Fok RX8 xTs vwCl xft 15 7 1 3 := ⟨RX8, TX8, 14, tyX8, rfl, by decide, xin_X8, xw_in 239 (by decide +kernel) rfl, rfl, tyX8_ok, nmX8, by decide, by decide, by decide, by decide⟩
theorem xf_X8_21 : xi_Fok RX8 xTs vwCl xft 21 7 2 3 := ⟨RX8, TX8, 14, tyX8, rfl, by decide, xin_X8, xw_in 240 (by decide +kernel) rfl, rfl, tyX8_ok, nmX8, by decide, by decide, by decide, by decide⟩
theorem xf_X8_25 : xi_Fok RX8 xTs vwCl xft 25 7 3 3 := ⟨RX8, TX8, 14, tyX8, rfl, by decide, xin_X8, xw_in 241 (by decide +kernel) rfl, rfl, tyX8_ok, nmX8, by decide, by decide, by decide, by decide⟩
theorem xf_X8_28 : xi_Fok RX8 xTs vwCl xft 28 7 4 3 := ⟨RX8, TX8, 14, tyX8, rfl, by decide, xin_X8, xw_in 242 (by decide +kernel) rfl, rfl, tyX8_ok, nmX8, by decide, by decide, by decide, by decide⟩
theorem xf_X8_35 : xi_Fok RX8 xTs vwCl xft 35 7 5 3 := ⟨RX8, TX8, 14, tyX8, rfl, by decide, xin_X8, xw_in 243 (by decide +kernel) rfl, rfl, tyX8_ok, nmX8, by decide, by decide, by decide, by decide⟩
theorem xf_X8_42 : xi_Fok RX8 xTs vwCl xft 42 7 6 3 := ⟨RX8, TX8, 14, tyX8, rfl, by decide, xin_X8, xw_in 244 (by decide +kernel) rfl, rfl, tyX8_ok, nmX8, by decide, by decide, by decide, by decide⟩
theorem xf_X8_49 : xi_Fok RX8 xTs vwCl xft 49 7 7 3 := ⟨RX8, TX8, 14, tyX8, rfl, by decide, xin_X8, xw_in 245 (by decide +kernel) rfl, rfl, tyX8_ok, nmX8, by decide, by decide, by decide, by decide⟩
theorem xf_X8_56 : xi_Fok RX8 xTs vwCl xft 56 7 8 3 := ⟨RX8, TX8, 14, tyX8, rfl, by decide, xin_X8, xw_in 246 (by decide +kernel) rfl, rfl, tyX8_ok, nmX8, by decide, by decide, by decide, by decide⟩
theorem xf_X8_60 : xi_Fok RX8 xTs vwCl xft 60 7 9 3 := ⟨RX8, TX8, 14, tyX8, rfl, by decide, xin_X8, xw_in 247 (by decide +kernel) rfl, rfl, tyX8_ok, nmX8, by decide, by decide, by decide, by decide⟩
theorem xf_X8_64 : xi_Fok RX8 xTs vwCl xft 64 7 13 2 := ⟨RX8, TX8, 14, tyX8, rfl, by decide, xin_X8, xw_in 251 (by decide +kernel) rfl, rfl, tyX8_ok, nmX8, by decide, by decide, by decide, by decide⟩
theorem xf_X8_86 : xi_Fok RX8 xTs vwCl xft 86 6 2 3 := ⟨RX7, TX7, 3, tyX7, rfl, by decide, xin_X7, xw_in 229 (by decide +kernel) rfl, rfl, tyX7_ok, nmX7, by decide, by decide, by decide, by decide⟩
theorem xf_X8_92 : xi_Fok RX8 xTs vwCl xft 92 6 0 1 := ⟨RX7, TX7, 3, tyX7, rfl, by decide, xin_X7, xw_in 222 (by decide +kernel) rfl, rfl, tyX7_ok, nmX7, by decide, by decide, by decide, by decide⟩
theorem xf_X8_105 : xi_Fok RX8 xTs vwCl xft 105 6 1 0 := ⟨RX7, TX7, 3, tyX7, rfl, by decide, xin_X7, xw_in 226 (by decide +kernel) rfl, rfl, tyX7_ok, nmX7, by decide, by decide, by decide, by decide⟩
theorem xf_X8_129 : xi_Fok RX8 xTs vwCl xft 129 5 1 0 := ⟨RX6, TX6, 14, tyX6, rfl, by decide, xin_X6, xw_in 90 (by decide +kernel) rfl, rfl, tyX6_ok, nmX6, by decide, by decide, by decide, by decide⟩
theorem xf_X8_142 : xi_Fok RX8 xTs vwCl xft 142 5 7 3 := ⟨RX6, TX6, 14, tyX6, rfl, by decide, xin_X6, xw_in 105 (by decide +kernel) rfl, rfl, tyX6_ok, nmX6, by decide, by decide, by decide, by decide⟩
theorem xf_X8_151 : xi_Fok RX8 xTs vwCl xft 151 5 9 3 := ⟨RX6, TX6, 14, tyX6, rfl, by decide, xin_X6, xw_in 112 (by decide +kernel) rfl, rfl, tyX6_ok, nmX6, by decide, by decide, by decide, by decide⟩
theorem xf_X8_167 : xi_Fok RX8 xTs vwCl xft 167 5 8 3 := ⟨RX6, TX6, 14, tyX6, rfl, by decide, xin_X6, xw_in 109 (by decide +kernel) rfl, rfl, tyX6_ok, nmX6, by decide, by decide, by decide, by decide⟩
theorem xf_X8_176 : xi_Fok RX8 xTs vwCl xft 176 5 3 0 := ⟨RX6, TX6, 14, tyX6, rfl, by decide, xin_X6, xw_in 93 (by decide +kernel) rfl, rfl, tyX6_ok, nmX6, by decide, by decide, by decide, by decide⟩
theorem xf_X8_183 : xi_Fok RX8 xTs vwCl xft 183 5 4 0 := ⟨RX6, TX6, 14, tyX6, rfl, by decide, xin_X6, xw_in 95 (by decide +kernel) rfl, rfl, tyX6_ok, nmX6, by decide, by decide, by decide, by decide⟩
theorem xf_X8_192 : xi_Fok RX8 xTs vwCl xft 192 5 5 3 := ⟨RX6, TX6, 14, tyX6, rfl, by decide, xin_X6, xw_in 100 (by decide +kernel) rfl, rfl, tyX6_ok, nmX6, by decide, by decide, by decide, by decide⟩
theorem xf_X8_221 : xi_Fok RX8 xTs vwCl xft 221 5 6 3 := ⟨RX6, TX6, 14, tyX6, rfl, by decide, xin_X6, xw_in 102 (by decide +kernel) rfl, rfl, tyX6_ok, nmX6, by decide, by decide, by decide, by decide⟩
theorem xf_X8_248 : xi_Fok RX8 xTs vwCl xft 248 3 0 0 := ⟨RX3, TX3, 3, tyX3, rfl, by decide, xin_X3, xw_in 205 (by decide +kernel) rfl, rfl, tyX3_ok, nmX3, by decide, by decide, by decide, by decide⟩
theorem xf_X8_255 : xi_Fok RX8 xTs vwCl xft 255 3 1 0 := ⟨RX3, TX3, 3, tyX3, rfl, by decide, xin_X3, xw_in 207 (by decide +kernel) rfl, rfl, tyX3_ok, nmX3, by decide, by decide, by decide, by decide⟩
theorem xf_X8_271 : xi_Fok RX8 xTs vwCl xft 271 5 10 3 := ⟨RX6, TX6, 14, tyX6, rfl, by decide, xin_X6, xw_in 115 (by decide +kernel) rfl, rfl, tyX6_ok, nmX6, by decide, by decide, by decide, by decide⟩
theorem xf_X8_298 : xi_Fok RX8 xTs vwCl xft 298 7 11 0 := ⟨RX8, TX8, 14, tyX8, rfl, by decide, xin_X8, xw_in 249 (by decide +kernel) rfl, rfl, tyX8_ok, nmX8, by decide, by decide, by decide, by decide⟩
theorem xf_X8_301 : xi_Fok RX8 xTs vwCl xft 301 7 12 2 := ⟨RX8, TX8, 14, tyX8, rfl, by decide, xin_X8, xw_in 250 (by decide +kernel) rfl, rfl, tyX8_ok, nmX8, by decide, by decide, by decide, by decide⟩
theorem xf_X8_314 : xi_Fok RX8 xTs vwCl xft 314 7 10 0 := ⟨RX8, TX8, 14, tyX8, rfl, by decide, xin_X8, xw_in 248 (by decide +kernel) rfl, rfl, tyX8_ok, nmX8, by decide, by decide, by decide, by decide⟩
def xfl_X8 : List (Nat × Nat × Nat × Nat) := [(11, 7, 0, 3), (15, 7, 1, 3), (21, 7, 2, 3), (25, 7, 3, 3), (28, 7, 4, 3), (35, 7, 5, 3), (42, 7, 6, 3), (49, 7, 7, 3), (56, 7, 8, 3), (60, 7, 9, 3), (64, 7, 13, 2), (86, 6, 2, 3), (92, 6, 0, 1), (105, 6, 1, 0), (129, 5, 1, 0), (142, 5, 7, 3), (151, 5, 9, 3), (167, 5, 8, 3), (176, 5, 3, 0), (183, 5, 4, 0), (192, 5, 5, 3), (221, 5, 6, 3), (248, 3, 0, 0), (255, 3, 1, 0), (271, 5, 10, 3), (298, 7, 11, 0), (301, 7, 12, 2), (314, 7, 10, 0)]
theorem xfa_X8 : ∀ q ∈ xfl_X8, xi_Fok RX8 xTs vwCl xft q.1 q.2.1 q.2.2.1 q.2.2.2 := List.forall_mem_cons.mpr ⟨xf_X8_11, List.forall_mem_cons.mpr ⟨xf_X8_15, List.forall_mem_cons.mpr ⟨xf_X8_21, List.forall_mem_cons.mpr ⟨xf_X8_25, List.forall_mem_cons.mpr ⟨xf_X8_28, List.forall_mem_cons.mpr ⟨xf_X8_35, List.forall_mem_cons.mpr ⟨xf_X8_42, List.forall_mem_cons.mpr ⟨xf_X8_49, List.forall_mem_cons.mpr ⟨xf_X8_56, List.forall_mem_cons.mpr ⟨xf_X8_60, List.forall_mem_cons.mpr ⟨xf_X8_64, List.forall_mem_cons.mpr ⟨xf_X8_86, List.forall_mem_cons.mpr ⟨xf_X8_92, List.forall_mem_cons.mpr ⟨xf_X8_105, List.forall_mem_cons.mpr ⟨xf_X8_129, List.forall_mem_cons.mpr ⟨xf_X8_142, List.forall_mem_cons.mpr ⟨xf_X8_151, List.forall_mem_cons.mpr ⟨xf_X8_167, List.forall_mem_cons.mpr ⟨xf_X8_176, List.forall_mem_cons.mpr ⟨xf_X8_183, List.forall_mem_cons.mpr ⟨xf_X8_192, List.forall_mem_cons.mpr ⟨xf_X8_221, List.forall_mem_cons.mpr ⟨xf_X8_248, List.forall_mem_cons.mpr ⟨xf_X8_255, List.forall_mem_cons.mpr ⟨xf_X8_271, List.forall_mem_cons.mpr ⟨xf_X8_298, List.forall_mem_cons.mpr ⟨xf_X8_301, List.forall_mem_cons.mpr ⟨xf_X8_314, fun _ h => absurd h List.not_mem_nil⟩⟩⟩⟩⟩⟩⟩⟩⟩⟩⟩⟩⟩⟩⟩⟩⟩⟩⟩⟩⟩⟩⟩⟩⟩⟩⟩⟩
theorem xfo_X8 : ∀ x ci k t, xi_tab xfl_X8 x = some (ci, k, t) → xi_Fok RX8 xTs vwCl xft x ci k t := fun x ci k t h => xfa_X8 (x, ci, k, t) (xi_tab_mem h)
def xki_X8 : List (Nat × Int32) := []
theorem xkia_X8 : ∀ q ∈ xki_X8, Cond.constant RX8 q.1 q.2 ∈ xTs := fun _ h => absurd h List.not_mem_nil
theorem xkio_X8 : ∀ x v, xi_tab xki_X8 x = some v → Cond.constant RX8 x v ∈ xTs := fun x v h => xkia_X8 (x, v) (xi_tab_mem h)
def xkl_X8 : List (Nat × Int64) := [(289, 12), (291, 2147483647), (293, 48271), (317, 17), (319, 31)]
theorem xkla_X8 : ∀ q ∈ xkl_X8, Cond.constantLong RX8 q.1 q.2 ∈ xTs := List.forall_mem_cons.mpr ⟨xw_in 759 (by decide +kernel) rfl, List.forall_mem_cons.mpr ⟨xw_in 764 (by decide +kernel) rfl, List.forall_mem_cons.mpr ⟨xw_in 765 (by decide +kernel) rfl, List.forall_mem_cons.mpr ⟨xw_in 814 (by decide +kernel) rfl, List.forall_mem_cons.mpr ⟨xw_in 815 (by decide +kernel) rfl, fun _ h => absurd h List.not_mem_nil⟩⟩⟩⟩⟩
theorem xklo_X8 : ∀ x v, xi_tab xkl_X8 x = some v → Cond.constantLong RX8 x v ∈ xTs := fun x v h => xkla_X8 (x, v) (xi_tab_mem h)
def xcs_X8 : List (Nat × Nat × Nat) := [(71, 2, 1), (99, 5, 0), (145, 2, 1), (154, 1, 1), (162, 1, 1), (195, 3, 1), (274, 4, 1), (304, 1, 1), (328, 2, 1), (334, 4, 1)]
def xcv_X8 : List (Nat × Nat × Nat) := [(75, 4, 1), (79, 2, 1), (83, 2, 1), (89, 2, 1), (96, 3, 1), (109, 1, 2), (118, 2, 1), (122, 2, 0), (126, 1, 0), (132, 2, 1), (136, 3, 1), (148, 2, 1), (159, 2, 1), (170, 3, 1), (173, 3, 1), (179, 4, 1), (186, 2, 1), (189, 2, 0), (199, 2, 1), (202, 3, 0), (206, 2, 0), (209, 3, 0), (212, 2, 1), (215, 2, 1), (218, 2, 1), (224, 3, 1), (227, 2, 0), (228, 3, 0), (232, 3, 1), (235, 3, 0), (238, 2, 0), (242, 3, 1), (245, 4, 0), (251, 3, 0), (258, 2, 1), (261, 1, 1), (265, 2, 1), (268, 3, 1), (278, 2, 1), (281, 4, 1), (285, 3, 2), (295, 2, 0), (308, 1, 1), (311, 2, 1), (321, 2, 1), (324, 2, 2), (331, 3, 1)]
theorem xf_X9_7 : xi_Fok RX9 xTs vwCl xft 7 8 0 3 := ⟨RX9, TX9, 21, tyX9, rfl, by decide, xin_X9, xw_in 828 (by decide +kernel) rfl, rfl, tyX9_ok, nmX9, by decide, by decide, by decide, by decide⟩
theorem xf_X9_13 : xi_Fok RX9 xTs vwCl xft 13 8 1 3 := ⟨RX9, TX9, 21, tyX9, rfl, by decide, xin_X9, xw_in 829 (by decide +kernel) rfl, rfl, tyX9_ok, nmX9, by decide, by decide, by decide, by decide⟩
theorem xf_X9_16 : xi_Fok RX9 xTs vwCl xft 16 8 2 3 := ⟨RX9, TX9, 21, tyX9, rfl, by decide, xin_X9, xw_in 830 (by decide +kernel) rfl, rfl, tyX9_ok, nmX9, by decide, by decide, by decide, by decide⟩
theorem xf_X9_19 : xi_Fok RX9 xTs vwCl xft 19 8 3 3 := ⟨RX9, TX9, 21, tyX9, rfl, by decide, xin_X9, xw_in 831 (by decide +kernel) rfl, rfl, tyX9_ok, nmX9, by decide, by decide, by decide, by decide⟩
theorem xf_X9_22 : xi_Fok RX9 xTs vwCl xft 22 8 4 3 := ⟨RX9, TX9, 21, tyX9, rfl, by decide, xin_X9, xw_in 832 (by decide +kernel) rfl, rfl, tyX9_ok, nmX9, by decide, by decide, by decide, by decide⟩
theorem xf_X9_25 : xi_Fok RX9 xTs vwCl xft 25 8 5 3 := ⟨RX9, TX9, 21, tyX9, rfl, by decide, xin_X9, xw_in 833 (by decide +kernel) rfl, rfl, tyX9_ok, nmX9, by decide, by decide, by decide, by decide⟩
theorem xf_X9_28 : xi_Fok RX9 xTs vwCl xft 28 8 6 3 := ⟨RX9, TX9, 21, tyX9, rfl, by decide, xin_X9, xw_in 834 (by decide +kernel) rfl, rfl, tyX9_ok, nmX9, by decide, by decide, by decide, by decide⟩
theorem xf_X9_31 : xi_Fok RX9 xTs vwCl xft 31 8 7 3 := ⟨RX9, TX9, 21, tyX9, rfl, by decide, xin_X9, xw_in 835 (by decide +kernel) rfl, rfl, tyX9_ok, nmX9, by decide, by decide, by decide, by decide⟩
theorem xf_X9_34 : xi_Fok RX9 xTs vwCl xft 34 8 8 3 := ⟨RX9, TX9, 21, tyX9, rfl, by decide, xin_X9, xw_in 836 (by decide +kernel) rfl, rfl, tyX9_ok, nmX9, by decide, by decide, by decide, by decide⟩
theorem xf_X9_37 : xi_Fok RX9 xTs vwCl xft 37 8 10 3 := ⟨RX9, TX9, 21, tyX9, rfl, by decide, xin_X9, xw_in 838 (by decide +kernel) rfl, rfl, tyX9_ok, nmX9, by decide, by decide, by decide, by decide⟩
theorem xf_X9_40 : xi_Fok RX9 xTs vwCl xft 40 8 11 3 := ⟨RX9, TX9, 21, tyX9, rfl, by decide, xin_X9, xw_in 839 (by decide +kernel) rfl, rfl, tyX9_ok, nmX9, by decide, by decide, by decide, by decide⟩
theorem xf_X9_43 : xi_Fok RX9 xTs vwCl xft 43 8 12 3 := ⟨RX9, TX9, 21, tyX9, rfl, by decide, xin_X9, xw_in 840 (by decide +kernel) rfl, rfl, tyX9_ok, nmX9, by decide, by decide, by decide, by decide⟩
theorem xf_X9_46 : xi_Fok RX9 xTs vwCl xft 46 8 14 3 := ⟨RX9, TX9, 21, tyX9, rfl, by decide, xin_X9, xw_in 842 (by decide +kernel) rfl, rfl, tyX9_ok, nmX9, by decide, by decide, by decide, by decide⟩
theorem xf_X9_49 : xi_Fok RX9 xTs vwCl xft 49 8 17 2 := ⟨RX9, TX9, 21, tyX9, rfl, by decide, xin_X9, xw_in 845 (by decide +kernel) rfl, rfl, tyX9_ok, nmX9, by decide, by decide, by decide, by decide⟩
theorem xf_X9_53 : xi_Fok RX9 xTs vwCl xft 53 8 20 3 := ⟨RX9, TX9, 21, tyX9, rfl, by decide, xin_X9, xw_in 848 (by decide +kernel) rfl, rfl, tyX9_ok, nmX9, by decide, by decide, by decide, by decide⟩
theorem xf_X9_56 : xi_Fok RX9 xTs vwCl xft 56 8 13 0 := ⟨RX9, TX9, 21, tyX9, rfl, by decide, xin_X9, xw_in 841 (by decide +kernel) rfl, rfl, tyX9_ok, nmX9, by decide, by decide, by decide, by decide⟩
theorem xf_X9_60 : xi_Fok RX9 xTs vwCl xft 60 8 15 0 := ⟨RX9, TX9, 21, tyX9, rfl, by decide, xin_X9, xw_in 843 (by decide +kernel) rfl, rfl, tyX9_ok, nmX9, by decide, by decide, by decide, by decide⟩
theorem xf_X9_84 : xi_Fok RX9 xTs vwCl xft 84 8 18 0 := ⟨RX9, TX9, 21, tyX9, rfl, by decide, xin_X9, xw_in 846 (by decide +kernel) rfl, rfl, tyX9_ok, nmX9, by decide, by decide, by decide, by decide⟩
theorem xf_X9_87 : xi_Fok RX9 xTs vwCl xft 87 8 19 0 := ⟨RX9, TX9, 21, tyX9, rfl, by decide, xin_X9, xw_in 847 (by decide +kernel) rfl, rfl, tyX9_ok, nmX9, by decide, by decide, by decide, by decide⟩
theorem xf_X9_125 : xi_Fok RX9 xTs vwCl xft 125 8 9 0 := ⟨RX9, TX9, 21, tyX9, rfl, by decide, xin_X9, xw_in 837 (by decide +kernel) rfl, rfl, tyX9_ok, nmX9, by decide, by decide, by decide, by decide⟩
theorem xf_X9_214 : xi_Fok RX9 xTs vwCl xft 214 8 16 2 := ⟨RX9, TX9, 21, tyX9, rfl, by decide, xin_X9, xw_in 844 (by decide +kernel) rfl, rfl, tyX9_ok, nmX9, by decide, by decide, by decide, by decide⟩
def xfl_X9 : List (Nat × Nat × Nat × Nat) := [(7, 8, 0, 3), (13, 8, 1, 3), (16, 8, 2, 3), (19, 8, 3, 3), (22, 8, 4, 3), (25, 8, 5, 3), (28, 8, 6, 3), (31, 8, 7, 3), (34, 8, 8, 3), (37, 8, 10, 3), (40, 8, 11, 3), (43, 8, 12, 3), (46, 8, 14, 3), (49, 8, 17, 2), (53, 8, 20, 3), (56, 8, 13, 0), (60, 8, 15, 0), (84, 8, 18, 0), (87, 8, 19, 0), (125, 8, 9, 0), (214, 8, 16, 2)]
theorem xfa_X9 : ∀ q ∈ xfl_X9, xi_Fok RX9 xTs vwCl xft q.1 q.2.1 q.2.2.1 q.2.2.2 := List.forall_mem_cons.mpr ⟨xf_X9_7, List.forall_mem_cons.mpr ⟨xf_X9_13, List.forall_mem_cons.mpr ⟨xf_X9_16, List.forall_mem_cons.mpr ⟨xf_X9_19, List.forall_mem_cons.mpr ⟨xf_X9_22, List.forall_mem_cons.mpr ⟨xf_X9_25, List.forall_mem_cons.mpr ⟨xf_X9_28, List.forall_mem_cons.mpr ⟨xf_X9_31, List.forall_mem_cons.mpr ⟨xf_X9_34, List.forall_mem_cons.mpr ⟨xf_X9_37, List.forall_mem_cons.mpr ⟨xf_X9_40, List.forall_mem_cons.mpr ⟨xf_X9_43, List.forall_mem_cons.mpr ⟨xf_X9_46, List.forall_mem_cons.mpr ⟨xf_X9_49, List.forall_mem_cons.mpr ⟨xf_X9_53, List.forall_mem_cons.mpr ⟨xf_X9_56, List.forall_mem_cons.mpr ⟨xf_X9_60, List.forall_mem_cons.mpr ⟨xf_X9_84, List.forall_mem_cons.mpr ⟨xf_X9_87, List.forall_mem_cons.mpr ⟨xf_X9_125, List.forall_mem_cons.mpr ⟨xf_X9_214, fun _ h => absurd h List.not_mem_nil⟩⟩⟩⟩⟩⟩⟩⟩⟩⟩⟩⟩⟩⟩⟩⟩⟩⟩⟩⟩⟩
theorem xfo_X9 : ∀ x ci k t, xi_tab xfl_X9 x = some (ci, k, t) → xi_Fok RX9 xTs vwCl xft x ci k t := fun x ci k t h => xfa_X9 (x, ci, k, t) (xi_tab_mem h)
def xki_X9 : List (Nat × Int32) := [(217, 2097151), (245, 2147483646)]
theorem xkia_X9 : ∀ q ∈ xki_X9, Cond.constant RX9 q.1 q.2 ∈ xTs := List.forall_mem_cons.mpr ⟨xw_in 1142 (by decide +kernel) rfl, List.forall_mem_cons.mpr ⟨xw_in 1211 (by decide +kernel) rfl, fun _ h => absurd h List.not_mem_nil⟩⟩
theorem xkio_X9 : ∀ x v, xi_tab xki_X9 x = some v → Cond.constant RX9 x v ∈ xTs := fun x v h => xkia_X9 (x, v) (xi_tab_mem h)
def xkl_X9 : List (Nat × Int64) := [(236, 12), (246, 48271), (248, 2147483647), (254, 8), (256, 64), (258, 4), (260, 21), (268, 31), (270, 17)]
theorem xkla_X9 : ∀ q ∈ xkl_X9, Cond.constantLong RX9 q.1 q.2 ∈ xTs := List.forall_mem_cons.mpr ⟨xw_in 1194 (by decide +kernel) rfl, List.forall_mem_cons.mpr ⟨xw_in 1212 (by decide +kernel) rfl, List.forall_mem_cons.mpr ⟨xw_in 1213 (by decide +kernel) rfl, List.forall_mem_cons.mpr ⟨xw_in 1218 (by decide +kernel) rfl, List.forall_mem_cons.mpr ⟨xw_in 1219 (by decide +kernel) rfl, List.forall_mem_cons.mpr ⟨xw_in 1220 (by decide +kernel) rfl, List.forall_mem_cons.mpr ⟨xw_in 1221 (by decide +kernel) rfl, List.forall_mem_cons.mpr ⟨xw_in 1258 (by decide +kernel) rfl, List.forall_mem_cons.mpr ⟨xw_in 1257 (by decide +kernel) rfl, fun _ h => absurd h List.not_mem_nil⟩⟩⟩⟩⟩⟩⟩⟩⟩
theorem xklo_X9 : ∀ x v, xi_tab xkl_X9 x = some v → Cond.constantLong RX9 x v ∈ xTs := fun x v h => xkla_X9 (x, v) (xi_tab_mem h)
def xcs_X9 : List (Nat × Nat × Nat) := [(63, 3, 1), (67, 1, 1), (81, 1, 1), (101, 1, 1), (121, 5, 0), (128, 4, 1), (132, 2, 1), (136, 2, 1), (139, 2, 1), (143, 3, 1), (147, 4, 1), (151, 3, 1), (154, 2, 1), (157, 3, 1), (160, 2, 1), (163, 1, 1), (173, 2, 1), (190, 1, 1), (193, 3, 1), (196, 2, 1), (199, 1, 1), (202, 2, 1), (221, 2, 1), (265, 1, 1), (275, 4, 2)]
def xcv_X9 : List (Nat × Nat × Nat) := [(71, 2, 1), (75, 2, 1), (78, 4, 1), (90, 2, 1), (93, 2, 0), (97, 4, 1), (104, 3, 1), (108, 2, 0), (111, 3, 0), (115, 2, 0), (118, 2, 1), (167, 2, 1), (170, 3, 1), (177, 2, 1), (180, 4, 1), (183, 1, 1), (187, 1, 0), (205, 2, 1), (208, 4, 1), (211, 5, 1), (218, 4, 1), (224, 4, 1), (227, 5, 1), (230, 2, 1), (233, 3, 1), (238, 3, 1), (241, 3, 1), (250, 2, 0), (262, 2, 1), (272, 2, 1)]
def xfl_J6 : List (Nat × Nat × Nat × Nat) := []
theorem xfa_J6 : ∀ q ∈ xfl_J6, xi_Fok RJ6 xTs vwCl xft q.1 q.2.1 q.2.2.1 q.2.2.2 := fun _ h => absurd h List.not_mem_nil
theorem xfo_J6 : ∀ x ci k t, xi_tab xfl_J6 x = some (ci, k, t) → xi_Fok RJ6 xTs vwCl xft x ci k t := fun x ci k t h => xfa_J6 (x, ci, k, t) (xi_tab_mem h)
def xki_J6 : List (Nat × Int32) := [(265, 1431655765), (266, 858993459), (267, 252645135)]
theorem xkia_J6 : ∀ q ∈ xki_J6, Cond.constant RJ6 q.1 q.2 ∈ xTs := List.forall_mem_cons.mpr ⟨xw_in 490 (by decide +kernel) rfl, List.forall_mem_cons.mpr ⟨xw_in 491 (by decide +kernel) rfl, List.forall_mem_cons.mpr ⟨xw_in 492 (by decide +kernel) rfl, fun _ h => absurd h List.not_mem_nil⟩⟩⟩
theorem xkio_J6 : ∀ x v, xi_tab xki_J6 x = some v → Cond.constant RJ6 x v ∈ xTs := fun x v h => xkia_J6 (x, v) (xi_tab_mem h)
def xkl_J6 : List (Nat × Int64) := []
theorem xkla_J6 : ∀ q ∈ xkl_J6, Cond.constantLong RJ6 q.1 q.2 ∈ xTs := fun _ h => absurd h List.not_mem_nil
theorem xklo_J6 : ∀ x v, xi_tab xkl_J6 x = some v → Cond.constantLong RJ6 x v ∈ xTs := fun x v h => xkla_J6 (x, v) (xi_tab_mem h)
def xcs_J6 : List (Nat × Nat × Nat) := []
def xcv_J6 : List (Nat × Nat × Nat) := []
def xfl_J9 : List (Nat × Nat × Nat × Nat) := []
theorem xfa_J9 : ∀ q ∈ xfl_J9, xi_Fok RJ9 xTs vwCl xft q.1 q.2.1 q.2.2.1 q.2.2.2 := fun _ h => absurd h List.not_mem_nil
theorem xfo_J9 : ∀ x ci k t, xi_tab xfl_J9 x = some (ci, k, t) → xi_Fok RJ9 xTs vwCl xft x ci k t := fun x ci k t h => xfa_J9 (x, ci, k, t) (xi_tab_mem h)
def xki_J9 : List (Nat × Int32) := []
theorem xkia_J9 : ∀ q ∈ xki_J9, Cond.constant RJ9 q.1 q.2 ∈ xTs := fun _ h => absurd h List.not_mem_nil
theorem xkio_J9 : ∀ x v, xi_tab xki_J9 x = some v → Cond.constant RJ9 x v ∈ xTs := fun x v h => xkia_J9 (x, v) (xi_tab_mem h)
def xkl_J9 : List (Nat × Int64) := []
theorem xkla_J9 : ∀ q ∈ xkl_J9, Cond.constantLong RJ9 q.1 q.2 ∈ xTs := fun _ h => absurd h List.not_mem_nil
theorem xklo_J9 : ∀ x v, xi_tab xkl_J9 x = some v → Cond.constantLong RJ9 x v ∈ xTs := fun x v h => xkla_J9 (x, v) (xi_tab_mem h)
def xcs_J9 : List (Nat × Nat × Nat) := []
def xcv_J9 : List (Nat × Nat × Nat) := []
def xfl_J7 : List (Nat × Nat × Nat × Nat) := []
theorem xfa_J7 : ∀ q ∈ xfl_J7, xi_Fok RJ7 xTs vwCl xft q.1 q.2.1 q.2.2.1 q.2.2.2 := fun _ h => absurd h List.not_mem_nil
theorem xfo_J7 : ∀ x ci k t, xi_tab xfl_J7 x = some (ci, k, t) → xi_Fok RJ7 xTs vwCl xft x ci k t := fun x ci k t h => xfa_J7 (x, ci, k, t) (xi_tab_mem h)
def xki_J7 : List (Nat × Int32) := []
theorem xkia_J7 : ∀ q ∈ xki_J7, Cond.constant RJ7 q.1 q.2 ∈ xTs := fun _ h => absurd h List.not_mem_nil
theorem xkio_J7 : ∀ x v, xi_tab xki_J7 x = some v → Cond.constant RJ7 x v ∈ xTs := fun x v h => xkia_J7 (x, v) (xi_tab_mem h)
def xkl_J7 : List (Nat × Int64) := []
theorem xkla_J7 : ∀ q ∈ xkl_J7, Cond.constantLong RJ7 q.1 q.2 ∈ xTs := fun _ h => absurd h List.not_mem_nil
theorem xklo_J7 : ∀ x v, xi_tab xkl_J7 x = some v → Cond.constantLong RJ7 x v ∈ xTs := fun x v h => xkla_J7 (x, v) (xi_tab_mem h)
def xcs_J7 : List (Nat × Nat × Nat) := []
def xcv_J7 : List (Nat × Nat × Nat) := []
