/-! The interpreter's cells in the machine's heap. -/
/-- the world: addresses, how many cells, the field types of each sort of object, the rows' sorts -/
abbrev xi_E : Type := (Nat → Nat) × Nat × (Nat → List Nat) × (Nat → ClassId)
def xi_cv (E : xi_E) (v : Value) : Value := match v with
  | .ref a => .ref (E.1 a)
  | v => v
def xi_fv (E : xi_E) (S : xi_S) (m : xi_M) (a k t : Nat) : Value := if t = 2 then .long (m.2 a k) else if t = 3 then va_rf ((S.2.2 a k).map E.1) else .int (m.1 a k)
def xi_fs (E : xi_E) (S : xi_S) (m : xi_M) (a ci : Nat) : List Value := (E.2.2.1 ci).mapIdx fun k t => xi_fv E S m a k t
def xi_cel (E : xi_E) (S : xi_S) (m : xi_M) (a : Nat) : va_E :=
  if S.1 a = 0 then .inl (E.2.2.2 0, S.2.1 a, .inl (m.1 a))
  else if S.1 a = 1 then .inl (E.2.2.2 1, S.2.1 a, .inr (.inr (.inr (.inr fun i => (S.2.2 a i).map E.1))))
  else if S.1 a = 2 then .inl (E.2.2.2 2, S.2.1 a, .inr (.inr (.inr (.inr fun i => (S.2.2 a i).map E.1))))
  else .inr (S.1 a - 3, xi_fs E S m a (S.1 a - 3))
def xi_wld (E : xi_E) (S : xi_S) (m : xi_M) : va_W := (List.range E.2.1).map fun a => (E.1 a, xi_cel E S m a)
def xi_A (E : xi_E) : Nat → Prop := fun q => ∃ a, a < E.2.1 ∧ E.1 a = q
theorem xi_wld_get {E : xi_E} {S : xi_S} {m : xi_M} {a : Nat} (h : a < E.2.1) : (xi_wld E S m)[a]? = some (E.1 a, xi_cel E S m a) := by
  simp [xi_wld, h]
theorem xi_wld_set {E : xi_E} {S : xi_S} {m m' : xi_M} {a : Nat} {e : va_E} (h : a < E.2.1) (he : xi_cel E S m' a = e) (ho : ∀ b, b ≠ a → xi_cel E S m' b = xi_cel E S m b) : (xi_wld E S m).set a (E.1 a, e) = xi_wld E S m' := by
  apply List.ext_getElem?
  intro i
  rw [List.getElem?_set]
  by_cases hi : a = i
  · subst hi
    have hl : a < (xi_wld E S m).length := by simpa [xi_wld] using h
    rw [if_pos rfl, if_pos hl, xi_wld_get h, he]
  · rw [if_neg hi]
    by_cases hn : i < E.2.1
    · rw [xi_wld_get hn, xi_wld_get hn, ho i (fun q => hi q.symm)]
    · rw [List.getElem?_eq_none (by simpa [xi_wld] using hn), List.getElem?_eq_none (by simpa [xi_wld] using hn)]
theorem xi_wld_D {E : xi_E} {S : xi_S} {m : xi_M} (hi : ∀ a b, a < E.2.1 → b < E.2.1 → E.1 a = E.1 b → a = b) : va_D (xi_A E) (xi_wld E S m) := by
  refine ⟨fun i j p q hp hq e => ?_, fun k q hq => ?_⟩
  · have h1 : i < E.2.1 := by
      have := (List.getElem?_eq_some_iff.mp hp).1
      simpa [xi_wld] using this
    have h2 : j < E.2.1 := by
      have := (List.getElem?_eq_some_iff.mp hq).1
      simpa [xi_wld] using this
    rw [xi_wld_get h1] at hp
    rw [xi_wld_get h2] at hq
    cases hp
    cases hq
    exact hi i j h1 h2 e
  · have h1 : k < E.2.1 := by
      have := (List.getElem?_eq_some_iff.mp hq).1
      simpa [xi_wld] using this
    rw [xi_wld_get h1] at hq
    cases hq
    exact ⟨k, h1, rfl⟩
/-! locals -/
theorem xi_get_len {L : xi_L} : ∀ {i : Nat} {v : Value}, xi_get L i = some v → i < L.length := by
  induction L with
  | nil => intro i v h; cases h
  | cons w t ih =>
    intro i v h
    cases i with
    | zero => exact Nat.succ_pos _
    | succ n => exact Nat.succ_lt_succ (ih h)
theorem xi_get_set {L : xi_L} : ∀ {i j : Nat} {x : Option Value} {v : Value}, xi_get (xi_set L i x) j = some v → (j = i ∧ x = some v) ∨ (j ≠ i ∧ xi_get L j = some v) := by
  induction L with
  | nil => intro i j x v h; cases h
  | cons w t ih =>
    intro i j x v h
    cases i with
    | zero =>
      cases j with
      | zero => exact Or.inl ⟨rfl, h⟩
      | succ n => exact Or.inr ⟨Nat.succ_ne_zero n, h⟩
    | succ k =>
      cases j with
      | zero => exact Or.inr ⟨fun q => Nat.succ_ne_zero k q.symm, h⟩
      | succ n =>
        rcases ih (i := k) (j := n) h with ⟨e, hx⟩ | ⟨e, hx⟩
        · exact Or.inl ⟨by rw [e], hx⟩
        · exact Or.inr ⟨fun q => e (Nat.succ.inj q), hx⟩
theorem xi_set_len {L : xi_L} : ∀ {i : Nat} {x : Option Value}, (xi_set L i x).length = L.length := by
  induction L with
  | nil => intro i x; rfl
  | cons w t ih =>
    intro i x
    cases i with
    | zero => rfl
    | succ n => exact congrArg Nat.succ (ih (i := n) (x := x))
theorem xi_get_clr {L : xi_L} {i j : Nat} {v : Value} (h : xi_get (xi_clr L i) j = some v) : xi_get L j = some v ∧ ¬ (j + 1 = i ∧ v.category = 2) := by
  cases i with
  | zero => exact ⟨h, fun q => Nat.succ_ne_zero j q.1⟩
  | succ n =>
    unfold xi_clr at h
    dsimp only at h
    cases hg : xi_get L n with
    | none =>
      rw [hg] at h
      dsimp only at h
      refine ⟨h, fun q => ?_⟩
      have e : j = n := Nat.succ.inj q.1
      rw [e, hg] at h
      cases h
    | some w =>
      rw [hg] at h
      dsimp only at h
      cases hc : Nat.beq w.category 2 with
      | true =>
        rw [hc] at h
        rcases xi_get_set h with ⟨e, hx⟩ | ⟨e, hx⟩
        · cases hx
        · exact ⟨hx, fun q => e (Nat.succ.inj q.1)⟩
      | false =>
        rw [hc] at h
        have h : xi_get L j = some v := h
        refine ⟨h, fun q => ?_⟩
        have e : j = n := Nat.succ.inj q.1
        rw [e, hg] at h
        cases h
        rw [q.2] at hc
        cases hc
def xi_lv (E : xi_E) (ls : Array Slot) (nL : Nat) (L : xi_L) : Prop := L.length = nL ∧ ls.size = nL ∧ lv_wf ls ∧ ∀ (i : Nat) (v : Value), xi_get L i = some v → ls[i]? = some (.val (xi_cv E v))
def xi_lo (E : xi_E) (L : xi_L) : List (Nat × Value) := (List.range L.length).filterMap fun i => (xi_get L i).map fun v => (i, xi_cv E v)
theorem xi_lo_mem {E : xi_E} {L : xi_L} {q : Nat × Value} : q ∈ xi_lo E L ↔ ∃ v, xi_get L q.1 = some v ∧ q.2 = xi_cv E v := by
  unfold xi_lo
  rw [List.mem_filterMap]
  constructor
  · rintro ⟨i, -, h⟩
    cases hg : xi_get L i with
    | none => rw [hg] at h; cases h
    | some v =>
      rw [hg] at h
      cases h
      exact ⟨v, hg, rfl⟩
  · rintro ⟨v, h1, h2⟩
    refine ⟨q.1, List.mem_range.mpr (xi_get_len h1), ?_⟩
    rw [h1]
    show some (q.1, xi_cv E v) = some q
    rw [← h2]
theorem xi_lv.has {E : xi_E} {ls : Array Slot} {nL : Nat} {L : xi_L} (h : xi_lv E ls nL L) : lv_has ls nL (xi_lo E L) := by
  refine ⟨h.2.1, h.2.2.1, fun q hq => ?_⟩
  obtain ⟨v, h1, h2⟩ := xi_lo_mem.mp hq
  rw [h2]
  exact h.2.2.2 _ _ h1
theorem xi_cv_cat (E : xi_E) (v : Value) : (xi_cv E v).category = v.category := by cases v <;> rfl
theorem xi_lv_st1 {E : xi_E} {ls ls' : Array Slot} {nL i : Nat} {L : xi_L} {v : Value} (h0 : xi_lv E ls nL L) (h : lv_has ls' nL ((i, xi_cv E v) :: (xi_lo E L).filter (fun q => !(q.1 == i) && !(q.1 + 1 == i && q.2.category == 2)))) : xi_lv E ls' nL (xi_st1 L i v) := by
  refine ⟨?_, h.1, h.2.1, fun j w hw => ?_⟩
  · unfold xi_st1 xi_clr
    rw [xi_set_len]
    cases i with
    | zero => exact h0.1
    | succ n =>
      dsimp only
      split
      · rename_i u _
        cases Nat.beq u.category 2
        · exact h0.1
        · exact xi_set_len.trans h0.1
      · exact h0.1
  · rcases xi_get_set hw with ⟨e, hx⟩ | ⟨e, hx⟩
    · cases hx
      rw [e]
      exact h.2.2 (i, xi_cv E v) List.mem_cons_self
    · obtain ⟨g1, g2⟩ := xi_get_clr hx
      refine h.2.2 (j, xi_cv E w) (List.mem_cons_of_mem _ (List.mem_filter.mpr ⟨xi_lo_mem.mpr ⟨w, g1, rfl⟩, ?_⟩))
      have e1 : (j == i) = false := by simpa using e
      show (!(j == i) && !(j + 1 == i && (xi_cv E w).category == 2)) = true
      rw [e1, xi_cv_cat]
      by_cases e2 : j + 1 = i
      · have e3 : ¬ w.category = 2 := fun q => g2 ⟨e2, q⟩
        simp [e2, e3]
      · simp [e2]
theorem xi_lv_st2 {E : xi_E} {ls ls' : Array Slot} {nL i : Nat} {L : xi_L} {v : Value} (h0 : xi_lv E ls nL L) (h : lv_has ls' nL ((i, xi_cv E v) :: (xi_lo E L).filter (fun q => !(q.1 == i) && (!(q.1 == i + 1) && !(q.1 + 1 == i && q.2.category == 2))))) : xi_lv E ls' nL (xi_st2 L i v) := by
  refine ⟨?_, h.1, h.2.1, fun j w hw => ?_⟩
  · unfold xi_st2 xi_clr
    rw [xi_set_len, xi_set_len]
    cases i with
    | zero => exact h0.1
    | succ n =>
      dsimp only
      split
      · rename_i u _
        cases Nat.beq u.category 2
        · exact h0.1
        · exact xi_set_len.trans h0.1
      · exact h0.1
  · rcases xi_get_set hw with ⟨e, hx⟩ | ⟨e, hx⟩
    · cases hx
    · rcases xi_get_set hx with ⟨e4, hy⟩ | ⟨e4, hy⟩
      · cases hy
        rw [e4]
        exact h.2.2 (i, xi_cv E v) List.mem_cons_self
      · obtain ⟨g1, g2⟩ := xi_get_clr hy
        refine h.2.2 (j, xi_cv E w) (List.mem_cons_of_mem _ (List.mem_filter.mpr ⟨xi_lo_mem.mpr ⟨w, g1, rfl⟩, ?_⟩))
        have e1 : (j == i) = false := by simpa using e4
        have e5 : (j == i + 1) = false := by simpa using e
        show (!(j == i) && (!(j == i + 1) && !(j + 1 == i && (xi_cv E w).category == 2))) = true
        rw [e1, e5, xi_cv_cat]
        by_cases e2 : j + 1 = i
        · have e3 : ¬ w.category = 2 := fun q => g2 ⟨e2, q⟩
          simp [e2, e3]
        · simp [e2]
/-! what a pop, a load, a jump that came to something says -/
theorem xi_sI_some {st : List Value} {k : Int32 → List Value → Option xi_R} {res : xi_R} (h : xi_sI st k = some res) : ∃ x r, st = .int x :: r ∧ k x r = some res := by
  unfold xi_sI at h
  split at h
  · exact ⟨_, _, rfl, h⟩
  · cases h
theorem xi_sJ_some {st : List Value} {k : Int64 → List Value → Option xi_R} {res : xi_R} (h : xi_sJ st k = some res) : ∃ x r, st = .long x :: r ∧ k x r = some res := by
  unfold xi_sJ at h
  split at h
  · exact ⟨_, _, rfl, h⟩
  · cases h
theorem xi_sR_some {st : List Value} {k : Nat → List Value → Option xi_R} {res : xi_R} (h : xi_sR st k = some res) : ∃ x r, st = .ref x :: r ∧ k x r = some res := by
  unfold xi_sR at h
  split at h
  · exact ⟨_, _, rfl, h⟩
  · cases h
theorem xi_lI_some {v : Option Value} {k : Int32 → Option xi_R} {res : xi_R} (h : xi_lI v k = some res) : ∃ x, v = some (.int x) ∧ k x = some res := by
  unfold xi_lI at h
  split at h
  · exact ⟨_, rfl, h⟩
  · cases h
theorem xi_lJ_some {v : Option Value} {k : Int64 → Option xi_R} {res : xi_R} (h : xi_lJ v k = some res) : ∃ x, v = some (.long x) ∧ k x = some res := by
  unfold xi_lJ at h
  split at h
  · exact ⟨_, rfl, h⟩
  · cases h
theorem xi_lR_some {v : Option Value} {k : Nat → Option xi_R} {res : xi_R} (h : xi_lR v k = some res) : ∃ x, v = some (.ref x) ∧ k x = some res := by
  unfold xi_lR at h
  split at h
  · exact ⟨_, rfl, h⟩
  · cases h
theorem xi_to_some {pc : Nat} {off : Int} {k : Nat → Option xi_R} {res : xi_R} (h : xi_to pc off k = some res) : ∃ t : Nat, (pc : Int) + off = (t : Int) ∧ k t = some res := by
  unfold xi_to at h
  split at h
  · rename_i t ht
    exact ⟨t, ht, h⟩
  · cases h
theorem xi_bind_some {α β : Type} {o : Option α} {k : α → Option β} {res : β} (h : o.bind k = some res) : ∃ x, o = some x ∧ k x = some res := by
  cases o with
  | none => cases h
  | some x => exact ⟨x, rfl, h⟩
theorem xi_bif_some {b : Bool} {x : Option xi_R} {res : xi_R} (h : (bif b then x else none) = some res) : b = true ∧ x = some res := by
  cases b with
  | true => exact ⟨rfl, h⟩
  | false => cases h
theorem xi_if_some {c : Prop} [Decidable c] {x : Option xi_R} {res : xi_R} (h : (if c then x else none) = some res) : c ∧ x = some res := by
  by_cases hc : c
  · rw [if_pos hc] at h; exact ⟨hc, h⟩
  · rw [if_neg hc] at h; cases h
theorem xi_ifn_some {c : Prop} [Decidable c] {x : Option xi_R} {res : xi_R} (h : (if c then none else x) = some res) : ¬ c ∧ x = some res := by
  by_cases hc : c
  · rw [if_pos hc] at h; cases h
  · rw [if_neg hc] at h; exact ⟨hc, h⟩
theorem xi_an_some {rk : Nat} {q : Option xi_R} {rest : List Value} {k : List Value → xi_M → Option xi_R} {res : xi_R} (h : xi_an rk q rest k = some res) : ∃ (r : Option Value) (m : xi_M), q = some (r, m) ∧ k (r.toList ++ rest) m = some res := by
  unfold xi_an at h
  split at h
  · unfold xi_bV at h
    split at h
    · exact ⟨_, _, rfl, h⟩
    · cases h
  · unfold xi_bI at h
    split at h
    · exact ⟨_, _, rfl, h⟩
    · cases h
  · unfold xi_bJ at h
    split at h
    · exact ⟨_, _, rfl, h⟩
    · cases h
  · cases h
