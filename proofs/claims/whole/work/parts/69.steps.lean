/-! a call on both sides, whatever ints the script holds -/
theorem zi_ex (y : Int32) : ∃ w : Int, y = zi w ∧ -2147483648 ≤ w ∧ w < 2147483648 := by
  refine ⟨y.toInt, ?_, by simpa using Int32.le_toInt y, by simpa using Int32.toInt_lt y⟩
  exact (Int32.ofInt_toInt y).symm
theorem i_row (w1 : Int) (w2 : Int) (q : Sg) : ∃ v, (sp_row w1 w2 q).1 = some (Value.int v) := by
  unfold sp_row
  repeat' split
  all_goals first | exact ⟨_, rfl⟩ | (dsimp only; split <;> exact ⟨_, rfl⟩)
theorem sq_row (y1 y2 : Int32) {m : xi_M} (h : Rel m) : ∃ v m1 m2, F_X8_row xS0 [.ref 0, .int y1, .int y2] m = some (some (Value.int v), m1) ∧ F_X9_row xS0 [.ref 15, .int y1, .int y2] m1 = some (some (Value.int v), m2) ∧ Rel m2 := by
  obtain ⟨w1, rfl, a1, b1⟩ := zi_ex y1
  obtain ⟨w2, rfl, a2, b2⟩ := zi_ex y2
  obtain ⟨q, h1, h2, h3⟩ := h
  obtain ⟨m1, e1, c1, f1⟩ := c_row sh0 w1 w2 a1 b1 a2 b2 q m h3 h1
  obtain ⟨m2, e2, c2, f2⟩ := m_row sh0 w1 w2 a1 b1 a2 b2 q m1 h3 (MM_fr f1 h2)
  obtain ⟨v, hv⟩ := i_row w1 w2 q
  rw [hv] at e1 e2
  exact ⟨v, m1, m2, e1, e2, _, CC_fr f2 c1, c2, o_row w1 w2 q h3⟩
theorem i_lay (w1 : Int) (w2 : Int) (w3 : Int32) (q : Sg) : ∃ v, (sp_lay w1 w2 w3 q).1 = some (Value.int v) := by
  unfold sp_lay
  repeat' split
  all_goals first | exact ⟨_, rfl⟩ | (dsimp only; split <;> exact ⟨_, rfl⟩)
theorem sq_lay (y1 y2 y3 : Int32) {m : xi_M} (h : Rel m) : ∃ v m1 m2, F_X8_lay xS0 [.ref 0, .int y1, .int y2, .int y3] m = some (some (Value.int v), m1) ∧ F_X9_lay xS0 [.ref 15, .int y1, .int y2, .int y3] m1 = some (some (Value.int v), m2) ∧ Rel m2 := by
  obtain ⟨w1, rfl, a1, b1⟩ := zi_ex y1
  obtain ⟨w2, rfl, a2, b2⟩ := zi_ex y2
  obtain ⟨q, h1, h2, h3⟩ := h
  obtain ⟨m1, e1, c1, f1⟩ := c_lay sh0 w1 a1 b1 w2 a2 b2 y3 q m h3 h1
  obtain ⟨m2, e2, c2, f2⟩ := m_lay sh0 w1 a1 b1 w2 a2 b2 y3 q m1 h3 (MM_fr f1 h2)
  obtain ⟨v, hv⟩ := i_lay w1 w2 y3 q
  rw [hv] at e1 e2
  exact ⟨v, m1, m2, e1, e2, _, CC_fr f2 c1, c2, o_lay w1 w2 y3 q h3⟩
theorem i_at (w1 : Int) (w2 : Int) (q : Sg) : ∃ v, (sp_at w1 w2 q).1 = some (Value.int v) := by
  unfold sp_at
  repeat' split
  all_goals first | exact ⟨_, rfl⟩ | (dsimp only; split <;> exact ⟨_, rfl⟩)
theorem sq_at (y1 y2 : Int32) {m : xi_M} (h : Rel m) : ∃ v m1 m2, F_X8_at xS0 [.ref 0, .int y1, .int y2] m = some (some (Value.int v), m1) ∧ F_X9_at xS0 [.ref 15, .int y1, .int y2] m1 = some (some (Value.int v), m2) ∧ Rel m2 := by
  obtain ⟨w1, rfl, a1, b1⟩ := zi_ex y1
  obtain ⟨w2, rfl, a2, b2⟩ := zi_ex y2
  obtain ⟨q, h1, h2, h3⟩ := h
  obtain ⟨m1, e1, c1, f1⟩ := c_at sh0 w1 a1 b1 w2 a2 b2 q m h3 h1
  obtain ⟨m2, e2, c2, f2⟩ := m_at sh0 w1 a1 b1 w2 a2 b2 q m1 h3 (MM_fr f1 h2)
  obtain ⟨v, hv⟩ := i_at w1 w2 q
  rw [hv] at e1 e2
  exact ⟨v, m1, m2, e1, e2, _, CC_fr f2 c1, c2, o_at w1 w2 q h3⟩
theorem i_tear (w1 : Int) (q : Sg) : ∃ v, (sp_tear w1 q).1 = some (Value.int v) := by
  unfold sp_tear
  repeat' split
  all_goals first | exact ⟨_, rfl⟩ | (dsimp only; split <;> exact ⟨_, rfl⟩)
theorem sq_tear (y1 : Int32) {m : xi_M} (h : Rel m) : ∃ v m1 m2, F_X8_tear xS0 [.ref 0, .int y1] m = some (some (Value.int v), m1) ∧ F_X9_tear xS0 [.ref 15, .int y1] m1 = some (some (Value.int v), m2) ∧ Rel m2 := by
  obtain ⟨w1, rfl, a1, b1⟩ := zi_ex y1
  obtain ⟨q, h1, h2, h3⟩ := h
  obtain ⟨m1, e1, c1, f1⟩ := c_tear sh0 w1 a1 b1 q m h3 h1
  obtain ⟨m2, e2, c2, f2⟩ := m_tear sh0 w1 a1 b1 q m1 h3 (MM_fr f1 h2)
  obtain ⟨v, hv⟩ := i_tear w1 q
  rw [hv] at e1 e2
  exact ⟨v, m1, m2, e1, e2, _, CC_fr f2 c1, c2, o_tear w1 q h3⟩
theorem i_copy (w1 : Int) (w2 : Int) (w3 : Int) (w4 : Int) (w5 : Int) (q : Sg) : ∃ v, (sp_copy w1 w2 w3 w4 w5 q).1 = some (Value.int v) := by
  unfold sp_copy
  repeat' split
  all_goals first | exact ⟨_, rfl⟩ | (dsimp only; split <;> exact ⟨_, rfl⟩)
theorem sq_copy (y1 y2 y3 y4 y5 : Int32) {m : xi_M} (h : Rel m) : ∃ v m1 m2, F_X8_copy xS0 [.ref 0, .int y1, .int y2, .int y3, .int y4, .int y5] m = some (some (Value.int v), m1) ∧ F_X9_copy xS0 [.ref 15, .int y1, .int y2, .int y3, .int y4, .int y5] m1 = some (some (Value.int v), m2) ∧ Rel m2 := by
  obtain ⟨w1, rfl, a1, b1⟩ := zi_ex y1
  obtain ⟨w2, rfl, a2, b2⟩ := zi_ex y2
  obtain ⟨w3, rfl, a3, b3⟩ := zi_ex y3
  obtain ⟨w4, rfl, a4, b4⟩ := zi_ex y4
  obtain ⟨w5, rfl, a5, b5⟩ := zi_ex y5
  obtain ⟨q, h1, h2, h3⟩ := h
  obtain ⟨m1, e1, c1, f1⟩ := c_copy sh0 w1 a1 b1 w2 a2 b2 w3 a3 b3 w4 a4 b4 w5 a5 b5 q m h3 h1
  obtain ⟨m2, e2, c2, f2⟩ := m_copy sh0 w1 a1 b1 w2 a2 b2 w3 a3 b3 w4 a4 b4 w5 a5 b5 q m1 h3 (MM_fr f1 h2)
  obtain ⟨v, hv⟩ := i_copy w1 w2 w3 w4 w5 q
  rw [hv] at e1 e2
  exact ⟨v, m1, m2, e1, e2, _, CC_fr f2 c1, c2, o_copy w1 w2 w3 w4 w5 q h3⟩
theorem i_mean (w1 : Int) (q : Sg) : ∃ v, (sp_mean w1 q).1 = some (Value.int v) := by
  unfold sp_mean
  repeat' split
  all_goals first | exact ⟨_, rfl⟩ | (dsimp only; split <;> exact ⟨_, rfl⟩)
theorem sq_mean (y1 : Int32) {m : xi_M} (h : Rel m) : ∃ v m1 m2, F_X8_mean xS0 [.ref 0, .int y1] m = some (some (Value.int v), m1) ∧ F_X9_mean xS0 [.ref 15, .int y1] m1 = some (some (Value.int v), m2) ∧ Rel m2 := by
  obtain ⟨w1, rfl, a1, b1⟩ := zi_ex y1
  obtain ⟨q, h1, h2, h3⟩ := h
  obtain ⟨m1, e1, c1, f1⟩ := c_mean sh0 w1 a1 b1 q m h3 h1
  obtain ⟨m2, e2, c2, f2⟩ := m_mean sh0 w1 a1 b1 q m1 h3 (MM_fr f1 h2)
  obtain ⟨v, hv⟩ := i_mean w1 q
  rw [hv] at e1 e2
  exact ⟨v, m1, m2, e1, e2, _, CC_fr f2 c1, c2, o_mean w1 q h3⟩
theorem i_text (w1 : Int) (w2 : Int) (q : Sg) : ∃ v, (sp_text w1 w2 q).1 = some (Value.int v) := by
  unfold sp_text
  repeat' split
  all_goals first | exact ⟨_, rfl⟩ | (dsimp only; split <;> exact ⟨_, rfl⟩)
theorem sq_text (y1 y2 : Int32) {m : xi_M} (h : Rel m) : ∃ v m1 m2, F_X8_text xS0 [.ref 0, .int y1, .int y2] m = some (some (Value.int v), m1) ∧ F_X9_text xS0 [.ref 15, .int y1, .int y2] m1 = some (some (Value.int v), m2) ∧ Rel m2 := by
  obtain ⟨w1, rfl, a1, b1⟩ := zi_ex y1
  obtain ⟨w2, rfl, a2, b2⟩ := zi_ex y2
  obtain ⟨q, h1, h2, h3⟩ := h
  obtain ⟨m1, e1, c1, f1⟩ := c_text sh0 w1 a1 b1 w2 a2 b2 q m h3 h1
  obtain ⟨m2, e2, c2, f2⟩ := m_text sh0 w1 a1 b1 w2 a2 b2 q m1 h3 (MM_fr f1 h2)
  obtain ⟨v, hv⟩ := i_text w1 w2 q
  rw [hv] at e1 e2
  exact ⟨v, m1, m2, e1, e2, _, CC_fr f2 c1, c2, o_text w1 w2 q h3⟩
theorem i_put (w1 : Int) (w2 : Int) (w3 : Int32) (q : Sg) : ∃ v, (sp_put w1 w2 w3 q).1 = some (Value.int v) := by
  unfold sp_put
  repeat' split
  all_goals first | exact ⟨_, rfl⟩ | (dsimp only; split <;> exact ⟨_, rfl⟩)
theorem sq_put (y1 y2 y3 : Int32) {m : xi_M} (h : Rel m) : ∃ v m1 m2, F_X8_put xS0 [.ref 0, .int y1, .int y2, .int y3] m = some (some (Value.int v), m1) ∧ F_X9_put xS0 [.ref 15, .int y1, .int y2, .int y3] m1 = some (some (Value.int v), m2) ∧ Rel m2 := by
  obtain ⟨w1, rfl, a1, b1⟩ := zi_ex y1
  obtain ⟨w2, rfl, a2, b2⟩ := zi_ex y2
  obtain ⟨q, h1, h2, h3⟩ := h
  obtain ⟨m1, e1, c1, f1⟩ := c_put sh0 w1 a1 b1 w2 a2 b2 y3 q m h3 h1
  obtain ⟨m2, e2, c2, f2⟩ := m_put sh0 w1 a1 b1 w2 a2 b2 y3 q m1 h3 (MM_fr f1 h2)
  obtain ⟨v, hv⟩ := i_put w1 w2 y3 q
  rw [hv] at e1 e2
  exact ⟨v, m1, m2, e1, e2, _, CC_fr f2 c1, c2, o_put w1 w2 y3 q h3⟩
theorem i_fault (w1 : Int) (q : Sg) : ∃ v, (sp_fault w1 q).1 = some (Value.int v) := by
  unfold sp_fault
  repeat' split
  all_goals first | exact ⟨_, rfl⟩ | (dsimp only; split <;> exact ⟨_, rfl⟩)
theorem i_republic (w1 : Int) (q : Sg) : ∃ v, (sp_republic w1 q).1 = some (Value.int v) := by
  unfold sp_republic
  repeat' split
  all_goals first | exact ⟨_, rfl⟩ | (dsimp only; split <;> exact ⟨_, rfl⟩)
theorem i_player (w1 : Int) (w2 : Int) (q : Sg) : ∃ v, (sp_player w1 w2 q).1 = some (Value.int v) := by
  unfold sp_player
  repeat' split
  all_goals first | exact ⟨_, rfl⟩ | (dsimp only; split <;> exact ⟨_, rfl⟩)
theorem sq_player (y1 y2 : Int32) {m : xi_M} (h : Rel m) : ∃ v m1 m2, F_X8_player xS0 [.ref 0, .int y1, .int y2] m = some (some (Value.int v), m1) ∧ F_X9_player xS0 [.ref 15, .int y1, .int y2] m1 = some (some (Value.int v), m2) ∧ Rel m2 := by
  obtain ⟨w1, rfl, a1, b1⟩ := zi_ex y1
  obtain ⟨w2, rfl, a2, b2⟩ := zi_ex y2
  obtain ⟨q, h1, h2, h3⟩ := h
  obtain ⟨m1, e1, c1, f1⟩ := c_player sh0 w1 a1 b1 w2 a2 b2 q m h3 h1
  obtain ⟨m2, e2, c2, f2⟩ := m_player sh0 w1 a1 b1 w2 a2 b2 q m1 h3 (MM_fr f1 h2)
  obtain ⟨v, hv⟩ := i_player w1 w2 q
  rw [hv] at e1 e2
  exact ⟨v, m1, m2, e1, e2, _, CC_fr f2 c1, c2, o_player w1 w2 q h3⟩
theorem i_mark (w1 : Int) (w2 : Int) (q : Sg) : ∃ v, (sp_mark w1 w2 q).1 = some (Value.int v) := by
  unfold sp_mark
  repeat' split
  all_goals first | exact ⟨_, rfl⟩ | (dsimp only; split <;> exact ⟨_, rfl⟩)
theorem sq_mark (y1 y2 : Int32) {m : xi_M} (h : Rel m) : ∃ v m1 m2, F_X8_mark xS0 [.ref 0, .int y1, .int y2] m = some (some (Value.int v), m1) ∧ F_X9_mark xS0 [.ref 15, .int y1, .int y2] m1 = some (some (Value.int v), m2) ∧ Rel m2 := by
  obtain ⟨w1, rfl, a1, b1⟩ := zi_ex y1
  obtain ⟨w2, rfl, a2, b2⟩ := zi_ex y2
  obtain ⟨q, h1, h2, h3⟩ := h
  obtain ⟨m1, e1, c1, f1⟩ := c_mark sh0 w1 a1 b1 w2 a2 b2 q m h3 h1
  obtain ⟨m2, e2, c2, f2⟩ := m_mark sh0 w1 a1 b1 w2 a2 b2 q m1 h3 (MM_fr f1 h2)
  obtain ⟨v, hv⟩ := i_mark w1 w2 q
  rw [hv] at e1 e2
  exact ⟨v, m1, m2, e1, e2, _, CC_fr f2 c1, c2, o_mark w1 w2 q h3⟩
theorem i_term  (q : Sg) : ∃ v, (sp_term  q).1 = some (Value.int v) := by
  unfold sp_term
  repeat' split
  all_goals first | exact ⟨_, rfl⟩ | (dsimp only; split <;> exact ⟨_, rfl⟩)
theorem sq_term {m : xi_M} (h : Rel m) : ∃ v m1 m2, F_X8_term xS0 [.ref 0] m = some (some (Value.int v), m1) ∧ F_X9_term xS0 [.ref 15] m1 = some (some (Value.int v), m2) ∧ Rel m2 := by
  obtain ⟨q, h1, h2, h3⟩ := h
  obtain ⟨m1, e1, c1, f1⟩ := c_term sh0 q m h3 h1
  obtain ⟨m2, e2, c2, f2⟩ := m_term sh0 q m1 h3 (MM_fr f1 h2)
  obtain ⟨v, hv⟩ := i_term  q
  rw [hv] at e1 e2
  exact ⟨v, m1, m2, e1, e2, _, CC_fr f2 c1, c2, o_term  q h3⟩
theorem i_nudge (w1 : Int) (w2 : Int) (q : Sg) : ∃ v, (sp_nudge w1 w2 q).1 = some (Value.int v) := by
  unfold sp_nudge
  repeat' split
  all_goals first | exact ⟨_, rfl⟩ | (dsimp only; split <;> exact ⟨_, rfl⟩)
theorem sq_nudge (y1 y2 : Int32) {m : xi_M} (h : Rel m) : ∃ v m1 m2, F_X8_nudge xS0 [.ref 0, .int y1, .int y2] m = some (some (Value.int v), m1) ∧ F_X9_nudge xS0 [.ref 15, .int y1, .int y2] m1 = some (some (Value.int v), m2) ∧ Rel m2 := by
  obtain ⟨w1, rfl, a1, b1⟩ := zi_ex y1
  obtain ⟨w2, rfl, a2, b2⟩ := zi_ex y2
  obtain ⟨q, h1, h2, h3⟩ := h
  obtain ⟨m1, e1, c1, f1⟩ := c_nudge sh0 w1 a1 b1 w2 a2 b2 q m h3 h1
  obtain ⟨m2, e2, c2, f2⟩ := m_nudge sh0 w1 a1 b1 w2 a2 b2 q m1 h3 (MM_fr f1 h2)
  obtain ⟨v, hv⟩ := i_nudge w1 w2 q
  rw [hv] at e1 e2
  exact ⟨v, m1, m2, e1, e2, _, CC_fr f2 c1, c2, o_nudge w1 w2 q h3⟩
theorem i_rain (w1 : Int) (q : Sg) : ∃ v, (sp_rain w1 q).1 = some (Value.int v) := by
  unfold sp_rain
  repeat' split
  all_goals first | exact ⟨_, rfl⟩ | (dsimp only; split <;> exact ⟨_, rfl⟩)
theorem sq_rain (y1 : Int32) {m : xi_M} (h : Rel m) : ∃ v m1 m2, F_X8_rain xS0 [.ref 0, .int y1] m = some (some (Value.int v), m1) ∧ F_X9_rain xS0 [.ref 15, .int y1] m1 = some (some (Value.int v), m2) ∧ Rel m2 := by
  obtain ⟨w1, rfl, a1, b1⟩ := zi_ex y1
  obtain ⟨q, h1, h2, h3⟩ := h
  obtain ⟨m1, e1, c1, f1⟩ := c_rain sh0 w1 a1 b1 q m h3 h1
  obtain ⟨m2, e2, c2, f2⟩ := m_rain sh0 w1 a1 b1 q m1 h3 (MM_fr f1 h2)
  obtain ⟨v, hv⟩ := i_rain w1 q
  rw [hv] at e1 e2
  exact ⟨v, m1, m2, e1, e2, _, CC_fr f2 c1, c2, o_rain w1 q h3⟩
theorem i_stand (w1 : Int) (w2 : Int) (q : Sg) : ∃ v, (sp_stand w1 w2 q).1 = some (Value.int v) := by
  unfold sp_stand
  repeat' split
  all_goals first | exact ⟨_, rfl⟩ | (dsimp only; split <;> exact ⟨_, rfl⟩)
theorem sq_stand (y1 y2 : Int32) {m : xi_M} (h : Rel m) : ∃ v m1 m2, F_X8_stand xS0 [.ref 0, .int y1, .int y2] m = some (some (Value.int v), m1) ∧ F_X9_stand xS0 [.ref 15, .int y1, .int y2] m1 = some (some (Value.int v), m2) ∧ Rel m2 := by
  obtain ⟨w1, rfl, a1, b1⟩ := zi_ex y1
  obtain ⟨w2, rfl, a2, b2⟩ := zi_ex y2
  obtain ⟨q, h1, h2, h3⟩ := h
  obtain ⟨m1, e1, c1, f1⟩ := c_stand sh0 w1 a1 b1 w2 a2 b2 q m h3 h1
  obtain ⟨m2, e2, c2, f2⟩ := m_stand sh0 w1 a1 b1 w2 a2 b2 q m1 h3 (MM_fr f1 h2)
  obtain ⟨v, hv⟩ := i_stand w1 w2 q
  rw [hv] at e1 e2
  exact ⟨v, m1, m2, e1, e2, _, CC_fr f2 c1, c2, o_stand w1 w2 q h3⟩
theorem i_undo (w1 : Int) (q : Sg) : ∃ v, (sp_undo w1 q).1 = some (Value.int v) := by
  unfold sp_undo
  repeat' split
  all_goals first | exact ⟨_, rfl⟩ | (dsimp only; split <;> exact ⟨_, rfl⟩)
theorem sq_undo (y1 : Int32) {m : xi_M} (h : Rel m) : ∃ v m1 m2, F_X8_undo xS0 [.ref 0, .int y1] m = some (some (Value.int v), m1) ∧ F_X9_undo xS0 [.ref 15, .int y1] m1 = some (some (Value.int v), m2) ∧ Rel m2 := by
  obtain ⟨w1, rfl, a1, b1⟩ := zi_ex y1
  obtain ⟨q, h1, h2, h3⟩ := h
  obtain ⟨m1, e1, c1, f1⟩ := c_undo sh0 w1 a1 b1 q m h3 h1
  obtain ⟨m2, e2, c2, f2⟩ := m_undo sh0 w1 a1 b1 q m1 h3 (MM_fr f1 h2)
  obtain ⟨v, hv⟩ := i_undo w1 q
  rw [hv] at e1 e2
  exact ⟨v, m1, m2, e1, e2, _, CC_fr f2 c1, c2, o_undo w1 q h3⟩
theorem i_keep (w1 : Int) (q : Sg) : ∃ v, (sp_keep w1 q).1 = some (Value.int v) := by
  unfold sp_keep
  repeat' split
  all_goals first | exact ⟨_, rfl⟩ | (dsimp only; split <;> exact ⟨_, rfl⟩)
theorem sq_keep (y1 : Int32) {m : xi_M} (h : Rel m) : ∃ v m1 m2, F_X8_keep xS0 [.ref 0, .int y1] m = some (some (Value.int v), m1) ∧ F_X9_keep xS0 [.ref 15, .int y1] m1 = some (some (Value.int v), m2) ∧ Rel m2 := by
  obtain ⟨w1, rfl, a1, b1⟩ := zi_ex y1
  obtain ⟨q, h1, h2, h3⟩ := h
  obtain ⟨m1, e1, c1, f1⟩ := c_keep sh0 w1 a1 b1 q m h3 h1
  obtain ⟨m2, e2, c2, f2⟩ := m_keep sh0 w1 a1 b1 q m1 h3 (MM_fr f1 h2)
  obtain ⟨v, hv⟩ := i_keep w1 q
  rw [hv] at e1 e2
  exact ⟨v, m1, m2, e1, e2, _, CC_fr f2 c1, c2, o_keep w1 q h3⟩
theorem i_on (w1 : Int) (q : Sg) : ∃ v, (sp_on w1 q).1 = some (Value.int v) := by
  unfold sp_on
  repeat' split
  all_goals first | exact ⟨_, rfl⟩ | (dsimp only; split <;> exact ⟨_, rfl⟩)
theorem sq_on (y1 : Int32) {m : xi_M} (h : Rel m) : ∃ v m1 m2, F_X8_on xS0 [.ref 0, .int y1] m = some (some (Value.int v), m1) ∧ F_X9_on xS0 [.ref 15, .int y1] m1 = some (some (Value.int v), m2) ∧ Rel m2 := by
  obtain ⟨w1, rfl, a1, b1⟩ := zi_ex y1
  obtain ⟨q, h1, h2, h3⟩ := h
  obtain ⟨m1, e1, c1, f1⟩ := c_on sh0 w1 a1 b1 q m h3 h1
  obtain ⟨m2, e2, c2, f2⟩ := m_on sh0 w1 a1 b1 q m1 h3 (MM_fr f1 h2)
  obtain ⟨v, hv⟩ := i_on w1 q
  rw [hv] at e1 e2
  exact ⟨v, m1, m2, e1, e2, _, CC_fr f2 c1, c2, o_on w1 q h3⟩
theorem i_lands (w1 : Int) (w2 : Int) (w3 : Int) (q : Sg) : ∃ v, (sp_lands w1 w2 w3 q).1 = some (Value.int v) := by
  unfold sp_lands
  repeat' split
  all_goals first | exact ⟨_, rfl⟩ | (dsimp only; split <;> exact ⟨_, rfl⟩)
theorem sq_lands (y1 y2 y3 : Int32) {m : xi_M} (h : Rel m) : ∃ v m1 m2, F_X8_lands xS0 [.ref 0, .int y1, .int y2, .int y3] m = some (some (Value.int v), m1) ∧ F_X9_lands xS0 [.ref 15, .int y1, .int y2, .int y3] m1 = some (some (Value.int v), m2) ∧ Rel m2 := by
  obtain ⟨w1, rfl, a1, b1⟩ := zi_ex y1
  obtain ⟨w2, rfl, a2, b2⟩ := zi_ex y2
  obtain ⟨w3, rfl, a3, b3⟩ := zi_ex y3
  obtain ⟨q, h1, h2, h3⟩ := h
  obtain ⟨m1, e1, c1, f1⟩ := c_lands sh0 w1 a1 b1 w2 a2 b2 w3 a3 b3 q m h3 h1
  obtain ⟨m2, e2, c2, f2⟩ := m_lands sh0 w1 a1 b1 w2 a2 b2 w3 a3 b3 q m1 h3 (MM_fr f1 h2)
  obtain ⟨v, hv⟩ := i_lands w1 w2 w3 q
  rw [hv] at e1 e2
  exact ⟨v, m1, m2, e1, e2, _, CC_fr f2 c1, c2, o_lands w1 w2 w3 q h3⟩
theorem i_in (w1 : Int) (w2 : Int) (q : Sg) : ∃ v, (sp_in w1 w2 q).1 = some (Value.int v) := by
  unfold sp_in
  repeat' split
  all_goals first | exact ⟨_, rfl⟩ | (dsimp only; split <;> exact ⟨_, rfl⟩)
theorem sq_in (y1 y2 : Int32) {m : xi_M} (h : Rel m) : ∃ v m1 m2, F_X8_in xS0 [.ref 0, .int y1, .int y2] m = some (some (Value.int v), m1) ∧ F_X9_in xS0 [.ref 15, .int y1, .int y2] m1 = some (some (Value.int v), m2) ∧ Rel m2 := by
  obtain ⟨w1, rfl, a1, b1⟩ := zi_ex y1
  obtain ⟨w2, rfl, a2, b2⟩ := zi_ex y2
  obtain ⟨q, h1, h2, h3⟩ := h
  obtain ⟨m1, e1, c1, f1⟩ := c_in sh0 w1 a1 b1 w2 a2 b2 q m h3 h1
  obtain ⟨m2, e2, c2, f2⟩ := m_in sh0 w1 a1 b1 w2 a2 b2 q m1 h3 (MM_fr f1 h2)
  obtain ⟨v, hv⟩ := i_in w1 w2 q
  rw [hv] at e1 e2
  exact ⟨v, m1, m2, e1, e2, _, CC_fr f2 c1, c2, o_in w1 w2 q h3⟩
theorem i_seen (w1 : Int) (q : Sg) : ∃ v, (sp_seen w1 q).1 = some (Value.int v) := by
  unfold sp_seen
  repeat' split
  all_goals first | exact ⟨_, rfl⟩ | (dsimp only; split <;> exact ⟨_, rfl⟩)
theorem sq_seen (y1 : Int32) {m : xi_M} (h : Rel m) : ∃ v m1 m2, F_X8_seen xS0 [.ref 0, .int y1] m = some (some (Value.int v), m1) ∧ F_X9_seen xS0 [.ref 15, .int y1] m1 = some (some (Value.int v), m2) ∧ Rel m2 := by
  obtain ⟨w1, rfl, a1, b1⟩ := zi_ex y1
  obtain ⟨q, h1, h2, h3⟩ := h
  obtain ⟨m1, e1, c1, f1⟩ := c_seen sh0 w1 a1 b1 q m h3 h1
  obtain ⟨m2, e2, c2, f2⟩ := m_seen sh0 w1 a1 b1 q m1 h3 (MM_fr f1 h2)
  obtain ⟨v, hv⟩ := i_seen w1 q
  rw [hv] at e1 e2
  exact ⟨v, m1, m2, e1, e2, _, CC_fr f2 c1, c2, o_seen w1 q h3⟩
theorem i_lead (w1 : Int) (q : Sg) : ∃ v, (sp_lead w1 q).1 = some (Value.int v) := by
  unfold sp_lead
  repeat' split
  all_goals first | exact ⟨_, rfl⟩ | (dsimp only; split <;> exact ⟨_, rfl⟩)
theorem sq_lead (y1 : Int32) {m : xi_M} (h : Rel m) : ∃ v m1 m2, F_X8_lead xS0 [.ref 0, .int y1] m = some (some (Value.int v), m1) ∧ F_X9_lead xS0 [.ref 15, .int y1] m1 = some (some (Value.int v), m2) ∧ Rel m2 := by
  obtain ⟨w1, rfl, a1, b1⟩ := zi_ex y1
  obtain ⟨q, h1, h2, h3⟩ := h
  obtain ⟨m1, e1, c1, f1⟩ := c_lead sh0 w1 a1 b1 q m h3 h1
  obtain ⟨m2, e2, c2, f2⟩ := m_lead sh0 w1 a1 b1 q m1 h3 (MM_fr f1 h2)
  obtain ⟨v, hv⟩ := i_lead w1 q
  rw [hv] at e1 e2
  exact ⟨v, m1, m2, e1, e2, _, CC_fr f2 c1, c2, o_lead w1 q h3⟩
theorem i_amend (w1 : Int) (w2 : Int) (w3 : Int) (q : Sg) : ∃ v, (sp_amend w1 w2 w3 q).1 = some (Value.int v) := by
  unfold sp_amend sp_amS
  repeat' split
  all_goals first | exact ⟨_, rfl⟩ | (dsimp only; split <;> exact ⟨_, rfl⟩)
theorem sq_amend (y1 y2 y3 : Int32) {m : xi_M} (h : Rel m) : ∃ v m1 m2, F_X8_amend xS0 [.ref 0, .int y1, .int y2, .int y3] m = some (some (Value.int v), m1) ∧ F_X9_amend xS0 [.ref 15, .int y1, .int y2, .int y3] m1 = some (some (Value.int v), m2) ∧ Rel m2 := by
  obtain ⟨w1, rfl, a1, b1⟩ := zi_ex y1
  obtain ⟨w2, rfl, a2, b2⟩ := zi_ex y2
  obtain ⟨w3, rfl, a3, b3⟩ := zi_ex y3
  obtain ⟨q, h1, h2, h3⟩ := h
  obtain ⟨m1, e1, c1, f1⟩ := c_amend sh0 w1 a1 b1 w2 a2 b2 w3 a3 b3 q m h3 h1
  obtain ⟨m2, e2, c2, f2⟩ := m_amend sh0 w1 a1 b1 w2 a2 b2 w3 a3 b3 q m1 h3 (MM_fr f1 h2)
  obtain ⟨v, hv⟩ := i_amend w1 w2 w3 q
  rw [hv] at e1 e2
  exact ⟨v, m1, m2, e1, e2, _, CC_fr f2 c1, c2, o_amend w1 w2 w3 q h3⟩
theorem i_coats (w1 : Int) (w2 : Int) (q : Sg) : ∃ v, (sp_coats w1 w2 q).1 = some (Value.int v) := by
  unfold sp_coats spG
  repeat' split
  all_goals first | exact ⟨_, rfl⟩ | (dsimp only; split <;> exact ⟨_, rfl⟩)
theorem sq_coats (y1 y2 : Int32) {m : xi_M} (h : Rel m) : ∃ v m1 m2, F_X8_coats xS0 [.ref 0, .int y1, .int y2] m = some (some (Value.int v), m1) ∧ F_X9_coats xS0 [.ref 15, .int y1, .int y2] m1 = some (some (Value.int v), m2) ∧ Rel m2 := by
  obtain ⟨w1, rfl, a1, b1⟩ := zi_ex y1
  obtain ⟨w2, rfl, a2, b2⟩ := zi_ex y2
  obtain ⟨q, h1, h2, h3⟩ := h
  obtain ⟨m1, e1, c1, f1⟩ := c_coats sh0 w1 a1 b1 w2 a2 b2 q m h3 h1
  obtain ⟨m2, e2, c2, f2⟩ := m_coats sh0 w1 a1 b1 w2 a2 b2 q m1 h3 (MM_fr f1 h2)
  obtain ⟨v, hv⟩ := i_coats w1 w2 q
  rw [hv] at e1 e2
  exact ⟨v, m1, m2, e1, e2, _, CC_fr f2 c1, c2, o_coats w1 w2 q h3⟩
theorem i_sure (w1 : Int) (w2 : Int) (q : Sg) : ∃ v, (sp_sure w1 w2 q).1 = some (Value.int v) := by
  unfold sp_sure spG
  repeat' split
  all_goals first | exact ⟨_, rfl⟩ | (dsimp only; split <;> exact ⟨_, rfl⟩)
theorem sq_sure (y1 y2 : Int32) {m : xi_M} (h : Rel m) : ∃ v m1 m2, F_X8_sure xS0 [.ref 0, .int y1, .int y2] m = some (some (Value.int v), m1) ∧ F_X9_sure xS0 [.ref 15, .int y1, .int y2] m1 = some (some (Value.int v), m2) ∧ Rel m2 := by
  obtain ⟨w1, rfl, a1, b1⟩ := zi_ex y1
  obtain ⟨w2, rfl, a2, b2⟩ := zi_ex y2
  obtain ⟨q, h1, h2, h3⟩ := h
  obtain ⟨m1, e1, c1, f1⟩ := c_sure sh0 w1 a1 b1 w2 a2 b2 q m h3 h1
  obtain ⟨m2, e2, c2, f2⟩ := m_sure sh0 w1 a1 b1 w2 a2 b2 q m1 h3 (MM_fr f1 h2)
  obtain ⟨v, hv⟩ := i_sure w1 w2 q
  rw [hv] at e1 e2
  exact ⟨v, m1, m2, e1, e2, _, CC_fr f2 c1, c2, o_sure w1 w2 q h3⟩
theorem i_next (w1 : Int) (w2 : Int) (q : Sg) : ∃ v, (sp_next w1 w2 q).1 = some (Value.int v) := by
  unfold sp_next spG
  repeat' split
  all_goals first | exact ⟨_, rfl⟩ | (dsimp only; split <;> exact ⟨_, rfl⟩)
theorem sq_next (y1 y2 : Int32) {m : xi_M} (h : Rel m) : ∃ v m1 m2, F_X8_next xS0 [.ref 0, .int y1, .int y2] m = some (some (Value.int v), m1) ∧ F_X9_next xS0 [.ref 15, .int y1, .int y2] m1 = some (some (Value.int v), m2) ∧ Rel m2 := by
  obtain ⟨w1, rfl, a1, b1⟩ := zi_ex y1
  obtain ⟨w2, rfl, a2, b2⟩ := zi_ex y2
  obtain ⟨q, h1, h2, h3⟩ := h
  obtain ⟨m1, e1, c1, f1⟩ := c_next sh0 w1 a1 b1 w2 a2 b2 q m h3 h1
  obtain ⟨m2, e2, c2, f2⟩ := m_next sh0 w1 a1 b1 w2 a2 b2 q m1 h3 (MM_fr f1 h2)
  obtain ⟨v, hv⟩ := i_next w1 w2 q
  rw [hv] at e1 e2
  exact ⟨v, m1, m2, e1, e2, _, CC_fr f2 c1, c2, o_next w1 w2 q h3⟩
theorem i_stood (w1 : Int) (w2 : Int) (q : Sg) : ∃ v, (sp_stood w1 w2 q).1 = some (Value.int v) := by
  unfold sp_stood
  repeat' split
  all_goals first | exact ⟨_, rfl⟩ | (dsimp only; split <;> exact ⟨_, rfl⟩)
theorem sq_stood (y1 y2 : Int32) {m : xi_M} (h : Rel m) : ∃ v m1 m2, F_X8_stood xS0 [.ref 0, .int y1, .int y2] m = some (some (Value.int v), m1) ∧ F_X9_stood xS0 [.ref 15, .int y1, .int y2] m1 = some (some (Value.int v), m2) ∧ Rel m2 := by
  obtain ⟨w1, rfl, a1, b1⟩ := zi_ex y1
  obtain ⟨w2, rfl, a2, b2⟩ := zi_ex y2
  obtain ⟨q, h1, h2, h3⟩ := h
  obtain ⟨m1, e1, c1, f1⟩ := c_stood sh0 w1 a1 b1 w2 a2 b2 q m h3 h1
  obtain ⟨m2, e2, c2, f2⟩ := m_stood sh0 w1 a1 b1 w2 a2 b2 q m1 h3 (MM_fr f1 h2)
  obtain ⟨v, hv⟩ := i_stood w1 w2 q
  rw [hv] at e1 e2
  exact ⟨v, m1, m2, e1, e2, _, CC_fr f2 c1, c2, o_stood w1 w2 q h3⟩
theorem i_kinds (w1 : Int) (w2 : Int) (q : Sg) : ∃ v, (sp_kinds w1 w2 q).1 = some (Value.int v) := by
  unfold sp_kinds
  repeat' split
  all_goals first | exact ⟨_, rfl⟩ | (dsimp only; split <;> exact ⟨_, rfl⟩)
theorem sq_kinds (y1 y2 : Int32) {m : xi_M} (h : Rel m) : ∃ v m1 m2, F_X8_kinds xS0 [.ref 0, .int y1, .int y2] m = some (some (Value.int v), m1) ∧ F_X9_kinds xS0 [.ref 15, .int y1, .int y2] m1 = some (some (Value.int v), m2) ∧ Rel m2 := by
  obtain ⟨w1, rfl, a1, b1⟩ := zi_ex y1
  obtain ⟨w2, rfl, a2, b2⟩ := zi_ex y2
  obtain ⟨q, h1, h2, h3⟩ := h
  obtain ⟨m1, e1, c1, f1⟩ := c_kinds sh0 w1 a1 b1 w2 a2 b2 q m h3 h1
  obtain ⟨m2, e2, c2, f2⟩ := m_kinds sh0 w1 a1 b1 w2 a2 b2 q m1 h3 (MM_fr f1 h2)
  obtain ⟨v, hv⟩ := i_kinds w1 w2 q
  rw [hv] at e1 e2
  exact ⟨v, m1, m2, e1, e2, _, CC_fr f2 c1, c2, o_kinds w1 w2 q h3⟩
theorem i_sets (w1 : Int) (q : Sg) : ∃ v, (sp_sets w1 q).1 = some (Value.int v) := by
  unfold sp_sets
  repeat' split
  all_goals first | exact ⟨_, rfl⟩ | (dsimp only; split <;> exact ⟨_, rfl⟩)
theorem sq_sets (y1 : Int32) {m : xi_M} (h : Rel m) : ∃ v m1 m2, F_X8_sets xS0 [.ref 0, .int y1] m = some (some (Value.int v), m1) ∧ F_X9_sets xS0 [.ref 15, .int y1] m1 = some (some (Value.int v), m2) ∧ Rel m2 := by
  obtain ⟨w1, rfl, a1, b1⟩ := zi_ex y1
  obtain ⟨q, h1, h2, h3⟩ := h
  obtain ⟨m1, e1, c1, f1⟩ := c_sets sh0 w1 a1 b1 q m h3 h1
  obtain ⟨m2, e2, c2, f2⟩ := m_sets sh0 w1 a1 b1 q m1 h3 (MM_fr f1 h2)
  obtain ⟨v, hv⟩ := i_sets w1 q
  rw [hv] at e1 e2
  exact ⟨v, m1, m2, e1, e2, _, CC_fr f2 c1, c2, o_sets w1 q h3⟩
theorem i_surely (w1 : Int) (q : Sg) : ∃ v, (sp_surely w1 q).1 = some (Value.int v) := by
  unfold sp_surely
  repeat' split
  all_goals first | exact ⟨_, rfl⟩ | (dsimp only; split <;> exact ⟨_, rfl⟩)
theorem sq_surely (y1 : Int32) {m : xi_M} (h : Rel m) : ∃ v m1 m2, F_X8_surely xS0 [.ref 0, .int y1] m = some (some (Value.int v), m1) ∧ F_X9_surely xS0 [.ref 15, .int y1] m1 = some (some (Value.int v), m2) ∧ Rel m2 := by
  obtain ⟨w1, rfl, a1, b1⟩ := zi_ex y1
  obtain ⟨q, h1, h2, h3⟩ := h
  obtain ⟨m1, e1, c1, f1⟩ := c_surely sh0 w1 a1 b1 q m h3 h1
  obtain ⟨m2, e2, c2, f2⟩ := m_surely sh0 w1 a1 b1 q m1 h3 (MM_fr f1 h2)
  obtain ⟨v, hv⟩ := i_surely w1 q
  rw [hv] at e1 e2
  exact ⟨v, m1, m2, e1, e2, _, CC_fr f2 c1, c2, o_surely w1 q h3⟩
theorem i_duel (w1 : Int) (q : Sg) : ∃ v, (sp_duel w1 q).1 = some (Value.int v) := by
  unfold sp_duel
  repeat' split
  all_goals first | exact ⟨_, rfl⟩ | (dsimp only; split <;> exact ⟨_, rfl⟩)
theorem sq_duel (y1 : Int32) {m : xi_M} (h : Rel m) : ∃ v m1 m2, F_X8_duel xS0 [.ref 0, .int y1] m = some (some (Value.int v), m1) ∧ F_X9_duel xS0 [.ref 15, .int y1] m1 = some (some (Value.int v), m2) ∧ Rel m2 := by
  obtain ⟨w1, rfl, a1, b1⟩ := zi_ex y1
  obtain ⟨q, h1, h2, h3⟩ := h
  obtain ⟨m1, e1, c1, f1⟩ := c_duel sh0 w1 a1 b1 q m h3 h1
  obtain ⟨m2, e2, c2, f2⟩ := m_duel sh0 w1 a1 b1 q m1 h3 (MM_fr f1 h2)
  obtain ⟨v, hv⟩ := i_duel w1 q
  rw [hv] at e1 e2
  exact ⟨v, m1, m2, e1, e2, _, CC_fr f2 c1, c2, o_duel w1 q h3⟩
theorem i_odds (w1 : Int) (w2 : Int) (q : Sg) : ∃ v, (sp_odds w1 w2 q).1 = some (Value.int v) := by
  unfold sp_odds
  repeat' split
  all_goals first | exact ⟨_, rfl⟩ | (dsimp only; split <;> exact ⟨_, rfl⟩)
theorem sq_odds (y1 y2 : Int32) {m : xi_M} (h : Rel m) : ∃ v m1 m2, F_X8_odds xS0 [.ref 0, .int y1, .int y2] m = some (some (Value.int v), m1) ∧ F_X9_odds xS0 [.ref 15, .int y1, .int y2] m1 = some (some (Value.int v), m2) ∧ Rel m2 := by
  obtain ⟨w1, rfl, a1, b1⟩ := zi_ex y1
  obtain ⟨w2, rfl, a2, b2⟩ := zi_ex y2
  obtain ⟨q, h1, h2, h3⟩ := h
  obtain ⟨m1, e1, c1, f1⟩ := c_odds sh0 w1 a1 b1 w2 a2 b2 q m h3 h1
  obtain ⟨m2, e2, c2, f2⟩ := m_odds sh0 w1 a1 b1 w2 a2 b2 q m1 h3 (MM_fr f1 h2)
  obtain ⟨v, hv⟩ := i_odds w1 w2 q
  rw [hv] at e1 e2
  exact ⟨v, m1, m2, e1, e2, _, CC_fr f2 c1, c2, o_odds w1 w2 q h3⟩
theorem i_mid (w1 : Int) (q : Sg) : ∃ v, (sp_mid w1 q).1 = some (Value.int v) := by
  unfold sp_mid
  repeat' split
  all_goals first | exact ⟨_, rfl⟩ | (dsimp only; split <;> exact ⟨_, rfl⟩)
theorem sq_mid (y1 : Int32) {m : xi_M} (h : Rel m) : ∃ v m1 m2, F_X8_mid xS0 [.ref 0, .int y1] m = some (some (Value.int v), m1) ∧ F_X9_mid xS0 [.ref 15, .int y1] m1 = some (some (Value.int v), m2) ∧ Rel m2 := by
  obtain ⟨w1, rfl, a1, b1⟩ := zi_ex y1
  obtain ⟨q, h1, h2, h3⟩ := h
  obtain ⟨m1, e1, c1, f1⟩ := c_mid sh0 w1 a1 b1 q m h3 h1
  obtain ⟨m2, e2, c2, f2⟩ := m_mid sh0 w1 a1 b1 q m1 h3 (MM_fr f1 h2)
  obtain ⟨v, hv⟩ := i_mid w1 q
  rw [hv] at e1 e2
  exact ⟨v, m1, m2, e1, e2, _, CC_fr f2 c1, c2, o_mid w1 q h3⟩
theorem i_lots (w1 : Int) (w2 : Int) (q : Sg) : ∃ v, (sp_lots w1 w2 q).1 = some (Value.int v) := by
  unfold sp_lots
  repeat' split
  all_goals first | exact ⟨_, rfl⟩ | (dsimp only; split <;> exact ⟨_, rfl⟩)
theorem sq_lots (y1 y2 : Int32) {m : xi_M} (h : Rel m) : ∃ v m1 m2, F_X8_lots xS0 [.ref 0, .int y1, .int y2] m = some (some (Value.int v), m1) ∧ F_X9_lots xS0 [.ref 15, .int y1, .int y2] m1 = some (some (Value.int v), m2) ∧ Rel m2 := by
  obtain ⟨w1, rfl, a1, b1⟩ := zi_ex y1
  obtain ⟨w2, rfl, a2, b2⟩ := zi_ex y2
  obtain ⟨q, h1, h2, h3⟩ := h
  obtain ⟨m1, e1, c1, f1⟩ := c_lots sh0 w1 a1 b1 w2 a2 b2 q m h3 h1
  obtain ⟨m2, e2, c2, f2⟩ := m_lots sh0 w1 a1 b1 w2 a2 b2 q m1 h3 (MM_fr f1 h2)
  obtain ⟨v, hv⟩ := i_lots w1 w2 q
  rw [hv] at e1 e2
  exact ⟨v, m1, m2, e1, e2, _, CC_fr f2 c1, c2, o_lots w1 w2 q h3⟩
theorem sq_asked {m : xi_M} (h : Rel m) : ∃ v m1 m2, F_X8_asked xS0 [.ref 0] m = some (some (Value.int v), m1) ∧ F_X9_asked xS0 [.ref 15] m1 = some (some (Value.int v), m2) ∧ Rel m2 := by
  obtain ⟨q, h1, h2, h3⟩ := h
  obtain ⟨m1, e1, c1, f1⟩ := c_asked sh0 q m h3 h1
  obtain ⟨m2, e2, c2, f2⟩ := m_asked sh0 q m1 h3 (MM_fr f1 h2)
  exact ⟨_, m1, m2, e1, e2, _, CC_fr f2 c1, c2, o_asked q h3⟩
theorem sq_upper {m : xi_M} (h : Rel m) : ∃ v m1 m2, F_X8_upper xS0 [.ref 0] m = some (some (Value.long v), m1) ∧ F_X9_upper xS0 [.ref 15] m1 = some (some (Value.long v), m2) ∧ Rel m2 := by
  obtain ⟨q, h1, h2, h3⟩ := h
  obtain ⟨m1, e1, c1, f1⟩ := c_upper sh0 q m h3 h1
  obtain ⟨m2, e2, c2, f2⟩ := m_upper sh0 q m1 h3 (MM_fr f1 h2)
  exact ⟨_, m1, m2, e1, e2, _, CC_fr f2 c1, c2, o_upper q h3⟩
theorem sq_lower {m : xi_M} (h : Rel m) : ∃ v m1 m2, F_X8_lower xS0 [.ref 0] m = some (some (Value.long v), m1) ∧ F_X9_lower xS0 [.ref 15] m1 = some (some (Value.long v), m2) ∧ Rel m2 := by
  obtain ⟨q, h1, h2, h3⟩ := h
  obtain ⟨m1, e1, c1, f1⟩ := c_lower sh0 q m h3 h1
  obtain ⟨m2, e2, c2, f2⟩ := m_lower sh0 q m1 h3 (MM_fr f1 h2)
  exact ⟨_, m1, m2, e1, e2, _, CC_fr f2 c1, c2, o_lower q h3⟩
theorem i_count (w1 : Int) (q : Sg) : ∃ v, (sp_count w1 q).1 = some (Value.int v) := by
  unfold sp_count
  repeat' split
  all_goals first | exact ⟨_, rfl⟩ | (dsimp only; split <;> exact ⟨_, rfl⟩)
theorem sq_count (y1 : Int32) {m : xi_M} (h : Rel m) : ∃ v m1 m2, F_X8_count xS0 [.ref 0, .int y1] m = some (some (Value.int v), m1) ∧ F_X9_count xS0 [.ref 15, .int y1] m1 = some (some (Value.int v), m2) ∧ Rel m2 := by
  obtain ⟨w1, rfl, a1, b1⟩ := zi_ex y1
  obtain ⟨q, h1, h2, h3⟩ := h
  obtain ⟨m1, e1, c1, f1⟩ := c_count sh0 w1 a1 b1 q m h3 h1
  obtain ⟨m2, e2, c2, f2⟩ := m_count sh0 w1 a1 b1 q m1 h3 (MM_fr f1 h2)
  obtain ⟨v, hv⟩ := i_count w1 q
  rw [hv] at e1 e2
  exact ⟨v, m1, m2, e1, e2, _, CC_fr f2 c1, c2, o_count w1 q h3⟩
theorem sq_finding {m : xi_M} (h : Rel m) : ∃ v m1 m2, F_X8_finding xS0 [.ref 0] m = some (some (Value.int v), m1) ∧ F_X9_finding xS0 [.ref 15] m1 = some (some (Value.int v), m2) ∧ Rel m2 := by
  obtain ⟨q, h1, h2, h3⟩ := h
  obtain ⟨m1, e1, c1, f1⟩ := c_finding sh0 q m h3 h1
  obtain ⟨m2, e2, c2, f2⟩ := m_finding sh0 q m1 h3 (MM_fr f1 h2)
  exact ⟨_, m1, m2, e1, e2, _, CC_fr f2 c1, c2, o_finding q h3⟩
theorem i_findings (w1 : Int) (q : Sg) : ∃ v, (sp_findings w1 q).1 = some (Value.int v) := by
  unfold sp_findings
  repeat' split
  all_goals first | exact ⟨_, rfl⟩ | (dsimp only; split <;> exact ⟨_, rfl⟩)
theorem sq_findings (y1 : Int32) {m : xi_M} (h : Rel m) : ∃ v m1 m2, F_X8_findings xS0 [.ref 0, .int y1] m = some (some (Value.int v), m1) ∧ F_X9_findings xS0 [.ref 15, .int y1] m1 = some (some (Value.int v), m2) ∧ Rel m2 := by
  obtain ⟨w1, rfl, a1, b1⟩ := zi_ex y1
  obtain ⟨q, h1, h2, h3⟩ := h
  obtain ⟨m1, e1, c1, f1⟩ := c_findings sh0 w1 a1 b1 q m h3 h1
  obtain ⟨m2, e2, c2, f2⟩ := m_findings sh0 w1 a1 b1 q m1 h3 (MM_fr f1 h2)
  obtain ⟨v, hv⟩ := i_findings w1 q
  rw [hv] at e1 e2
  exact ⟨v, m1, m2, e1, e2, _, CC_fr f2 c1, c2, o_findings w1 q h3⟩
theorem sq_digest {m : xi_M} (h : Rel m) : ∃ v m1 m2, F_X8_digest xS0 [.ref 0] m = some (some (Value.long v), m1) ∧ F_X9_digest xS0 [.ref 15] m1 = some (some (Value.long v), m2) ∧ Rel m2 := by
  obtain ⟨q, h1, h2, h3⟩ := h
  obtain ⟨m1, e1, c1, f1⟩ := c_digest sh0 q m h3 h1
  obtain ⟨m2, e2, c2, f2⟩ := m_digest sh0 q m1 h3 (MM_fr f1 h2)
  exact ⟨_, m1, m2, e1, e2, _, CC_fr f2 c1, c2, h3⟩
