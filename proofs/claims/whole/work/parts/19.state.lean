/-! The shape of all cells, the state that both programs hold, and what single steps do to it. -/
def ShT (S : xi_S) : Prop := S.1 0 = 10 ∧ S.2.2 0 0 = some 1 ∧ S.2.2 0 1 = some 2 ∧ S.2.2 0 2 = some 50 ∧ S.2.2 0 3 = some 60 ∧ S.2.2 0 4 = some 3 ∧ S.2.2 0 5 = some 5 ∧ S.2.2 0 6 = some 9 ∧ S.2.2 0 7 = some 11 ∧ S.2.2 0 8 = some 13 ∧ S.2.2 0 9 = some 4 ∧ S.1 1 = 1 ∧ S.1 2 = 1 ∧ S.1 3 = 2 ∧ S.1 4 = 0 ∧ S.2.1 1 = 6 ∧ S.2.1 2 = 4 ∧ S.2.1 3 = 3 ∧ S.2.1 4 = 6 ∧ (∀ r, r < 6 → S.2.2 1 r = some (30 + r)) ∧ (∀ t, t < 4 → S.2.2 2 t = some (30 + (6 + t))) ∧ (∀ k, k < 3 → S.2.2 3 k = some (70 + 10 * k)) ∧ (∀ s, s < 10 → S.1 (30 + s) = 9) ∧ (∀ s, s < 10 → S.2.2 (30 + s) 2 = some (40 + s)) ∧ (∀ s, s < 10 → S.1 (40 + s) = 0) ∧ (∀ s, s < 6 → S.2.1 (40 + s) = 40) ∧ (∀ s, s < 4 → S.2.1 (40 + (6 + s)) = 60)
def ShB (S : xi_S) : Prop := S.1 5 = 4 ∧ S.2.2 5 2 = some 6 ∧ S.2.2 5 3 = some 7 ∧ S.2.2 5 4 = some 8 ∧ S.1 6 = 0 ∧ S.1 7 = 0 ∧ S.1 8 = 0 ∧ S.2.1 6 = 6 ∧ S.2.1 7 = 6 ∧ S.2.1 8 = 2 ∧ S.1 9 = 3 ∧ S.2.2 9 0 = some 10 ∧ S.1 10 = 0 ∧ S.2.1 10 = 98 ∧ S.1 11 = 5 ∧ S.2.2 11 0 = some 12 ∧ S.1 12 = 0 ∧ S.2.1 12 = 4 ∧ S.1 13 = 6 ∧ S.2.2 13 2 = some 14 ∧ S.1 14 = 0 ∧ S.2.1 14 = 21
def ShX (S : xi_S) : Prop := S.1 15 = 11 ∧ S.2.2 15 0 = some 16 ∧ S.2.2 15 1 = some 17 ∧ S.2.2 15 2 = some 18 ∧ S.2.2 15 3 = some 19 ∧ S.2.2 15 4 = some 20 ∧ S.2.2 15 5 = some 21 ∧ S.2.2 15 6 = some 22 ∧ S.2.2 15 7 = some 23 ∧ S.2.2 15 8 = some 24 ∧ S.2.2 15 10 = some 25 ∧ S.2.2 15 11 = some 26 ∧ S.2.2 15 12 = some 27 ∧ S.2.2 15 14 = some 28 ∧ S.2.2 15 20 = some 29 ∧ S.1 16 = 0 ∧ S.1 17 = 0 ∧ S.1 18 = 0 ∧ S.1 19 = 0 ∧ S.1 20 = 0 ∧ S.1 21 = 0 ∧ S.1 22 = 0 ∧ S.1 23 = 0 ∧ S.1 24 = 0 ∧ S.1 25 = 0 ∧ S.1 26 = 0 ∧ S.1 27 = 0 ∧ S.1 28 = 0 ∧ S.1 29 = 0 ∧ S.2.1 16 = 6 ∧ S.2.1 17 = 240 ∧ S.2.1 18 = 4 ∧ S.2.1 19 = 240 ∧ S.2.1 20 = 40 ∧ S.2.1 21 = 34 ∧ S.2.1 22 = 34 ∧ S.2.1 23 = 34 ∧ S.2.1 24 = 1360 ∧ S.2.1 25 = 102 ∧ S.2.1 26 = 4080 ∧ S.2.1 27 = 3 ∧ S.2.1 28 = 6 ∧ S.2.1 29 = 6561
def Sh (S : xi_S) : Prop := ShT S ∧ ShB S ∧ ShX S ∧ ∀ j, j < 5 → ShR S (50 + 10 * j)
def lenS (s : Nat) : Nat := if s < 6 then 40 else 60
abbrev TT : Type := (Nat → Int) × (Nat → Nat → Int32)
abbrev RR : Type := Nat × (Nat → Nat → Int)
abbrev KK : Type := (Nat → Int) × (Nat → Nat → Nat → Int)
abbrev FF : Type := Int32 × (Nat → Int32) × Int32 × Int64 × Int64
abbrev Sg : Type := TT × RR × KK × FF
def CS (m : xi_M) (t : TT) : Prop := ∀ s, s < 10 → m.1 (30 + s) 0 = zb (decide (t.1 s ≠ -9)) ∧ (t.1 s ≠ -9 → m.1 (30 + s) 1 = zi (t.1 s)) ∧ ∀ k, k < lenS s → m.1 (40 + s) k = t.2 s k
def MS (m : xi_M) (t : TT) : Prop := (∀ r, r < 6 → m.1 16 r = zi (t.1 r) ∧ ∀ k, k < 40 → m.1 17 (40 * r + k) = t.2 r k) ∧ (∀ u, u < 4 → m.1 18 u = zi (t.1 (6 + u)) ∧ ∀ k, k < 60 → m.1 19 (60 * u + k) = t.2 (6 + u) k)
/-- a deed d, as the class notes it, between the row w ahead of it and the row v behind it -/
def Dd (m : xi_M) (c d : Nat) (w v : Nat → Int) : Prop :=
  (m.1 (c + 7) d = zi 0 ∧ (∃ f : Nat → Bool, m.1 (c + 9) d = setP f (pN w) ∧ ∀ k, k < 34 → w k = if k = 2 then v 2 - 1 else if k = 4 then v 4 - cntP (fun i => f i && sdP v 0 i) (pN v) else if k = 5 then v 5 - cntP (fun i => f i && sdP v 1 i) (pN v) else v k))
  ∨ (m.1 (c + 7) d = zi 1 ∧ ∃ k, k < 4 ∧ m.1 (c + 8) d = zi (k : Nat) ∧ m.1 (c + 9) d = zi (w (6 + k)) ∧ ∀ j, j < 34 → j ≠ 6 + k → w j = v j)
  ∨ (m.1 (c + 7) d = zi 2 ∧ m.1 (c + 9) d = zi (w 3) ∧ ∀ j, j < 34 → j ≠ 3 → w j = v j)
  ∨ (m.1 (c + 7) d = zi 3 ∧ ∃ i, i < pN w ∧ m.1 (c + 8) d = zi (i : Nat) ∧ m.1 (c + 9) d = zi (w (12 + 4 * i)) ∧ ∀ j, j < 34 → j ≠ 12 + 4 * i → w j = v j)
def CR (m : xi_M) (c : Nat) (r : RR) : Prop := RF m c (r.2 r.1) ∧ m.1 c 4 = zi (r.1 : Nat) ∧ ∀ d, d < r.1 → Dd m c d (r.2 d) (r.2 (d + 1))
def MR (m : xi_M) (r : RR) : Prop := (∀ k, k < 34 → m.1 21 k = zi (r.2 r.1 k)) ∧ m.1 15 9 = zi (r.1 : Nat) ∧ ∀ d, d < r.1 → ∀ k, k < 34 → m.1 24 (34 * d + k) = zi (r.2 d k)
def CK (m : xi_M) (q : KK) : Prop := ∀ j, j < 3 → (q.1 j = -9 → m.1 (70 + 10 * j) 1 = zi 0) ∧ (q.1 j ≠ -9 → CR m (70 + 10 * j) ((q.1 j).toNat, q.2 j))
def MK (m : xi_M) (q : KK) : Prop := ∀ j, j < 3 → m.1 27 j = zi (q.1 j) ∧ (q.1 j ≠ -9 → (∀ k, k < 34 → m.1 25 (34 * j + k) = zi (q.2 j (q.1 j).toNat k)) ∧ ∀ d, d < (q.1 j).toNat → ∀ k, k < 34 → m.1 26 (1360 * j + (34 * d + k)) = zi (q.2 j d k))
def CF (m : xi_M) (f : FF) : Prop := m.1 0 10 = f.1 ∧ (∀ j, j < 6 → m.1 4 j = f.2.1 j) ∧ m.1 0 11 = f.2.2.1 ∧ m.2 0 12 = f.2.2.2.1 ∧ m.2 0 13 = f.2.2.2.2
def MF (m : xi_M) (f : FF) : Prop := m.1 15 13 = f.1 ∧ (∀ j, j < 6 → m.1 28 j = f.2.1 j) ∧ m.1 15 15 = f.2.2.1 ∧ m.2 15 16 = f.2.2.2.1 ∧ m.2 15 17 = f.2.2.2.2
def CC (m : xi_M) (q : Sg) : Prop := CS m q.1 ∧ CR m 50 q.2.1 ∧ CK m q.2.2.1 ∧ CF m q.2.2.2
def MM (m : xi_M) (q : Sg) : Prop := MS m q.1 ∧ MR m q.2.1 ∧ MK m q.2.2.1 ∧ MF m q.2.2.2
def OT (t : TT) : Prop := (∀ s, s < 10 → t.1 s = -9 ∨ (0 ≤ t.1 s ∧ t.1 s ≤ lenS s)) ∧ ∀ u, u < 4 → ∀ k, k < 60 → ∃ b : Int, -128 ≤ b ∧ b ≤ 127 ∧ t.2 (6 + u) k = zi b
/-- a row of a republic with players -/
def Wk (w : Nat → Int) : Prop := Bd w ∧ Cd w ∧ 1 ≤ w 1 ∧ ∀ i, i < pN w → 1 ≤ w (13 + 4 * i)
def OR (r : RR) : Prop := r.1 ≤ 40 ∧ ((r.1 = 0 ∧ ∀ k, k < 34 → r.2 0 k = 0) ∨ ∀ d, d ≤ r.1 → Wk (r.2 d))
def OQ (q : KK) : Prop := ∀ j, j < 3 → q.1 j = -9 ∨ (0 ≤ q.1 j ∧ q.1 j ≤ 40 ∧ ∀ d, d ≤ (q.1 j).toNat → Wk (q.2 j d))
def OK (q : Sg) : Prop := OT q.1 ∧ OR q.2.1 ∧ OQ q.2.2.1
def Rel (m : xi_M) : Prop := ∃ q : Sg, CC m q ∧ MM m q ∧ OK q
/-- the class's side, the reference's side of a call that says sp -/
def Cim (S : xi_S) (f : xi_M → Option xi_R) (sp : Sg → Option Value × Sg) : Prop := ∀ q m, OK q → CC m q → ∃ m1, f m = some ((sp q).1, m1) ∧ CC m1 (sp q).2 ∧ ∀ b, 15 ≤ b → b < 30 → m1.1 b = m.1 b ∧ m1.2 b = m.2 b
def Mim (S : xi_S) (g : xi_M → Option xi_R) (sp : Sg → Option Value × Sg) : Prop := ∀ q m, OK q → MM m q → ∃ m2, g m = some ((sp q).1, m2) ∧ MM m2 (sp q).2 ∧ ∀ b, b < 15 ∨ 30 ≤ b → m2.1 b = m.1 b ∧ m2.2 b = m.2 b
def xStp (f g : xi_M → Option xi_R) : Prop := ∀ m, Rel m → ∃ a m1 m2, f m = some (a, m1) ∧ g m1 = some (a, m2) ∧ Rel m2
theorem Dd_fr {m m1 : xi_M} {c d : Nat} {w v : Nat → Int} (h : ∀ b, c + 7 ≤ b → b < c + 10 → m1.1 b = m.1 b) (hd : Dd m c d w v) : Dd m1 c d w v := by
  unfold Dd at hd ⊢
  rw [h (c + 7) (by omega) (by omega), h (c + 8) (by omega) (by omega), h (c + 9) (by omega) (by omega)]
  exact hd
theorem RF_fr {m m1 : xi_M} {c : Nat} {w : Nat → Int} (h : ∀ b, c ≤ b → b < c + 7 → m1.1 b = m.1 b) (hd : RF m c w) : RF m1 c w := by
  unfold RF at hd ⊢
  rw [h c (by omega) (by omega), h (c + 1) (by omega) (by omega), h (c + 2) (by omega) (by omega), h (c + 3) (by omega) (by omega), h (c + 4) (by omega) (by omega), h (c + 5) (by omega) (by omega), h (c + 6) (by omega) (by omega)]
  exact hd
theorem CR_fr {m m1 : xi_M} {c : Nat} {r : RR} (h : ∀ b, c ≤ b → b < c + 10 → m1.1 b = m.1 b) (hd : CR m c r) : CR m1 c r := by
  obtain ⟨h1, h2, h3⟩ := hd
  refine ⟨RF_fr (fun b x y => h b x (by omega)) h1, by rw [h c (by omega) (by omega)]; exact h2, fun d q => Dd_fr (fun b x y => h b (by omega) y) (h3 d q)⟩
theorem CS_fr {m m1 : xi_M} {t : TT} (h : ∀ b, 30 ≤ b → b < 50 → m1.1 b = m.1 b) (hd : CS m t) : CS m1 t := by
  intro s hs
  rw [h (30 + s) (by omega) (by omega), h (40 + s) (by omega) (by omega)]
  exact hd s hs
theorem CK_fr {m m1 : xi_M} {q : KK} (h : ∀ b, 70 ≤ b → b < 100 → m1.1 b = m.1 b) (hd : CK m q) : CK m1 q := by
  intro j hj
  obtain ⟨h1, h2⟩ := hd j hj
  exact ⟨fun e => by rw [h (70 + 10 * j) (by omega) (by omega)]; exact h1 e, fun e => CR_fr (fun b x y => h b (by omega) (by omega)) (h2 e)⟩
theorem CF_fr {m m1 : xi_M} {f : FF} (h : m1.1 0 = m.1 0) (h2 : m1.1 4 = m.1 4) (h3 : m1.2 0 = m.2 0) (hd : CF m f) : CF m1 f := by
  unfold CF at hd ⊢
  rw [h, h2, h3]
  exact hd
theorem MS_fr {m m1 : xi_M} {t : TT} (h : ∀ b, 16 ≤ b → b < 20 → m1.1 b = m.1 b) (hd : MS m t) : MS m1 t := by
  unfold MS at hd ⊢
  rw [h 16 (by omega) (by omega), h 17 (by omega) (by omega), h 18 (by omega) (by omega), h 19 (by omega) (by omega)]
  exact hd
theorem MR_fr {m m1 : xi_M} {r : RR} (h : m1.1 21 = m.1 21) (h2 : m1.1 24 = m.1 24) (h3 : m1.1 15 9 = m.1 15 9) (hd : MR m r) : MR m1 r := by
  unfold MR at hd ⊢
  rw [h, h2, h3]
  exact hd
theorem MK_fr {m m1 : xi_M} {q : KK} (h : ∀ b, 25 ≤ b → b < 28 → m1.1 b = m.1 b) (hd : MK m q) : MK m1 q := by
  unfold MK at hd ⊢
  rw [h 25 (by omega) (by omega), h 26 (by omega) (by omega), h 27 (by omega) (by omega)]
  exact hd
theorem MF_fr {m m1 : xi_M} {f : FF} (h : m1.1 15 = m.1 15) (h2 : m1.1 28 = m.1 28) (h3 : m1.2 15 = m.2 15) (hd : MF m f) : MF m1 f := by
  unfold MF at hd ⊢
  rw [h, h2, h3]
  exact hd
theorem CC_fr {m m1 : xi_M} {q : Sg} (h : ∀ b, b < 15 ∨ 30 ≤ b → m1.1 b = m.1 b ∧ m1.2 b = m.2 b) (hd : CC m q) : CC m1 q :=
  ⟨CS_fr (fun b x _ => (h b (by omega)).1) hd.1, CR_fr (fun b x _ => (h b (by omega)).1) hd.2.1, CK_fr (fun b x _ => (h b (by omega)).1) hd.2.2.1, CF_fr (h 0 (by omega)).1 (h 4 (by omega)).1 (h 0 (by omega)).2 hd.2.2.2⟩
theorem MM_fr {m m1 : xi_M} {q : Sg} (h : ∀ b, 15 ≤ b → b < 30 → m1.1 b = m.1 b ∧ m1.2 b = m.2 b) (hd : MM m q) : MM m1 q :=
  ⟨MS_fr (fun b x _ => (h b (by omega) (by omega)).1) hd.1, MR_fr (h 21 (by omega) (by omega)).1 (h 24 (by omega) (by omega)).1 (by rw [(h 15 (by omega) (by omega)).1]) hd.2.1, MK_fr (fun b x _ => (h b (by omega) (by omega)).1) hd.2.2.1, MF_fr (h 15 (by omega) (by omega)).1 (h 28 (by omega) (by omega)).1 (h 15 (by omega) (by omega)).2 hd.2.2.2⟩
theorem stp_of {S : xi_S} {f g : xi_M → Option xi_R} {sp : Sg → Option Value × Sg} (hC : Cim S f sp) (hM : Mim S g sp) (hO : ∀ q, OK q → OK (sp q).2) : xStp f g := by
  intro m ⟨q, h1, h2, h3⟩
  obtain ⟨m1, e1, c1, f1⟩ := hC q m h3 h1
  obtain ⟨m2, e2, c2, f2⟩ := hM q m1 h3 (MM_fr f1 h2)
  exact ⟨_, m1, m2, e1, e2, _, CC_fr f2 c1, c2, hO q h3⟩
/-! what is told -/
theorem CC_f {m m1 : xi_M} {t : TT} {r : RR} {k : KK} {f f1 : FF} (h : CC m (t, r, k, f)) (ha : ∀ b, 30 ≤ b → m1.1 b = m.1 b) (hf : CF m1 f1) : CC m1 (t, r, k, f1) :=
  ⟨CS_fr (fun b x _ => ha b x) h.1, CR_fr (fun b x _ => ha b (by omega)) h.2.1, CK_fr (fun b x _ => ha b (by omega)) h.2.2.1, hf⟩
theorem MM_f {m m1 : xi_M} {t : TT} {r : RR} {k : KK} {f f1 : FF} (h : MM m (t, r, k, f)) (ha : ∀ b, 16 ≤ b → b < 28 → b ≠ 20 → b ≠ 22 → b ≠ 23 → m1.1 b = m.1 b) (h9 : m1.1 15 9 = m.1 15 9) (hf : MF m1 f1) : MM m1 (t, r, k, f1) :=
  ⟨MS_fr (fun b x _ => ha b x (by omega) (by omega) (by omega) (by omega)) h.1, MR_fr (ha 21 (by omega) (by omega) (by omega) (by omega) (by omega)) (ha 24 (by omega) (by omega) (by omega) (by omega) (by omega)) h9 h.2.1, MK_fr (fun b x _ => ha b (by omega) (by omega) (by omega) (by omega) (by omega)) h.2.2.1, hf⟩
def rfS (j : Nat) (f : FF) : FF := (zi j, fun k => if k = j then f.2.1 k + zi 1 else f.2.1 k, f.2.2)
def anS (v : Int32) (f : FF) : FF := (f.1, f.2.1, v, f.2.2.2)
def tlS (u l : Int64) (f : FF) : FF := (f.1, f.2.1, f.2.2.1, u, l)
def rfC (m : xi_M) (j : Nat) : xi_M := xi_wI (xi_wI m 0 10 (zi j)) 4 j (m.1 4 j + zi 1)
def rfM (m : xi_M) (j : Nat) : xi_M := xi_wI (xi_wI m 15 13 (zi j)) 28 j (m.1 28 j + zi 1)
theorem wI_o {m : xi_M} {a k b : Nat} {v : Int32} (h : b ≠ a) : (xi_wI m a k v).1 b = m.1 b := funext fun j => mw_ne fun e => h e.1
theorem wJ_o {m : xi_M} {a k b : Nat} {v : Int64} (h : b ≠ a) : (xi_wJ m a k v).2 b = m.2 b := funext fun j => by rw [mj_if, if_neg fun e => h e.1]
theorem rfC_o {m : xi_M} {j b : Nat} (h : b ≠ 0) (h2 : b ≠ 4) : (rfC m j).1 b = m.1 b := by rw [rfC, wI_o h2, wI_o h]
theorem rfM_o {m : xi_M} {j b : Nat} (h : b ≠ 15) (h2 : b ≠ 28) : (rfM m j).1 b = m.1 b := by rw [rfM, wI_o h2, wI_o h]
theorem CF_rf {m : xi_M} {f : FF} (h : CF m f) {j : Nat} : CF (rfC m j) (rfS j f) := by
  obtain ⟨h1, h2, h3, h4, h5⟩ := h
  refine ⟨?_, fun k hk => ?_, ?_, h4, h5⟩
  · rw [rfC, wI_o (by omega), mw_eq]; rfl
  · rw [rfC, mw_if]
    show _ = if k = j then f.2.1 k + zi 1 else f.2.1 k
    by_cases e : k = j
    · rw [if_pos ⟨rfl, e⟩, if_pos e, ← e, h2 k hk]
    · rw [if_neg (fun q => e q.2), if_neg e, wI_o (by omega), h2 k hk]
  · rw [rfC, wI_o (by omega), mw_ne (by omega)]; exact h3
theorem MF_rf {m : xi_M} {f : FF} (h : MF m f) {j : Nat} : MF (rfM m j) (rfS j f) := by
  obtain ⟨h1, h2, h3, h4, h5⟩ := h
  refine ⟨?_, fun k hk => ?_, ?_, h4, h5⟩
  · rw [rfM, wI_o (by omega), mw_eq]; rfl
  · rw [rfM, mw_if]
    show _ = if k = j then f.2.1 k + zi 1 else f.2.1 k
    by_cases e : k = j
    · rw [if_pos ⟨rfl, e⟩, if_pos e, ← e, h2 k hk]
    · rw [if_neg (fun q => e q.2), if_neg e, wI_o (by omega), h2 k hk]
  · rw [rfM, wI_o (by omega), mw_ne (by omega)]; exact h3
theorem CF_an {m : xi_M} {f : FF} (h : CF m f) {v : Int32} : CF (xi_wI m 0 11 v) (anS v f) := by
  obtain ⟨h1, h2, h3, h4, h5⟩ := h
  exact ⟨by rw [mw_ne (by omega)]; exact h1, fun k hk => by rw [wI_o (by omega)]; exact h2 k hk, by rw [mw_eq]; rfl, h4, h5⟩
theorem MF_an {m : xi_M} {f : FF} (h : MF m f) {v : Int32} : MF (xi_wI m 15 15 v) (anS v f) := by
  obtain ⟨h1, h2, h3, h4, h5⟩ := h
  exact ⟨by rw [mw_ne (by omega)]; exact h1, fun k hk => by rw [wI_o (by omega)]; exact h2 k hk, by rw [mw_eq]; rfl, h4, h5⟩
theorem CF_tl {m : xi_M} {f : FF} (h : CF m f) {u l : Int64} : CF (xi_wJ (xi_wJ m 0 12 u) 0 13 l) (tlS u l f) := by
  obtain ⟨h1, h2, h3, h4, h5⟩ := h
  refine ⟨h1, h2, h3, ?_, ?_⟩
  · rw [mj_if, if_neg (by omega), mj_if, if_pos ⟨rfl, rfl⟩]; rfl
  · rw [mj_if, if_pos ⟨rfl, rfl⟩]; rfl
theorem MF_tl {m : xi_M} {f : FF} (h : MF m f) {u l : Int64} : MF (xi_wJ (xi_wJ m 15 16 u) 15 17 l) (tlS u l f) := by
  obtain ⟨h1, h2, h3, h4, h5⟩ := h
  refine ⟨h1, h2, h3, ?_, ?_⟩
  · rw [mj_if, if_neg (by omega), mj_if, if_pos ⟨rfl, rfl⟩]; rfl
  · rw [mj_if, if_pos ⟨rfl, rfl⟩]; rfl
theorem CC_rf {m : xi_M} {t : TT} {r : RR} {k : KK} {f : FF} (h : CC m (t, r, k, f)) {j : Nat} : CC (rfC m j) (t, r, k, rfS j f) := CC_f h (fun b hb => rfC_o (by omega) (by omega)) (CF_rf h.2.2.2)
theorem MM_rf {m : xi_M} {t : TT} {r : RR} {k : KK} {f : FF} (h : MM m (t, r, k, f)) {j : Nat} : MM (rfM m j) (t, r, k, rfS j f) := MM_f h (fun b hb h2 _ _ _ => rfM_o (by omega) (by omega)) (by rw [rfM, wI_o (by omega), mw_ne (by omega)]) (MF_rf h.2.2.2)
theorem CC_an {m : xi_M} {t : TT} {r : RR} {k : KK} {f : FF} (h : CC m (t, r, k, f)) {v : Int32} : CC (xi_wI m 0 11 v) (t, r, k, anS v f) := CC_f h (fun b hb => wI_o (by omega)) (CF_an h.2.2.2)
theorem MM_an {m : xi_M} {t : TT} {r : RR} {k : KK} {f : FF} (h : MM m (t, r, k, f)) {v : Int32} : MM (xi_wI m 15 15 v) (t, r, k, anS v f) := MM_f h (fun b hb h2 _ _ _ => wI_o (by omega)) (by rw [mw_ne (by omega)]) (MF_an h.2.2.2)
theorem CC_tl {m : xi_M} {t : TT} {r : RR} {k : KK} {f : FF} (h : CC m (t, r, k, f)) {u l : Int64} : CC (xi_wJ (xi_wJ m 0 12 u) 0 13 l) (t, r, k, tlS u l f) := CC_f h (fun b hb => rfl) (CF_tl h.2.2.2)
theorem MM_tl {m : xi_M} {t : TT} {r : RR} {k : KK} {f : FF} (h : MM m (t, r, k, f)) {u l : Int64} : MM (xi_wJ (xi_wJ m 15 16 u) 15 17 l) (t, r, k, tlS u l f) := MM_f h (fun b hb h2 _ _ _ => rfl) rfl (MF_tl h.2.2.2)
section
variable {S : xi_S} {m : xi_M}
theorem C_refuse (hT : ShT S) {j : Nat} (hj : j < 6) : E_X8_refuse S 0 (zi j) m = some (some (.int (zi (-3))), rfC m j) := by
  obtain ⟨t0, t1, t2, t3, t4, t5, t6, t7, t8, t9, t10, a1, a2, a3, a4, b1, b2, b3, b4, d1, d2, d3, e1, e2, e3, e4, e5⟩ := hT
  unfold E_X8_refuse rfC
  simp (disch := omega) only [zi_f, zi_0, zi_1, zi_31, zi_all, zi_8, zi_16, zi_add, zi_sub, zi_mul, zi_neg, zi_lt, zi_le, zi_eq, zi_div, zi_t, zi_n, xb_I, xb_J, xb_V, xb_s, if_pos, if_neg, if_true, if_false, true_and, and_true, true_or, or_true, false_or, or_false, not_true, not_false_iff, zb_z, zb_o, zb_ft, tn_0, tn_1, tn_2, tn_3, tn_c, Int.reduceToNat, te_0, te_1, tk_0, tk_1, tk_m, ts_1, or_0, bp_f, t0, t1, t2, t3, t4, t5, t6, t7, t8, t9, t10, a1, a2, a3, a4, b1, b2, b3, b4, d1, d2, d3, e1, e2, e3, e4, e5, wI_o]
theorem C_answer (hT : ShT S) (v : Int32) : E_X8_answer S 0 v m = some (some (.int (zi 1)), xi_wI m 0 11 v) := by
  obtain ⟨t0, t1, t2, t3, t4, t5, t6, t7, t8, t9, t10, a1, a2, a3, a4, b1, b2, b3, b4, d1, d2, d3, e1, e2, e3, e4, e5⟩ := hT
  unfold E_X8_answer
  simp (disch := omega) only [zi_f, zi_0, zi_1, zi_31, zi_all, zi_8, zi_16, zi_add, zi_sub, zi_mul, zi_neg, zi_lt, zi_le, zi_eq, zi_div, zi_t, zi_n, xb_I, xb_J, xb_V, xb_s, if_pos, if_neg, if_true, if_false, true_and, and_true, true_or, or_true, false_or, or_false, not_true, not_false_iff, zb_z, zb_o, zb_ft, tn_0, tn_1, tn_2, tn_3, tn_c, Int.reduceToNat, te_0, te_1, tk_0, tk_1, tk_m, ts_1, or_0, bp_f, t0, t1, t2, t3, t4, t5, t6, t7, t8, t9, t10, a1, a2, a3, a4, b1, b2, b3, b4, d1, d2, d3, e1, e2, e3, e4, e5]
theorem M_found (hX : ShX S) {j : Nat} (hj : j < 6) : E_X9_found S 15 (zi j) m = some (some (.int (zi (-3))), rfM m j) := by
  obtain ⟨x0, xr0, xr1, xr2, xr3, xr4, xr5, xr6, xr7, xr8, xr9, xr10, xr11, xr12, xr13, xk0, xk1, xk2, xk3, xk4, xk5, xk6, xk7, xk8, xk9, xk10, xk11, xk12, xk13, xl0, xl1, xl2, xl3, xl4, xl5, xl6, xl7, xl8, xl9, xl10, xl11, xl12, xl13⟩ := hX
  unfold E_X9_found rfM
  simp (disch := omega) only [zi_f, zi_0, zi_1, zi_31, zi_all, zi_8, zi_16, zi_add, zi_sub, zi_mul, zi_neg, zi_lt, zi_le, zi_eq, zi_div, zi_t, zi_n, xb_I, xb_J, xb_V, xb_s, if_pos, if_neg, if_true, if_false, true_and, and_true, true_or, or_true, false_or, or_false, not_true, not_false_iff, zb_z, zb_o, zb_ft, tn_0, tn_1, tn_2, tn_3, tn_c, Int.reduceToNat, te_0, te_1, tk_0, tk_1, tk_m, ts_1, or_0, bp_f, x0, xr0, xr1, xr2, xr3, xr4, xr5, xr6, xr7, xr8, xr9, xr10, xr11, xr12, xr13, xk0, xk1, xk2, xk3, xk4, xk5, xk6, xk7, xk8, xk9, xk10, xk11, xk12, xk13, xl0, xl1, xl2, xl3, xl4, xl5, xl6, xl7, xl8, xl9, xl10, xl11, xl12, xl13, wI_o]
theorem M_tells (hX : ShX S) (v : Int32) : E_X9_tells S 15 v m = some (some (.int (zi 1)), xi_wI m 15 15 v) := by
  obtain ⟨x0, xr0, xr1, xr2, xr3, xr4, xr5, xr6, xr7, xr8, xr9, xr10, xr11, xr12, xr13, xk0, xk1, xk2, xk3, xk4, xk5, xk6, xk7, xk8, xk9, xk10, xk11, xk12, xk13, xl0, xl1, xl2, xl3, xl4, xl5, xl6, xl7, xl8, xl9, xl10, xl11, xl12, xl13⟩ := hX
  unfold E_X9_tells
  simp (disch := omega) only [zi_f, zi_0, zi_1, zi_31, zi_all, zi_8, zi_16, zi_add, zi_sub, zi_mul, zi_neg, zi_lt, zi_le, zi_eq, zi_div, zi_t, zi_n, xb_I, xb_J, xb_V, xb_s, if_pos, if_neg, if_true, if_false, true_and, and_true, true_or, or_true, false_or, or_false, not_true, not_false_iff, zb_z, zb_o, zb_ft, tn_0, tn_1, tn_2, tn_3, tn_c, Int.reduceToNat, te_0, te_1, tk_0, tk_1, tk_m, ts_1, or_0, bp_f, x0, xr0, xr1, xr2, xr3, xr4, xr5, xr6, xr7, xr8, xr9, xr10, xr11, xr12, xr13, xk0, xk1, xk2, xk3, xk4, xk5, xk6, xk7, xk8, xk9, xk10, xk11, xk12, xk13, xl0, xl1, xl2, xl3, xl4, xl5, xl6, xl7, xl8, xl9, xl10, xl11, xl12, xl13]
theorem C_wt {a b : Int} (h1 : 0 ≤ a) (h2 : a ≤ b) (h4 : b < 2147483648) : E_X8_within S (zi a) (zi b) m = some (some (.int (zi 1)), m) := by
  rw [C_within (by omega) (by omega) (by omega) (by omega), decide_eq_true ⟨h1, h2⟩]; rfl
theorem C_wf {a b : Int} (h : ¬ (0 ≤ a ∧ a ≤ b)) (h1 : -2147483648 ≤ a) (h2 : a < 2147483648) (h3 : -2147483648 ≤ b) (h4 : b < 2147483648) : E_X8_within S (zi a) (zi b) m = some (some (.int (zi 0)), m) := by
  rw [C_within h1 h2 h3 h4, decide_eq_false h]; rfl
theorem M_it {a b d : Int} (h1 : b ≤ a) (h2 : a ≤ d) (h3 : -2147483648 ≤ b) (h4 : d < 2147483648) : E_X9_in0 S (zi a) (zi b) (zi d) m = some (some (.int (zi 1)), m) := by
  rw [M_in0 (by omega) (by omega) (by omega) (by omega) (by omega) (by omega), decide_eq_true ⟨h1, h2⟩]; rfl
theorem M_if {a b d : Int} (h : ¬ (b ≤ a ∧ a ≤ d)) (h1 : -2147483648 ≤ a) (h2 : a < 2147483648) (h3 : -2147483648 ≤ b) (h4 : b < 2147483648) (h5 : -2147483648 ≤ d) (h6 : d < 2147483648) : E_X9_in0 S (zi a) (zi b) (zi d) m = some (some (.int (zi 0)), m) := by
  rw [M_in0 h1 h2 h3 h4 h5 h6, decide_eq_false h]; rfl
theorem M_rt {a : Int} (h1 : 0 ≤ a) (h2 : a ≤ 5) : E_X9_isRow S (zi a) m = some (some (.int (zi 1)), m) := by
  unfold E_X9_isRow
  simp (disch := omega) only [zi_f, zi_0, zi_1, zi_31, zi_all, zi_8, zi_16, zi_add, zi_sub, zi_mul, zi_neg, zi_lt, zi_le, zi_eq, zi_div, zi_t, zi_n, xb_I, xb_J, xb_V, xb_s, if_pos, if_neg, if_true, if_false, true_and, and_true, true_or, or_true, false_or, or_false, not_true, not_false_iff, zb_z, zb_o, zb_ft, tn_0, tn_1, tn_2, tn_3, tn_c, Int.reduceToNat, te_0, te_1, tk_0, tk_1, tk_m, ts_1, or_0, bp_f, M_it]
theorem M_rf {a : Int} (h : ¬ (0 ≤ a ∧ a ≤ 5)) (h1 : -2147483648 ≤ a) (h2 : a < 2147483648) : E_X9_isRow S (zi a) m = some (some (.int (zi 0)), m) := by
  unfold E_X9_isRow
  simp (disch := omega) only [zi_f, zi_0, zi_1, zi_31, zi_all, zi_8, zi_16, zi_add, zi_sub, zi_mul, zi_neg, zi_lt, zi_le, zi_eq, zi_div, zi_t, zi_n, xb_I, xb_J, xb_V, xb_s, if_pos, if_neg, if_true, if_false, true_and, and_true, true_or, or_true, false_or, or_false, not_true, not_false_iff, zb_z, zb_o, zb_ft, tn_0, tn_1, tn_2, tn_3, tn_c, Int.reduceToNat, te_0, te_1, tk_0, tk_1, tk_m, ts_1, or_0, bp_f, M_if]
theorem M_tt {a : Int} (h1 : 0 ≤ a) (h2 : a ≤ 3) : E_X9_isText S (zi a) m = some (some (.int (zi 1)), m) := by
  unfold E_X9_isText
  simp (disch := omega) only [zi_f, zi_0, zi_1, zi_31, zi_all, zi_8, zi_16, zi_add, zi_sub, zi_mul, zi_neg, zi_lt, zi_le, zi_eq, zi_div, zi_t, zi_n, xb_I, xb_J, xb_V, xb_s, if_pos, if_neg, if_true, if_false, true_and, and_true, true_or, or_true, false_or, or_false, not_true, not_false_iff, zb_z, zb_o, zb_ft, tn_0, tn_1, tn_2, tn_3, tn_c, Int.reduceToNat, te_0, te_1, tk_0, tk_1, tk_m, ts_1, or_0, bp_f, M_it]
theorem M_tf {a : Int} (h : ¬ (0 ≤ a ∧ a ≤ 3)) (h1 : -2147483648 ≤ a) (h2 : a < 2147483648) : E_X9_isText S (zi a) m = some (some (.int (zi 0)), m) := by
  unfold E_X9_isText
  simp (disch := omega) only [zi_f, zi_0, zi_1, zi_31, zi_all, zi_8, zi_16, zi_add, zi_sub, zi_mul, zi_neg, zi_lt, zi_le, zi_eq, zi_div, zi_t, zi_n, xb_I, xb_J, xb_V, xb_s, if_pos, if_neg, if_true, if_false, true_and, and_true, true_or, or_true, false_or, or_false, not_true, not_false_iff, zb_z, zb_o, zb_ft, tn_0, tn_1, tn_2, tn_3, tn_c, Int.reduceToNat, te_0, te_1, tk_0, tk_1, tk_m, ts_1, or_0, bp_f, M_if]
end
