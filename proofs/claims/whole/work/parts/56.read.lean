/-! the language: what is read of a text, whoever reads it -/
def lkP (z : Nat) (c : Nat → Int) (a : Nat) : Int := if a < z then c a else -1000
def blF (c : Nat → Int) : Nat → Nat → Nat
  | 0, a => a
  | d + 1, a => if c a = 32 then blF c d (a + 1) else a
def bkQ (z : Nat) (c : Nat → Int) (a : Nat) : Nat := blF c (z - a) a
theorem bl_y {z : Nat} {c : Nat → Int} {a : Nat} (h : a < z) (h2 : c a = 32) : bkQ z c a = bkQ z c (a + 1) := by
  unfold bkQ
  obtain ⟨d, hd⟩ : ∃ d, z - a = d + 1 := ⟨z - a - 1, by omega⟩
  rw [hd, show z - (a + 1) = d by omega, blF, if_pos h2]
theorem bl_n {z : Nat} {c : Nat → Int} {a : Nat} (h : ¬ (a < z ∧ c a = 32)) : bkQ z c a = a := by
  unfold bkQ
  by_cases e : a < z
  · obtain ⟨d, hd⟩ : ∃ d, z - a = d + 1 := ⟨z - a - 1, by omega⟩
    rw [hd, blF, if_neg (fun q => h ⟨e, q⟩)]
  · rw [show z - a = 0 by omega, blF]
theorem bl_b {z : Nat} {c : Nat → Int} : ∀ (d a : Nat), z - a = d → a ≤ z → a ≤ bkQ z c a ∧ bkQ z c a ≤ z ∧ (bkQ z c a < z → c (bkQ z c a) ≠ 32) := by
  intro d
  induction d with
  | zero =>
    intro a hd ha
    rw [bl_n (by omega)]
    exact ⟨Nat.le_refl _, ha, fun h => absurd h (by omega)⟩
  | succ d ih =>
    intro a hd ha
    by_cases e : c a = 32
    · rw [bl_y (by omega) e]
      obtain ⟨h1, h2, h3⟩ := ih (a + 1) (by omega) (by omega)
      exact ⟨by omega, h2, h3⟩
    · rw [bl_n (fun q => e q.2)]
      exact ⟨Nat.le_refl _, ha, fun _ => e⟩
def PB (z : Nat) (s : Int × Nat) : Prop := s.2 ≤ z ∧ (s.1 = -9 ∨ (0 ≤ s.1 ∧ s.1 ≤ z))
def blS (z : Nat) (c : Nat → Int) (s : Int × Nat) : Int × Nat := (s.1, bkQ z c s.2)
def leS (z : Nat) (c : Nat → Int) (ch : Int) (s : Int × Nat) : Int × Nat := if s.1 = -9 then (if lkP z c s.2 = ch then (-9, s.2 + 1) else ((s.2 : Int), s.2)) else s
def fgV (z : Nat) (c : Nat → Int) (lo hi : Int) (s : Int × Nat) : Int := if s.1 = -9 then (if lo ≤ lkP z c s.2 - 48 ∧ lkP z c s.2 - 48 ≤ hi then lkP z c s.2 - 48 else 0) else 0
def fgS (z : Nat) (c : Nat → Int) (lo hi : Int) (s : Int × Nat) : Int × Nat := if s.1 = -9 then (if lo ≤ lkP z c s.2 - 48 ∧ lkP z c s.2 - 48 ≤ hi then (-9, s.2 + 1) else ((s.2 : Int), s.2)) else s
def twV (z : Nat) (c : Nat → Int) (s : Int × Nat) : Int := 10 * fgV z c 0 9 s + fgV z c 0 9 (fgS z c 0 9 s)
def twS (z : Nat) (c : Nat → Int) (lo : Int) (s : Int × Nat) : Int × Nat := if (fgS z c 0 9 (fgS z c 0 9 s)).1 = -9 ∧ ¬ (lo ≤ twV z c s ∧ twV z c s ≤ 20) then ((s.2 : Int), (fgS z c 0 9 (fgS z c 0 9 s)).2) else fgS z c 0 9 (fgS z c 0 9 s)
theorem PB_bl {z : Nat} {c : Nat → Int} {s : Int × Nat} (h : PB z s) : PB z (blS z c s) := ⟨(bl_b (c := c) _ s.2 rfl h.1).2.1, h.2⟩
theorem PB_lt {z : Nat} {c : Nat → Int} {ch : Int} (hch : 0 ≤ ch) {s : Int × Nat} (h : PB z s) : PB z (leS z c ch s) := by
  obtain ⟨h1, h2⟩ := h
  unfold leS
  by_cases e : s.1 = -9
  · rw [if_pos e]
    by_cases e2 : lkP z c s.2 = ch
    · rw [if_pos e2]
      have : s.2 < z := by
        unfold lkP at e2
        by_cases e3 : s.2 < z
        · exact e3
        · rw [if_neg e3] at e2; omega
      exact ⟨this, Or.inl rfl⟩
    · rw [if_neg e2]; exact ⟨h1, Or.inr (by dsimp only; omega)⟩
  · rw [if_neg e]; exact ⟨h1, h2⟩
theorem PB_fg {z : Nat} {c : Nat → Int} {lo hi : Int} (hlo : 0 ≤ lo) {s : Int × Nat} (h : PB z s) : PB z (fgS z c lo hi s) := by
  obtain ⟨h1, h2⟩ := h
  unfold fgS
  by_cases e : s.1 = -9
  · rw [if_pos e]
    by_cases e2 : lo ≤ lkP z c s.2 - 48 ∧ lkP z c s.2 - 48 ≤ hi
    · rw [if_pos e2]
      have : s.2 < z := by
        unfold lkP at e2
        by_cases e3 : s.2 < z
        · exact e3
        · rw [if_neg e3] at e2; omega
      exact ⟨this, Or.inl rfl⟩
    · rw [if_neg e2]; exact ⟨h1, Or.inr (by dsimp only; omega)⟩
  · rw [if_neg e]; exact ⟨h1, h2⟩
theorem PB_tw {z : Nat} {c : Nat → Int} {lo : Int} {s : Int × Nat} (h : PB z s) : PB z (twS z c lo s) := by
  have h2 := PB_fg (c := c) (lo := 0) (hi := 9) (by omega) (PB_fg (c := c) (lo := 0) (hi := 9) (by omega) h)
  unfold twS
  split
  · exact ⟨h2.1, Or.inr (by have := h.1; dsimp only; omega)⟩
  · exact h2
theorem fg_v (z : Nat) (c : Nat → Int) {lo hi : Int} (hlo : 0 ≤ lo) (hhi : lo ≤ hi) (s : Int × Nat) : 0 ≤ fgV z c lo hi s ∧ fgV z c lo hi s ≤ hi ∧ ((fgS z c lo hi s).1 = -9 → s.1 = -9 ∧ lo ≤ fgV z c lo hi s) := by
  unfold fgV fgS
  by_cases e : s.1 = -9
  · rw [if_pos e, if_pos e]
    by_cases e2 : lo ≤ lkP z c s.2 - 48 ∧ lkP z c s.2 - 48 ≤ hi
    · rw [if_pos e2, if_pos e2]; exact ⟨by omega, e2.2, fun _ => ⟨e, e2.1⟩⟩
    · rw [if_neg e2, if_neg e2]; exact ⟨by omega, by omega, fun q => by dsimp only at q; omega⟩
  · rw [if_neg e, if_neg e]; exact ⟨by omega, by omega, fun q => absurd q e⟩
theorem fg_f {z : Nat} {c : Nat → Int} {lo hi : Int} {s : Int × Nat} (h : ¬ s.1 = -9) : fgS z c lo hi s = s := by unfold fgS; rw [if_neg h]
theorem tw_v (z : Nat) (c : Nat → Int) (lo : Int) (s : Int × Nat) : (0 ≤ twV z c s ∧ twV z c s ≤ 99) ∧ ((twS z c lo s).1 = -9 → s.1 = -9 ∧ lo ≤ twV z c s ∧ twV z c s ≤ 20) := by
  have h1 := fg_v z c (lo := 0) (hi := 9) (by omega) (by omega) s
  have h2 := fg_v z c (lo := 0) (hi := 9) (by omega) (by omega) (fgS z c 0 9 s)
  have hb : 0 ≤ twV z c s ∧ twV z c s ≤ 99 := by unfold twV; omega
  refine ⟨hb, ?_⟩
  unfold twS
  by_cases e : (fgS z c 0 9 (fgS z c 0 9 s)).1 = -9 ∧ ¬ (lo ≤ twV z c s ∧ twV z c s ≤ 20)
  · rw [if_pos e]; intro q; dsimp only at q; omega
  · rw [if_neg e]
    intro q
    have : lo ≤ twV z c s ∧ twV z c s ≤ 20 := Decidable.not_not.mp fun x => e ⟨q, x⟩
    exact ⟨(h1.2.2 (h2.2.2 q).1).1, this⟩
def knP (x : Int) : Int := if x = 112 then 0 else if x = 119 then 1 else if x = 107 then 2 else if x = 104 then 3 else if x = 116 then 4 else if x = 98 then 5 else -9
theorem kn_b (x : Int) : knP x = -9 ∨ (0 ≤ knP x ∧ knP x ≤ 5) := by
  unfold knP
  repeat' split
  all_goals omega
def udW (w : Nat → Int) (k : Nat) (v : Int) : Nat → Int := fun j => if j = k then v else w j
theorem ud_e (w : Nat → Int) (k : Nat) (v : Int) : udW w k v k = v := if_pos rfl
theorem ud_n {w : Nat → Int} {k j : Nat} {v : Int} (h : j ≠ k) : udW w k v j = w j := if_neg h
def rcS (z : Nat) (c : Nat → Int) : (Int × Nat) × (Nat → Int) := (fgS z c 0 1 (leS z c 103 (blS z c (-9, 0))), udW (fun _ => 0) 0 (fgV z c 0 1 (leS z c 103 (blS z c (-9, 0)))))
def coL (k : Nat) (w : Nat → Int) : Int := if k % 2 = 1 then w (6 + (k - 1)) + 1 else 0
def coS (z : Nat) (c : Nat → Int) (k : Nat) (q : (Int × Nat) × (Nat → Int)) : (Int × Nat) × (Nat → Int) := (twS z c (coL k q.2) (leS z c 99 (blS z c q.1)), udW q.2 (6 + k) (twV z c (leS z c 99 (blS z c q.1))))
def p2 (s : Int × Nat) : Int × Nat := (s.1, s.2 + 1)
def plW (z : Nat) (c : Nat → Int) (i : Nat) (s : Int × Nat) (w : Nat → Int) : Nat → Int := udW (udW (udW (udW (udW w (10 + 4 * i) (knP (lkP z c s.2))) (11 + 4 * i) (fgV z c 0 1 (p2 s))) (12 + 4 * i) (twV z c (fgS z c 0 1 (p2 s)))) (13 + 4 * i) (fgV z c 1 9 (twS z c 0 (fgS z c 0 1 (p2 s))))) 1 ((i : Int) + 1)
def p5 (z : Nat) (c : Nat → Int) (s : Int × Nat) : Int × Nat := fgS z c 1 9 (twS z c 0 (fgS z c 0 1 (p2 s)))
def plS (z : Nat) (c : Nat → Int) (i : Nat) (q : (Int × Nat) × (Nat → Int)) : (Int × Nat) × (Nat → Int) := if q.1.1 = -9 ∧ ¬ (z ≤ (blS z c q.1).2 ∧ 0 < i) then (if knP (lkP z c (blS z c q.1).2) = -9 ∨ 6 ≤ i then ((((blS z c q.1).2 : Int), (blS z c q.1).2), q.2) else (p5 z c (blS z c q.1), plW z c i (blS z c q.1) q.2)) else (blS z c q.1, q.2)
/-- coats read -/
def rdC (z : Nat) (c : Nat → Int) : (Int × Nat) × (Nat → Int) := fo (coS z c) (rcS z c) 4
/-- all read -/
def rdP (z : Nat) (c : Nat → Int) : (Int × Nat) × (Nat → Int) := fo (plS z c) (rdC z c) 7
theorem PB_rc (z : Nat) (c : Nat → Int) : PB z (rcS z c).1 := PB_fg (by omega) (PB_lt (by omega) (PB_bl ⟨Nat.zero_le _, Or.inl rfl⟩))
theorem PB_co {z : Nat} {c : Nat → Int} {k : Nat} {q : (Int × Nat) × (Nat → Int)} (h : PB z q.1) : PB z (coS z c k q).1 := PB_tw (PB_lt (by omega) (PB_bl h))
theorem lt_of_kn {z : Nat} {c : Nat → Int} {a : Nat} (h : ¬ knP (lkP z c a) = -9) : a < z := by
  by_cases e : a < z
  · exact e
  · unfold lkP at h; rw [if_neg e] at h; exact absurd rfl h
theorem PB_pl {z : Nat} {c : Nat → Int} {i : Nat} {q : (Int × Nat) × (Nat → Int)} (h : PB z q.1) : PB z (plS z c i q).1 := by
  have hb := PB_bl (c := c) h
  unfold plS
  by_cases e : q.1.1 = -9 ∧ ¬ (z ≤ (blS z c q.1).2 ∧ 0 < i)
  · rw [if_pos e]
    by_cases e2 : knP (lkP z c (blS z c q.1).2) = -9 ∨ 6 ≤ i
    · rw [if_pos e2]; exact ⟨hb.1, Or.inr (by have := hb.1; dsimp only; omega)⟩
    · rw [if_neg e2]
      have hlt := lt_of_kn (fun x => e2 (Or.inl x))
      exact PB_fg (by omega) (PB_tw (PB_fg (by omega) (show PB z (p2 (blS z c q.1)) from ⟨hlt, hb.2⟩)))
  · rw [if_neg e]; exact hb
theorem PB_rdC (z : Nat) (c : Nat → Int) (k : Nat) : PB z (fo (coS z c) (rcS z c) k).1 := fo_ind (P := fun _ (q : (Int × Nat) × (Nat → Int)) => PB z q.1) (PB_rc z c) (fun _ _ h => PB_co h) k
theorem PB_rdP (z : Nat) (c : Nat → Int) (k : Nat) : PB z (fo (plS z c) (rdC z c) k).1 := fo_ind (P := fun _ (q : (Int × Nat) × (Nat → Int)) => PB z q.1) (PB_rdC z c 4) (fun _ _ h => PB_pl h) k
/-- the row that stands as coats are read -/
theorem co_w (z : Nat) (c : Nat → Int) (k : Nat) (hk : k ≤ 4) : (0 ≤ (fo (coS z c) (rcS z c) k).2 0 ∧ (fo (coS z c) (rcS z c) k).2 0 ≤ 1) ∧ (∀ j, j < k → 0 ≤ (fo (coS z c) (rcS z c) k).2 (6 + j) ∧ (fo (coS z c) (rcS z c) k).2 (6 + j) ≤ 99) ∧ (∀ j, 0 < j → j < 6 ∨ 6 + k ≤ j → (fo (coS z c) (rcS z c) k).2 j = 0) ∧ ((fo (coS z c) (rcS z c) k).1.1 = -9 → ∀ j, j < k → (fo (coS z c) (rcS z c) k).2 (6 + j) ≤ 20 ∧ (j % 2 = 1 → (fo (coS z c) (rcS z c) k).2 (6 + (j - 1)) < (fo (coS z c) (rcS z c) k).2 (6 + j))) := by
  induction k with
  | zero =>
    refine ⟨?_, fun j hj => absurd hj (by omega), fun j h1 _ => (by
      show udW (fun _ => 0) 0 _ j = 0
      rw [ud_n (by omega)]), fun _ j hj => absurd hj (by omega)⟩
    have := fg_v z c (lo := 0) (hi := 1) (by omega) (by omega) (leS z c 103 (blS z c (-9, 0)))
    have e0 : (fo (coS z c) (rcS z c) 0).2 0 = fgV z c 0 1 (leS z c 103 (blS z c (-9, 0))) := ud_e (fun _ => 0) 0 _
    rw [e0]
    omega
  | succ k ih =>
    obtain ⟨i1, i2, i3, i4⟩ := ih (by omega)
    rw [fo_s]
    generalize fo (coS z c) (rcS z c) k = q at *
    have hv := tw_v z c (coL k q.2) (leS z c 99 (blS z c q.1))
    unfold coS
    dsimp only
    generalize twV z c (leS z c 99 (blS z c q.1)) = v at *
    refine ⟨by rw [ud_n (by omega)]; exact i1, fun j hj => ?_, fun j h1 h2 => by rw [ud_n (by omega)]; exact i3 j h1 (by omega), fun h j hj => ?_⟩
    · by_cases e : j = k
      · rw [e, ud_e]; exact hv.1
      · rw [ud_n (by omega)]; exact i2 j (by omega)
    · have hq : q.1.1 = -9 ∧ coL k q.2 ≤ v ∧ v ≤ 20 := by
        have h2 := hv.2 h
        refine ⟨?_, h2.2⟩
        have h3 := h2.1
        unfold leS at h3
        by_cases e : (blS z c q.1).1 = -9
        · exact e
        · rw [if_neg e] at h3; exact absurd h3 e
      have i5 := i4 hq.1
      by_cases e : j = k
      · rw [e, ud_e]
        refine ⟨hq.2.2, fun e2 => ?_⟩
        have h6 := hq.2.1
        unfold coL at h6
        rw [if_pos e2] at h6
        rw [ud_n (by omega)]
        omega
      · rw [ud_n (by omega)]
        refine ⟨(i5 j (by omega)).1, fun e2 => ?_⟩
        rw [ud_n (by omega)]
        exact (i5 j (by omega)).2 e2
/-- the row that stands as players are read -/
def PlI (z : Nat) (i : Nat) (q : (Int × Nat) × (Nat → Int)) : Prop := (0 ≤ q.2 1 ∧ q.2 1 ≤ 6) ∧ (q.1.1 = -9 → ((q.2 1 = i ∧ i ≤ 6) ∨ (z ≤ q.1.2 ∧ 0 < i ∧ 1 ≤ q.2 1)) ∧ Bd q.2 ∧ Cd q.2 ∧ (∀ j, j < pN q.2 → 1 ≤ q.2 (13 + 4 * j)) ∧ (∀ j, 0 < j → (j < 6 ∧ j ≠ 1) → q.2 j = 0))
theorem pl_0 (z : Nat) (c : Nat → Int) : PlI z 0 (rdC z c) := by
  obtain ⟨h1, h2, h3, h4⟩ := co_w z c 4 (Nat.le_refl _)
  unfold PlI
  rw [show rdC z c = fo (coS z c) (rcS z c) 4 from rfl]
  generalize fo (coS z c) (rcS z c) 4 = q at *
  have e1 := h3 1 (by omega) (by omega)
  refine ⟨by omega, fun h => ⟨Or.inl ⟨by rw [e1]; rfl, by omega⟩, ⟨h1, by omega, by rw [h3 3 (by omega) (by omega)]; omega, fun k hk => by have := h2 k hk; omega, fun i hi => ?_⟩, fun e he => ?_, fun j hj => absurd hj (by unfold pN; omega), fun j hj hj2 => h3 j hj (by omega)⟩⟩
  · rw [h3 (10 + 4 * i) (by omega) (by omega), h3 (11 + 4 * i) (by omega) (by omega), h3 (12 + 4 * i) (by omega) (by omega), h3 (13 + 4 * i) (by omega) (by omega)]
    omega
  · have a0 := h2 (2 * e) (by omega)
    have a1 := h4 h (2 * e + 1) (by omega)
    have a2 := a1.2 (by omega)
    rw [show 6 + (2 * e + 1 - 1) = 6 + 2 * e by omega, show 6 + (2 * e + 1) = 7 + 2 * e by omega] at a2
    rw [show 6 + (2 * e + 1) = 7 + 2 * e by omega] at a1
    exact ⟨a0.1, a2, a1.1⟩
theorem pl_s {z : Nat} {c : Nat → Int} {i : Nat} (hi : i < 7) {q : (Int × Nat) × (Nat → Int)} (hP : PB z q.1) (h : PlI z i q) : PlI z (i + 1) (plS z c i q) := by
  obtain ⟨h0, h1⟩ := h
  have hbl := bl_b (z := z) (c := c) _ q.1.2 rfl hP.1
  unfold plS
  by_cases e : q.1.1 = -9 ∧ ¬ (z ≤ (blS z c q.1).2 ∧ 0 < i)
  · rw [if_pos e]
    by_cases e2 : knP (lkP z c (blS z c q.1).2) = -9 ∨ 6 ≤ i
    · rw [if_pos e2]
      exact ⟨h0, fun x => by dsimp only at x; omega⟩
    · rw [if_neg e2]
      obtain ⟨a1, a2, a3, a4, a5⟩ := h1 e.1
      have ei : q.2 1 = i := by
        rcases a1 with x | x
        · exact x.1
        · exfalso
          refine e.2 ⟨?_, x.2.1⟩
          have : q.1.2 ≤ (blS z c q.1).2 := hbl.1
          omega
      have hk : 0 ≤ knP (lkP z c (blS z c q.1).2) ∧ knP (lkP z c (blS z c q.1).2) ≤ 5 := (kn_b _).resolve_left fun x => e2 (Or.inl x)
      have v1 := fg_v z c (lo := 0) (hi := 1) (by omega) (by omega) (p2 (blS z c q.1))
      have v2 := tw_v z c 0 (fgS z c 0 1 (p2 (blS z c q.1)))
      have v3 := fg_v z c (lo := 1) (hi := 9) (by omega) (by omega) (twS z c 0 (fgS z c 0 1 (p2 (blS z c q.1))))
      unfold PlI p5 plW
      dsimp only
      generalize knP (lkP z c (blS z c q.1).2) = kd at *
      generalize fgV z c 0 1 (p2 (blS z c q.1)) = x1 at *
      generalize twV z c (fgS z c 0 1 (p2 (blS z c q.1))) = x2 at *
      generalize twS z c 0 (fgS z c 0 1 (p2 (blS z c q.1))) = s4 at *
      generalize fgV z c 1 9 s4 = x3 at *
      generalize hw : udW (udW (udW (udW (udW q.2 (10 + 4 * i) kd) (11 + 4 * i) x1) (12 + 4 * i) x2) (13 + 4 * i) x3) 1 ((i : Int) + 1) = w
      have w1 : w 1 = (i : Int) + 1 := by rw [← hw, ud_e]
      have wo : ∀ j, j ≠ 1 → (j < 10 + 4 * i ∨ 14 + 4 * i ≤ j) → w j = q.2 j := fun j j1 j2 => by rw [← hw, ud_n j1, ud_n (by omega), ud_n (by omega), ud_n (by omega), ud_n (by omega)]
      have wa : w (10 + 4 * i) = kd := by rw [← hw, ud_n (by omega), ud_n (by omega), ud_n (by omega), ud_n (by omega), ud_e]
      have wb : w (11 + 4 * i) = x1 := by rw [← hw, ud_n (by omega), ud_n (by omega), ud_n (by omega), ud_e]
      have wc : w (12 + 4 * i) = x2 := by rw [← hw, ud_n (by omega), ud_n (by omega), ud_e]
      have wd : w (13 + 4 * i) = x3 := by rw [← hw, ud_n (by omega), ud_e]
      clear hw
      refine ⟨by omega, fun hq => ⟨Or.inl ⟨by omega, by omega⟩, ⟨by rw [wo 0 (by omega) (by omega)]; exact a2.1, by omega, by rw [wo 3 (by omega) (by omega)]; exact a2.2.2.1, fun k hk => by rw [wo (6 + k) (by omega) (by omega)]; exact a2.2.2.2.1 k hk, fun j hj => ?_⟩, fun e he => ?_, fun j hj => ?_, fun j hj hj2 => by rw [wo j hj2.2 (by omega)]; exact a5 j hj hj2⟩⟩
      · by_cases ej : j = i
        · have := v3.2.2 hq
          have := v2.2 this.1
          rw [ej, wa, wb, wc, wd]
          omega
        · rw [wo (10 + 4 * j) (by omega) (by omega), wo (11 + 4 * j) (by omega) (by omega), wo (12 + 4 * j) (by omega) (by omega), wo (13 + 4 * j) (by omega) (by omega)]
          exact a2.2.2.2.2 j hj
      · rw [wo (6 + 2 * e) (by omega) (by omega), wo (7 + 2 * e) (by omega) (by omega)]
        exact a3 e he
      · have hj' : j < i + 1 := by unfold pN at hj; omega
        by_cases ej : j = i
        · rw [ej, wd]; exact (v3.2.2 hq).2
        · rw [wo (13 + 4 * j) (by omega) (by omega)]
          exact a4 j (by unfold pN; omega)
  · rw [if_neg e]
    refine ⟨h0, fun x => ?_⟩
    obtain ⟨a1, a2⟩ := h1 x
    refine ⟨?_, a2⟩
    have e3 : z ≤ (blS z c q.1).2 ∧ 0 < i := Decidable.not_not.mp fun y => e ⟨x, y⟩
    right
    refine ⟨e3.1, by omega, ?_⟩
    rcases a1 with y | y
    · have := y.1; dsimp only; omega
    · exact y.2.2
theorem pl_I (z : Nat) (c : Nat → Int) : ∀ i, i ≤ 7 → PlI z i (fo (plS z c) (rdC z c) i) := by
  intro i
  induction i with
  | zero => exact fun _ => pl_0 z c
  | succ i ih => exact fun hi => pl_s (by omega) (PB_rdP z c i) (ih (by omega))
theorem rd_wk (z : Nat) (c : Nat → Int) (h : (rdP z c).1.1 = -9) : Wk (rdP z c).2 ∧ ∀ j, 0 < j → (j < 6 ∧ j ≠ 1) → (rdP z c).2 j = 0 := by
  obtain ⟨h0, h1⟩ := pl_I z c 7 (Nat.le_refl _)
  obtain ⟨a1, a2, a3, a4, a5⟩ := h1 h
  refine ⟨⟨a2, a3, ?_, a4⟩, a5⟩
  rcases a1 with x | x
  · exact absurd x.2 (by omega)
  · exact x.2.2
