/-! the duel: what comes of it, and the search between a floor and a roof -/
def dkP (q : Nat) : Nat := (q - 1) / 2
def dnP (q : Nat) : Int := if q = 0 then 0 else if q % 2 = 1 then -1 else 1
def stC (c : Nat → Int) (q : Nat) : Nat → Int := fun k => if k = dkP q then c k + dnP q else c k
def okC (c : Nat → Int) (q : Nat) : Bool := decide (q = 0) || mvP c (dkP q) (dnP q)
def mmF (ok : Nat → Bool) (ch : Nat → Int) (b : Bool) (j : Nat) (x : Int) : Int := if ok (j + 1) then (if b then max x (ch (j + 1)) else min x (ch (j + 1))) else x
def tbP (t : Nat) : Bool := decide (t % 2 = 0)
def mmP (L : (Nat → Int) → Int) : Nat → Nat → (Nat → Int) → Int
  | 0, _, c => L c
  | r + 1, t, c => fo (mmF (okC c) (fun q => mmP L r (t + 1) (stC c q)) (tbP t)) (mmP L r (t + 1) (stC c 0)) 8
def abF (ok : Nat → Bool) (ch : Nat → Int → Int → Int) (b : Bool) (j : Nat) (s : Int × Int) : Int × Int := if s.2 ≤ s.1 then s else if ok ((j + 1) % 9) then (if b then (max s.1 (ch ((j + 1) % 9) s.1 s.2), s.2) else (s.1, min s.2 (ch ((j + 1) % 9) s.1 s.2))) else s
def abP2 (L : (Nat → Int) → Int) : Nat → Nat → (Nat → Int) → Int → Int → Int
  | 0, _, c, _, _ => L c
  | r + 1, t, c, lo, hi => if tbP t then (fo (abF (okC c) (fun q x y => abP2 L r (t + 1) (stC c q) x y) (tbP t)) (lo, hi) 9).1 else (fo (abF (okC c) (fun q x y => abP2 L r (t + 1) (stC c q) x y) (tbP t)) (lo, hi) 9).2
def clP (lo hi x : Int) : Int := max lo (min hi x)
theorem fi_f {α : Type} (a b : α) : (if false = true then a else b) = b := if_neg (by decide)
theorem mm_mx (ok : Nat → Bool) (ch : Nat → Int) (a b : Int) (n : Nat) : fo (mmF ok ch true) (max a b) n = max a (fo (mmF ok ch true) b n) := by
  induction n with
  | zero => rfl
  | succ n ih =>
    rw [fo_s, fo_s, ih]
    unfold mmF
    by_cases h : ok (n + 1) = true
    · rw [if_pos h, if_pos h, if_pos rfl, if_pos rfl]; omega
    · rw [if_neg h, if_neg h]
theorem mm_mn (ok : Nat → Bool) (ch : Nat → Int) (a b : Int) (n : Nat) : fo (mmF ok ch false) (min a b) n = min a (fo (mmF ok ch false) b n) := by
  induction n with
  | zero => rfl
  | succ n ih =>
    rw [fo_s, fo_s, ih]
    unfold mmF
    by_cases h : ok (n + 1) = true
    · rw [if_pos h, if_pos h, fi_f, fi_f]; omega
    · rw [if_neg h, if_neg h]
theorem ab_mx {ok : Nat → Bool} {ch : Nat → Int → Int → Int} {cv : Nat → Int} (hc : ∀ q lo hi, lo < hi → clP lo hi (ch q lo hi) = clP lo hi (cv q)) {lo hi : Int} (hl : lo < hi) : ∀ n, n ≤ 8 → (fo (abF ok ch true) (lo, hi) n).2 = hi ∧ min hi (fo (abF ok ch true) (lo, hi) n).1 = min hi (fo (mmF ok cv true) lo n) ∧ lo ≤ (fo (abF ok ch true) (lo, hi) n).1 := by
  intro n
  induction n with
  | zero => exact fun _ => ⟨rfl, rfl, Int.le_refl _⟩
  | succ n ih =>
    intro hn
    obtain ⟨i1, i2, i3⟩ := ih (by omega)
    rw [fo_s, fo_s]
    generalize fo (abF ok ch true) (lo, hi) n = s at *
    generalize fo (mmF ok cv true) lo n = x at *
    obtain ⟨a, b⟩ := s
    dsimp only at i1 i2 i3
    subst i1
    unfold abF mmF
    rw [Nat.mod_eq_of_lt (show n + 1 < 9 by omega)]
    dsimp only
    have hq := hc (n + 1) a b
    unfold clP at hq
    by_cases h : ok (n + 1) = true
    · rw [if_pos h, if_pos h, if_pos rfl, if_pos rfl]
      by_cases h2 : b ≤ a
      · rw [if_pos h2]; dsimp only; omega
      · rw [if_neg h2]
        have hq2 := hq (by omega)
        dsimp only; omega
    · rw [if_neg h, if_neg h]
      by_cases h2 : b ≤ a
      · rw [if_pos h2]; exact ⟨rfl, i2, i3⟩
      · rw [if_neg h2]; exact ⟨rfl, i2, i3⟩
theorem ab_mn {ok : Nat → Bool} {ch : Nat → Int → Int → Int} {cv : Nat → Int} (hc : ∀ q lo hi, lo < hi → clP lo hi (ch q lo hi) = clP lo hi (cv q)) {lo hi : Int} (hl : lo < hi) : ∀ n, n ≤ 8 → (fo (abF ok ch false) (lo, hi) n).1 = lo ∧ max lo (fo (abF ok ch false) (lo, hi) n).2 = max lo (fo (mmF ok cv false) hi n) ∧ (fo (abF ok ch false) (lo, hi) n).2 ≤ hi := by
  intro n
  induction n with
  | zero => exact fun _ => ⟨rfl, rfl, Int.le_refl _⟩
  | succ n ih =>
    intro hn
    obtain ⟨i1, i2, i3⟩ := ih (by omega)
    rw [fo_s, fo_s]
    generalize fo (abF ok ch false) (lo, hi) n = s at *
    generalize fo (mmF ok cv false) hi n = x at *
    obtain ⟨a, b⟩ := s
    dsimp only at i1 i2 i3
    subst i1
    unfold abF mmF
    rw [Nat.mod_eq_of_lt (show n + 1 < 9 by omega)]
    dsimp only
    have hq := hc (n + 1) a b
    unfold clP at hq
    by_cases h : ok (n + 1) = true
    · rw [if_pos h, if_pos h, fi_f, fi_f]
      by_cases h2 : b ≤ a
      · rw [if_pos h2]; dsimp only; omega
      · rw [if_neg h2]
        have hq2 := hq (by omega)
        dsimp only; omega
    · rw [if_neg h, if_neg h]
      by_cases h2 : b ≤ a
      · rw [if_pos h2]; exact ⟨rfl, i2, i3⟩
      · rw [if_neg h2]; exact ⟨rfl, i2, i3⟩
/-- between the floor and the roof the search says what comes of it -/
theorem ab_mm (L : (Nat → Int) → Int) : ∀ (r t : Nat) (c : Nat → Int) (lo hi : Int), lo < hi → clP lo hi (abP2 L r t c lo hi) = clP lo hi (mmP L r t c) := by
  intro r
  induction r with
  | zero => exact fun t c lo hi _ => rfl
  | succ r ih =>
    intro t c lo hi hl
    have hc : ∀ q lo hi, lo < hi → clP lo hi (abP2 L r (t + 1) (stC c q) lo hi) = clP lo hi (mmP L r (t + 1) (stC c q)) := fun q lo hi h => ih (t + 1) (stC c q) lo hi h
    have ok0 : okC c 0 = true := rfl
    rw [abP2, mmP]
    generalize hch : (fun q x y => abP2 L r (t + 1) (stC c q) x y) = ch
    generalize hcv : (fun q => mmP L r (t + 1) (stC c q)) = cv
    have hc2 : ∀ q lo hi, lo < hi → clP lo hi (ch q lo hi) = clP lo hi (cv q) := fun q lo hi h => by rw [← hch, ← hcv]; exact hc q lo hi h
    rw [show mmP L r (t + 1) (stC c 0) = cv 0 by rw [← hcv]]
    have h0 := hc2 0
    cases tbP t with
    | true =>
      rw [if_pos rfl]
      obtain ⟨i1, i2, i3⟩ := ab_mx (ok := okC c) hc2 hl 8 (by omega)
      have e := mm_mx (okC c) cv lo (cv 0) 8
      have e2 := mm_mx (okC c) cv (cv 0) lo 8
      rw [show max (cv 0) lo = max lo (cv 0) by omega, e] at e2
      rw [fo_s]
      generalize fo (abF (okC c) ch true) (lo, hi) 8 = s at *
      obtain ⟨a, b⟩ := s
      dsimp only at i1 i2 i3
      subst i1
      unfold abF
      rw [show (8 + 1) % 9 = 0 from rfl, if_pos ok0, if_pos rfl]
      unfold clP at *
      by_cases h2 : b ≤ a
      · rw [if_pos h2]; dsimp only; omega
      · rw [if_neg h2]
        have h3 := h0 a b (by omega)
        dsimp only; omega
    | false =>
      rw [fi_f]
      obtain ⟨i1, i2, i3⟩ := ab_mn (ok := okC c) hc2 hl 8 (by omega)
      have e := mm_mn (okC c) cv hi (cv 0) 8
      have e2 := mm_mn (okC c) cv (cv 0) hi 8
      rw [show min (cv 0) hi = min hi (cv 0) by omega, e] at e2
      rw [fo_s]
      generalize fo (abF (okC c) ch false) (lo, hi) 8 = s at *
      obtain ⟨a, b⟩ := s
      dsimp only at i1 i2 i3
      subst i1
      unfold abF
      rw [show (8 + 1) % 9 = 0 from rfl, if_pos ok0, fi_f]
      unfold clP at *
      by_cases h2 : b ≤ a
      · rw [if_pos h2]; dsimp only; omega
      · rw [if_neg h2]
        have h3 := h0 a b (by omega)
        dsimp only; omega
theorem mm_b {L : (Nat → Int) → Int} (hL : ∀ c, -6 ≤ L c ∧ L c ≤ 6) : ∀ (r t : Nat) (c : Nat → Int), -6 ≤ mmP L r t c ∧ mmP L r t c ≤ 6 := by
  intro r
  induction r with
  | zero => exact fun t c => hL c
  | succ r ih =>
    intro t c
    rw [mmP]
    refine fo_ind (P := fun _ x => -6 ≤ x ∧ x ≤ 6) (ih _ _) (fun k x h => ?_) 8
    have h2 := ih (t + 1) (stC c (k + 1))
    unfold mmF
    dsimp only
    split
    · split <;> omega
    · exact h
theorem ab_7 {L : (Nat → Int) → Int} (hL : ∀ c, -6 ≤ L c ∧ L c ≤ 6) (r t : Nat) (c : Nat → Int) : abP2 L r t c (-7) 7 = mmP L r t c := by
  have h := ab_mm L r t c (-7) 7 (by omega)
  have h2 := mm_b hL r t c
  unfold clP at h
  omega
