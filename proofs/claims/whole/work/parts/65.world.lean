/-! the first world -/
def xk0 : List Nat := [10, 1, 1, 2, 0, 4, 0, 0, 0, 3, 0, 5, 0, 6, 0, 11, 0, 0, 0, 0, 0, 0, 0, 0, 0, 0, 0, 0, 0, 0, 9, 9, 9, 9, 9, 9, 9, 9, 9, 9, 0, 0, 0, 0, 0, 0, 0, 0, 0, 0, 8, 0, 0, 0, 0, 0, 0, 0, 0, 0, 8, 0, 0, 0, 0, 0, 0, 0, 0, 0, 8, 0, 0, 0, 0, 0, 0, 0, 0, 0, 8, 0, 0, 0, 0, 0, 0, 0, 0, 0, 8, 0, 0, 0, 0, 0, 0, 0, 0, 0]
def xl0 : List Nat := [0, 6, 4, 3, 6, 0, 6, 6, 2, 0, 98, 0, 4, 0, 21, 0, 6, 240, 4, 240, 40, 34, 34, 34, 1360, 102, 4080, 3, 6, 6561, 0, 0, 0, 0, 0, 0, 0, 0, 0, 0, 40, 40, 40, 40, 40, 40, 60, 60, 60, 60, 0, 4, 2, 6, 6, 6, 6, 40, 40, 40, 0, 4, 2, 6, 6, 6, 6, 40, 40, 40, 0, 4, 2, 6, 6, 6, 6, 40, 40, 40, 0, 4, 2, 6, 6, 6, 6, 40, 40, 40, 0, 4, 2, 6, 6, 6, 6, 40, 40, 40]
def xr0 : List (List (Option Nat)) := [[some 1, some 2, some 50, some 60, some 3, some 5, some 9, some 11, some 13, some 4], [], [], [], [], [none, none, some 6, some 7, some 8], [], [], [], [some 10], [], [some 12], [], [none, none, some 14], [], [some 16, some 17, some 18, some 19, some 20, some 21, some 22, some 23, some 24, none, some 25, some 26, some 27, none, some 28, none, none, none, none, none, some 29], [], [], [], [], [], [], [], [], [], [], [], [], [], [], [none, none, some 40], [none, none, some 41], [none, none, some 42], [none, none, some 43], [none, none, some 44], [none, none, some 45], [none, none, some 46], [none, none, some 47], [none, none, some 48], [none, none, some 49], [], [], [], [], [], [], [], [], [], [], [none, none, none, none, none, some 51, some 52, some 53, some 54, some 55, some 56, some 57, some 58, some 59], [], [], [], [], [], [], [], [], [], [none, none, none, none, none, some 61, some 62, some 63, some 64, some 65, some 66, some 67, some 68, some 69], [], [], [], [], [], [], [], [], [], [none, none, none, none, none, some 71, some 72, some 73, some 74, some 75, some 76, some 77, some 78, some 79], [], [], [], [], [], [], [], [], [], [none, none, none, none, none, some 81, some 82, some 83, some 84, some 85, some 86, some 87, some 88, some 89], [], [], [], [], [], [], [], [], [], [none, none, none, none, none, some 91, some 92, some 93, some 94, some 95, some 96, some 97, some 98, some 99], [], [], [], [], [], [], [], [], []]
def xS0 : xi_S := (fun a => xk0.getD a 99, fun a => xl0.getD a 0, fun a k => if a = 1 then (if k < 6 then some (30 + k) else none) else if a = 2 then (if k < 4 then some (36 + k) else none) else if a = 3 then (if k < 3 then some (70 + 10 * k) else none) else (xr0.getD a []).getD k none)
def xu (n : Nat) : Nat → Int32 := fo (fun i f => upd f i (-9)) (fun _ => 0) n
def xm0 : xi_M := (fun a => if a = 16 then xu 6 else if a = 18 then xu 4 else if a = 27 then xu 3 else fun _ => 0, fun a k => if a = 0 ∧ k = 13 then 1 else if a = 15 ∧ k = 17 then 1 else 0)
def xad (h0 h1 : Nat) (q r : Nat → Nat) : Nat → Nat := fun a => if a = 0 then h0 else if a = 15 then h1 else if 15 < a ∧ a < 30 then r a else q a
def xE0 (cI cS cR : ClassId) (h0 h1 : Nat) (q r : Nat → Nat) : xi_E := (xad h0 h1 q r, 100, xft, fun k => if k = 0 then cI else if k = 1 then cS else cR)
set_option maxRecDepth 100000 in
theorem sh0 : Sh xS0 := by
  refine ⟨?_, ?_, ?_, fun j hj => ?_⟩
  · unfold ShT
    repeat' apply And.intro
    all_goals decide +kernel
  · unfold ShB
    repeat' apply And.intro
    all_goals decide +kernel
  · unfold ShX
    repeat' apply And.intro
    all_goals decide +kernel
  · rcases (show j = 0 ∨ j = 1 ∨ j = 2 ∨ j = 3 ∨ j = 4 by omega) with rfl | rfl | rfl | rfl | rfl
    all_goals
      unfold ShR
      repeat' apply And.intro
      all_goals decide +kernel
theorem xu_v {n r : Nat} (h : r < n) : xu n r = zi (-9) := by
  induction n with
  | zero => exact absurd h (by omega)
  | succ n ih =>
    show upd (xu n) n (-9) r = _
    unfold upd
    by_cases e : r = n
    · rw [if_pos e]; rfl
    · rw [if_neg e]; exact ih (by omega)
theorem xm0_z {a : Nat} (h1 : a ≠ 16) (h2 : a ≠ 18) (h3 : a ≠ 27) (k : Nat) : xm0.1 a k = zi 0 := by
  show (if a = 16 then xu 6 else if a = 18 then xu 4 else if a = 27 then xu 3 else fun _ => 0) k = _
  rw [if_neg h1, if_neg h2, if_neg h3]
  rfl
def xq0 : Sg := ((fun _ => -9, fun _ _ => zi 0), (0, fun _ _ => 0), (fun _ => -9, fun _ _ _ => 0), (zi 0, fun _ => zi 0, zi 0, 0, 1))
theorem rel0 : Rel xm0 := by
  refine ⟨xq0, ⟨fun s hs => ⟨?_, fun h => absurd rfl h, fun k hk => xm0_z (by omega) (by omega) (by omega) k⟩, ⟨⟨?_, ?_, ?_, ?_, fun k hk => ?_, fun k hk => ?_, fun i hi => absurd hi (by unfold pN xq0; simp), fun i hi => absurd hi (by unfold pN xq0; simp), fun i hi => absurd hi (by unfold pN xq0; simp), fun i hi => absurd hi (by unfold pN xq0; simp)⟩, ?_, fun d hd => absurd hd (Nat.not_lt_zero _)⟩, fun j hj => ⟨fun _ => xm0_z (by omega) (by omega) (by omega) 1, fun h => absurd rfl h⟩, ⟨xm0_z (by omega) (by omega) (by omega) 10, fun j hj => xm0_z (by omega) (by omega) (by omega) j, xm0_z (by omega) (by omega) (by omega) 11, rfl, rfl⟩⟩, ⟨⟨fun r hr => ⟨?_, fun k hk => xm0_z (by omega) (by omega) (by omega) _⟩, fun u hu => ⟨?_, fun k hk => xm0_z (by omega) (by omega) (by omega) _⟩⟩, ⟨fun k hk => xm0_z (by omega) (by omega) (by omega) k, xm0_z (by omega) (by omega) (by omega) 9, fun d hd => absurd hd (Nat.not_lt_zero _)⟩, fun j hj => ⟨?_, fun h => absurd rfl h⟩, ⟨xm0_z (by omega) (by omega) (by omega) 13, fun j hj => xm0_z (by omega) (by omega) (by omega) j, xm0_z (by omega) (by omega) (by omega) 15, rfl, rfl⟩⟩, ⟨fun s hs => Or.inl rfl, fun u hu k hk => ⟨0, by omega, by omega, rfl⟩⟩, ⟨Nat.zero_le _, Or.inl ⟨rfl, fun k hk => rfl⟩⟩, fun j hj => Or.inl rfl⟩
  · rw [xm0_z (by omega) (by omega) (by omega)]; rfl
  · exact xm0_z (by omega) (by omega) (by omega) 0
  · exact xm0_z (by omega) (by omega) (by omega) 1
  · exact xm0_z (by omega) (by omega) (by omega) 2
  · exact xm0_z (by omega) (by omega) (by omega) 3
  · exact xm0_z (by omega) (by omega) (by omega) k
  · exact xm0_z (by omega) (by omega) (by omega) k
  · exact xm0_z (by omega) (by omega) (by omega) 4
  · exact xu_v hr
  · exact xu_v hu
  · exact xu_v hj
theorem xk0_b {a : Nat} (h : xS0.1 a < 12) : a < 100 := by
  by_cases e : a < 100
  · exact e
  · have : xS0.1 a = 99 := by
      show xk0.getD a 99 = 99
      rw [List.getD_eq_getElem?_getD, List.getElem?_eq_none (by rw [show xk0.length = 100 from rfl]; omega)]
      rfl
    omega
section
variable {cI cS cR : ClassId} {h0 h1 : Nat} {q r : Nat → Nat}
theorem xf1 : va_up (va_up (va_up (va_up (va_up (va_up (fun _ => none) 0 (some (q 30))) 1 (some (q 31))) 2 (some (q 32))) 3 (some (q 33))) 4 (some (q 34))) 5 (some (q 35)) = fun i => (xS0.2.2 1 i).map (xad h0 h1 q r) := by
  funext i
  by_cases h : i < 6
  · rcases (show i = 0 ∨ i = 1 ∨ i = 2 ∨ i = 3 ∨ i = 4 ∨ i = 5 by omega) with rfl | rfl | rfl | rfl | rfl | rfl <;> rfl
  · rw [show xS0.2.2 1 i = if i < 6 then some (30 + i) else none from rfl, if_neg h]
    unfold va_up
    rw [if_neg (by omega), if_neg (by omega), if_neg (by omega), if_neg (by omega), if_neg (by omega), if_neg (by omega)]
    rfl
theorem xf2 : va_up (va_up (va_up (va_up (fun _ => none) 0 (some (q 36))) 1 (some (q 37))) 2 (some (q 38))) 3 (some (q 39)) = fun i => (xS0.2.2 2 i).map (xad h0 h1 q r) := by
  funext i
  by_cases h : i < 4
  · rcases (show i = 0 ∨ i = 1 ∨ i = 2 ∨ i = 3 by omega) with rfl | rfl | rfl | rfl <;> rfl
  · rw [show xS0.2.2 2 i = if i < 4 then some (36 + i) else none from rfl, if_neg h]
    unfold va_up
    rw [if_neg (by omega), if_neg (by omega), if_neg (by omega), if_neg (by omega)]
    rfl
theorem xf3 : va_up (va_up (va_up (fun _ => none) 0 (some (q 70))) 1 (some (q 80))) 2 (some (q 90)) = fun i => (xS0.2.2 3 i).map (xad h0 h1 q r) := by
  funext i
  by_cases h : i < 3
  · rcases (show i = 0 ∨ i = 1 ∨ i = 2 by omega) with rfl | rfl | rfl <;> rfl
  · rw [show xS0.2.2 3 i = if i < 3 then some (70 + 10 * i) else none from rfl, if_neg h]
    unfold va_up
    rw [if_neg (by omega), if_neg (by omega), if_neg (by omega)]
    rfl
theorem xc0_0 : (wX8 cI cS cR h0 q ++ wX9 cI h1 r)[0]? = some ((xE0 cI cS cR h0 h1 q r).1 0, xi_cel (xE0 cI cS cR h0 h1 q r) xS0 xm0 0) := rfl
theorem xc0_1 : (wX8 cI cS cR h0 q ++ wX9 cI h1 r)[1]? = some ((xE0 cI cS cR h0 h1 q r).1 1, xi_cel (xE0 cI cS cR h0 h1 q r) xS0 xm0 1) := congrArg (fun f => some (q 1, (.inl (cS, 6, .inr (.inr (.inr (.inr f)))) : va_E))) (xf1 (h0 := h0) (h1 := h1) (q := q) (r := r))
theorem xc0_2 : (wX8 cI cS cR h0 q ++ wX9 cI h1 r)[2]? = some ((xE0 cI cS cR h0 h1 q r).1 2, xi_cel (xE0 cI cS cR h0 h1 q r) xS0 xm0 2) := congrArg (fun f => some (q 2, (.inl (cS, 4, .inr (.inr (.inr (.inr f)))) : va_E))) (xf2 (h0 := h0) (h1 := h1) (q := q) (r := r))
theorem xc0_3 : (wX8 cI cS cR h0 q ++ wX9 cI h1 r)[3]? = some ((xE0 cI cS cR h0 h1 q r).1 3, xi_cel (xE0 cI cS cR h0 h1 q r) xS0 xm0 3) := congrArg (fun f => some (q 3, (.inl (cR, 3, .inr (.inr (.inr (.inr f)))) : va_E))) (xf3 (h0 := h0) (h1 := h1) (q := q) (r := r))
theorem xc0_4 : (wX8 cI cS cR h0 q ++ wX9 cI h1 r)[4]? = some ((xE0 cI cS cR h0 h1 q r).1 4, xi_cel (xE0 cI cS cR h0 h1 q r) xS0 xm0 4) := rfl
theorem xc0_5 : (wX8 cI cS cR h0 q ++ wX9 cI h1 r)[5]? = some ((xE0 cI cS cR h0 h1 q r).1 5, xi_cel (xE0 cI cS cR h0 h1 q r) xS0 xm0 5) := rfl
theorem xc0_6 : (wX8 cI cS cR h0 q ++ wX9 cI h1 r)[6]? = some ((xE0 cI cS cR h0 h1 q r).1 6, xi_cel (xE0 cI cS cR h0 h1 q r) xS0 xm0 6) := rfl
theorem xc0_7 : (wX8 cI cS cR h0 q ++ wX9 cI h1 r)[7]? = some ((xE0 cI cS cR h0 h1 q r).1 7, xi_cel (xE0 cI cS cR h0 h1 q r) xS0 xm0 7) := rfl
theorem xc0_8 : (wX8 cI cS cR h0 q ++ wX9 cI h1 r)[8]? = some ((xE0 cI cS cR h0 h1 q r).1 8, xi_cel (xE0 cI cS cR h0 h1 q r) xS0 xm0 8) := rfl
theorem xc0_9 : (wX8 cI cS cR h0 q ++ wX9 cI h1 r)[9]? = some ((xE0 cI cS cR h0 h1 q r).1 9, xi_cel (xE0 cI cS cR h0 h1 q r) xS0 xm0 9) := rfl
theorem xc0_10 : (wX8 cI cS cR h0 q ++ wX9 cI h1 r)[10]? = some ((xE0 cI cS cR h0 h1 q r).1 10, xi_cel (xE0 cI cS cR h0 h1 q r) xS0 xm0 10) := rfl
theorem xc0_11 : (wX8 cI cS cR h0 q ++ wX9 cI h1 r)[11]? = some ((xE0 cI cS cR h0 h1 q r).1 11, xi_cel (xE0 cI cS cR h0 h1 q r) xS0 xm0 11) := rfl
theorem xc0_12 : (wX8 cI cS cR h0 q ++ wX9 cI h1 r)[12]? = some ((xE0 cI cS cR h0 h1 q r).1 12, xi_cel (xE0 cI cS cR h0 h1 q r) xS0 xm0 12) := rfl
theorem xc0_13 : (wX8 cI cS cR h0 q ++ wX9 cI h1 r)[13]? = some ((xE0 cI cS cR h0 h1 q r).1 13, xi_cel (xE0 cI cS cR h0 h1 q r) xS0 xm0 13) := rfl
theorem xc0_14 : (wX8 cI cS cR h0 q ++ wX9 cI h1 r)[14]? = some ((xE0 cI cS cR h0 h1 q r).1 14, xi_cel (xE0 cI cS cR h0 h1 q r) xS0 xm0 14) := rfl
theorem xc0_15 : (wX8 cI cS cR h0 q ++ wX9 cI h1 r)[85]? = some ((xE0 cI cS cR h0 h1 q r).1 15, xi_cel (xE0 cI cS cR h0 h1 q r) xS0 xm0 15) := by
  have e1 : xi_cel (xE0 cI cS cR h0 h1 q r) xS0 xm0 15 = .inr (8, xi_fs (xE0 cI cS cR h0 h1 q r) xS0 xm0 15 8) := xi_cel_obj (ci := 8) rfl
  have e2 : xi_fs (xE0 cI cS cR h0 h1 q r) xS0 xm0 15 8 = [.ref (r 16), .ref (r 17), .ref (r 18), .ref (r 19), .ref (r 20), .ref (r 21), .ref (r 22), .ref (r 23), .ref (r 24), .int 0, .ref (r 25), .ref (r 26), .ref (r 27), .int 0, .ref (r 28), .int 0, .long 0, .long 1, .int 0, .int 0, .ref (r 29)] := by
    unfold xi_fs
    rw [show (xE0 cI cS cR h0 h1 q r).2.2.1 8 = [3, 3, 3, 3, 3, 3, 3, 3, 3, 0, 3, 3, 3, 0, 3, 0, 2, 2, 0, 0, 3] from rfl]
    simp only [List.mapIdx_cons, List.mapIdx_nil]
    rfl
  rw [e1, e2]
  rfl
theorem xc0_16 : (wX8 cI cS cR h0 q ++ wX9 cI h1 r)[86]? = some ((xE0 cI cS cR h0 h1 q r).1 16, xi_cel (xE0 cI cS cR h0 h1 q r) xS0 xm0 16) := rfl
theorem xc0_17 : (wX8 cI cS cR h0 q ++ wX9 cI h1 r)[87]? = some ((xE0 cI cS cR h0 h1 q r).1 17, xi_cel (xE0 cI cS cR h0 h1 q r) xS0 xm0 17) := rfl
theorem xc0_18 : (wX8 cI cS cR h0 q ++ wX9 cI h1 r)[88]? = some ((xE0 cI cS cR h0 h1 q r).1 18, xi_cel (xE0 cI cS cR h0 h1 q r) xS0 xm0 18) := rfl
theorem xc0_19 : (wX8 cI cS cR h0 q ++ wX9 cI h1 r)[89]? = some ((xE0 cI cS cR h0 h1 q r).1 19, xi_cel (xE0 cI cS cR h0 h1 q r) xS0 xm0 19) := rfl
theorem xc0_20 : (wX8 cI cS cR h0 q ++ wX9 cI h1 r)[90]? = some ((xE0 cI cS cR h0 h1 q r).1 20, xi_cel (xE0 cI cS cR h0 h1 q r) xS0 xm0 20) := rfl
theorem xc0_21 : (wX8 cI cS cR h0 q ++ wX9 cI h1 r)[91]? = some ((xE0 cI cS cR h0 h1 q r).1 21, xi_cel (xE0 cI cS cR h0 h1 q r) xS0 xm0 21) := rfl
theorem xc0_22 : (wX8 cI cS cR h0 q ++ wX9 cI h1 r)[92]? = some ((xE0 cI cS cR h0 h1 q r).1 22, xi_cel (xE0 cI cS cR h0 h1 q r) xS0 xm0 22) := rfl
theorem xc0_23 : (wX8 cI cS cR h0 q ++ wX9 cI h1 r)[93]? = some ((xE0 cI cS cR h0 h1 q r).1 23, xi_cel (xE0 cI cS cR h0 h1 q r) xS0 xm0 23) := rfl
theorem xc0_24 : (wX8 cI cS cR h0 q ++ wX9 cI h1 r)[94]? = some ((xE0 cI cS cR h0 h1 q r).1 24, xi_cel (xE0 cI cS cR h0 h1 q r) xS0 xm0 24) := rfl
theorem xc0_25 : (wX8 cI cS cR h0 q ++ wX9 cI h1 r)[95]? = some ((xE0 cI cS cR h0 h1 q r).1 25, xi_cel (xE0 cI cS cR h0 h1 q r) xS0 xm0 25) := rfl
theorem xc0_26 : (wX8 cI cS cR h0 q ++ wX9 cI h1 r)[96]? = some ((xE0 cI cS cR h0 h1 q r).1 26, xi_cel (xE0 cI cS cR h0 h1 q r) xS0 xm0 26) := rfl
theorem xc0_27 : (wX8 cI cS cR h0 q ++ wX9 cI h1 r)[97]? = some ((xE0 cI cS cR h0 h1 q r).1 27, xi_cel (xE0 cI cS cR h0 h1 q r) xS0 xm0 27) := rfl
theorem xc0_28 : (wX8 cI cS cR h0 q ++ wX9 cI h1 r)[98]? = some ((xE0 cI cS cR h0 h1 q r).1 28, xi_cel (xE0 cI cS cR h0 h1 q r) xS0 xm0 28) := rfl
theorem xc0_29 : (wX8 cI cS cR h0 q ++ wX9 cI h1 r)[99]? = some ((xE0 cI cS cR h0 h1 q r).1 29, xi_cel (xE0 cI cS cR h0 h1 q r) xS0 xm0 29) := rfl
theorem xc0_30 : (wX8 cI cS cR h0 q ++ wX9 cI h1 r)[15]? = some ((xE0 cI cS cR h0 h1 q r).1 30, xi_cel (xE0 cI cS cR h0 h1 q r) xS0 xm0 30) := rfl
theorem xc0_31 : (wX8 cI cS cR h0 q ++ wX9 cI h1 r)[16]? = some ((xE0 cI cS cR h0 h1 q r).1 31, xi_cel (xE0 cI cS cR h0 h1 q r) xS0 xm0 31) := rfl
theorem xc0_32 : (wX8 cI cS cR h0 q ++ wX9 cI h1 r)[17]? = some ((xE0 cI cS cR h0 h1 q r).1 32, xi_cel (xE0 cI cS cR h0 h1 q r) xS0 xm0 32) := rfl
theorem xc0_33 : (wX8 cI cS cR h0 q ++ wX9 cI h1 r)[18]? = some ((xE0 cI cS cR h0 h1 q r).1 33, xi_cel (xE0 cI cS cR h0 h1 q r) xS0 xm0 33) := rfl
theorem xc0_34 : (wX8 cI cS cR h0 q ++ wX9 cI h1 r)[19]? = some ((xE0 cI cS cR h0 h1 q r).1 34, xi_cel (xE0 cI cS cR h0 h1 q r) xS0 xm0 34) := rfl
theorem xc0_35 : (wX8 cI cS cR h0 q ++ wX9 cI h1 r)[20]? = some ((xE0 cI cS cR h0 h1 q r).1 35, xi_cel (xE0 cI cS cR h0 h1 q r) xS0 xm0 35) := rfl
theorem xc0_36 : (wX8 cI cS cR h0 q ++ wX9 cI h1 r)[21]? = some ((xE0 cI cS cR h0 h1 q r).1 36, xi_cel (xE0 cI cS cR h0 h1 q r) xS0 xm0 36) := rfl
theorem xc0_37 : (wX8 cI cS cR h0 q ++ wX9 cI h1 r)[22]? = some ((xE0 cI cS cR h0 h1 q r).1 37, xi_cel (xE0 cI cS cR h0 h1 q r) xS0 xm0 37) := rfl
theorem xc0_38 : (wX8 cI cS cR h0 q ++ wX9 cI h1 r)[23]? = some ((xE0 cI cS cR h0 h1 q r).1 38, xi_cel (xE0 cI cS cR h0 h1 q r) xS0 xm0 38) := rfl
theorem xc0_39 : (wX8 cI cS cR h0 q ++ wX9 cI h1 r)[24]? = some ((xE0 cI cS cR h0 h1 q r).1 39, xi_cel (xE0 cI cS cR h0 h1 q r) xS0 xm0 39) := rfl
theorem xc0_40 : (wX8 cI cS cR h0 q ++ wX9 cI h1 r)[25]? = some ((xE0 cI cS cR h0 h1 q r).1 40, xi_cel (xE0 cI cS cR h0 h1 q r) xS0 xm0 40) := rfl
theorem xc0_41 : (wX8 cI cS cR h0 q ++ wX9 cI h1 r)[26]? = some ((xE0 cI cS cR h0 h1 q r).1 41, xi_cel (xE0 cI cS cR h0 h1 q r) xS0 xm0 41) := rfl
theorem xc0_42 : (wX8 cI cS cR h0 q ++ wX9 cI h1 r)[27]? = some ((xE0 cI cS cR h0 h1 q r).1 42, xi_cel (xE0 cI cS cR h0 h1 q r) xS0 xm0 42) := rfl
theorem xc0_43 : (wX8 cI cS cR h0 q ++ wX9 cI h1 r)[28]? = some ((xE0 cI cS cR h0 h1 q r).1 43, xi_cel (xE0 cI cS cR h0 h1 q r) xS0 xm0 43) := rfl
theorem xc0_44 : (wX8 cI cS cR h0 q ++ wX9 cI h1 r)[29]? = some ((xE0 cI cS cR h0 h1 q r).1 44, xi_cel (xE0 cI cS cR h0 h1 q r) xS0 xm0 44) := rfl
theorem xc0_45 : (wX8 cI cS cR h0 q ++ wX9 cI h1 r)[30]? = some ((xE0 cI cS cR h0 h1 q r).1 45, xi_cel (xE0 cI cS cR h0 h1 q r) xS0 xm0 45) := rfl
theorem xc0_46 : (wX8 cI cS cR h0 q ++ wX9 cI h1 r)[31]? = some ((xE0 cI cS cR h0 h1 q r).1 46, xi_cel (xE0 cI cS cR h0 h1 q r) xS0 xm0 46) := rfl
theorem xc0_47 : (wX8 cI cS cR h0 q ++ wX9 cI h1 r)[32]? = some ((xE0 cI cS cR h0 h1 q r).1 47, xi_cel (xE0 cI cS cR h0 h1 q r) xS0 xm0 47) := rfl
theorem xc0_48 : (wX8 cI cS cR h0 q ++ wX9 cI h1 r)[33]? = some ((xE0 cI cS cR h0 h1 q r).1 48, xi_cel (xE0 cI cS cR h0 h1 q r) xS0 xm0 48) := rfl
theorem xc0_49 : (wX8 cI cS cR h0 q ++ wX9 cI h1 r)[34]? = some ((xE0 cI cS cR h0 h1 q r).1 49, xi_cel (xE0 cI cS cR h0 h1 q r) xS0 xm0 49) := rfl
theorem xc0_50 : (wX8 cI cS cR h0 q ++ wX9 cI h1 r)[35]? = some ((xE0 cI cS cR h0 h1 q r).1 50, xi_cel (xE0 cI cS cR h0 h1 q r) xS0 xm0 50) := rfl
theorem xc0_51 : (wX8 cI cS cR h0 q ++ wX9 cI h1 r)[36]? = some ((xE0 cI cS cR h0 h1 q r).1 51, xi_cel (xE0 cI cS cR h0 h1 q r) xS0 xm0 51) := rfl
theorem xc0_52 : (wX8 cI cS cR h0 q ++ wX9 cI h1 r)[37]? = some ((xE0 cI cS cR h0 h1 q r).1 52, xi_cel (xE0 cI cS cR h0 h1 q r) xS0 xm0 52) := rfl
theorem xc0_53 : (wX8 cI cS cR h0 q ++ wX9 cI h1 r)[38]? = some ((xE0 cI cS cR h0 h1 q r).1 53, xi_cel (xE0 cI cS cR h0 h1 q r) xS0 xm0 53) := rfl
theorem xc0_54 : (wX8 cI cS cR h0 q ++ wX9 cI h1 r)[39]? = some ((xE0 cI cS cR h0 h1 q r).1 54, xi_cel (xE0 cI cS cR h0 h1 q r) xS0 xm0 54) := rfl
theorem xc0_55 : (wX8 cI cS cR h0 q ++ wX9 cI h1 r)[40]? = some ((xE0 cI cS cR h0 h1 q r).1 55, xi_cel (xE0 cI cS cR h0 h1 q r) xS0 xm0 55) := rfl
theorem xc0_56 : (wX8 cI cS cR h0 q ++ wX9 cI h1 r)[41]? = some ((xE0 cI cS cR h0 h1 q r).1 56, xi_cel (xE0 cI cS cR h0 h1 q r) xS0 xm0 56) := rfl
theorem xc0_57 : (wX8 cI cS cR h0 q ++ wX9 cI h1 r)[42]? = some ((xE0 cI cS cR h0 h1 q r).1 57, xi_cel (xE0 cI cS cR h0 h1 q r) xS0 xm0 57) := rfl
theorem xc0_58 : (wX8 cI cS cR h0 q ++ wX9 cI h1 r)[43]? = some ((xE0 cI cS cR h0 h1 q r).1 58, xi_cel (xE0 cI cS cR h0 h1 q r) xS0 xm0 58) := rfl
theorem xc0_59 : (wX8 cI cS cR h0 q ++ wX9 cI h1 r)[44]? = some ((xE0 cI cS cR h0 h1 q r).1 59, xi_cel (xE0 cI cS cR h0 h1 q r) xS0 xm0 59) := rfl
theorem xc0_60 : (wX8 cI cS cR h0 q ++ wX9 cI h1 r)[45]? = some ((xE0 cI cS cR h0 h1 q r).1 60, xi_cel (xE0 cI cS cR h0 h1 q r) xS0 xm0 60) := rfl
theorem xc0_61 : (wX8 cI cS cR h0 q ++ wX9 cI h1 r)[46]? = some ((xE0 cI cS cR h0 h1 q r).1 61, xi_cel (xE0 cI cS cR h0 h1 q r) xS0 xm0 61) := rfl
theorem xc0_62 : (wX8 cI cS cR h0 q ++ wX9 cI h1 r)[47]? = some ((xE0 cI cS cR h0 h1 q r).1 62, xi_cel (xE0 cI cS cR h0 h1 q r) xS0 xm0 62) := rfl
theorem xc0_63 : (wX8 cI cS cR h0 q ++ wX9 cI h1 r)[48]? = some ((xE0 cI cS cR h0 h1 q r).1 63, xi_cel (xE0 cI cS cR h0 h1 q r) xS0 xm0 63) := rfl
theorem xc0_64 : (wX8 cI cS cR h0 q ++ wX9 cI h1 r)[49]? = some ((xE0 cI cS cR h0 h1 q r).1 64, xi_cel (xE0 cI cS cR h0 h1 q r) xS0 xm0 64) := rfl
theorem xc0_65 : (wX8 cI cS cR h0 q ++ wX9 cI h1 r)[50]? = some ((xE0 cI cS cR h0 h1 q r).1 65, xi_cel (xE0 cI cS cR h0 h1 q r) xS0 xm0 65) := rfl
theorem xc0_66 : (wX8 cI cS cR h0 q ++ wX9 cI h1 r)[51]? = some ((xE0 cI cS cR h0 h1 q r).1 66, xi_cel (xE0 cI cS cR h0 h1 q r) xS0 xm0 66) := rfl
theorem xc0_67 : (wX8 cI cS cR h0 q ++ wX9 cI h1 r)[52]? = some ((xE0 cI cS cR h0 h1 q r).1 67, xi_cel (xE0 cI cS cR h0 h1 q r) xS0 xm0 67) := rfl
theorem xc0_68 : (wX8 cI cS cR h0 q ++ wX9 cI h1 r)[53]? = some ((xE0 cI cS cR h0 h1 q r).1 68, xi_cel (xE0 cI cS cR h0 h1 q r) xS0 xm0 68) := rfl
theorem xc0_69 : (wX8 cI cS cR h0 q ++ wX9 cI h1 r)[54]? = some ((xE0 cI cS cR h0 h1 q r).1 69, xi_cel (xE0 cI cS cR h0 h1 q r) xS0 xm0 69) := rfl
theorem xc0_70 : (wX8 cI cS cR h0 q ++ wX9 cI h1 r)[55]? = some ((xE0 cI cS cR h0 h1 q r).1 70, xi_cel (xE0 cI cS cR h0 h1 q r) xS0 xm0 70) := rfl
theorem xc0_71 : (wX8 cI cS cR h0 q ++ wX9 cI h1 r)[56]? = some ((xE0 cI cS cR h0 h1 q r).1 71, xi_cel (xE0 cI cS cR h0 h1 q r) xS0 xm0 71) := rfl
theorem xc0_72 : (wX8 cI cS cR h0 q ++ wX9 cI h1 r)[57]? = some ((xE0 cI cS cR h0 h1 q r).1 72, xi_cel (xE0 cI cS cR h0 h1 q r) xS0 xm0 72) := rfl
theorem xc0_73 : (wX8 cI cS cR h0 q ++ wX9 cI h1 r)[58]? = some ((xE0 cI cS cR h0 h1 q r).1 73, xi_cel (xE0 cI cS cR h0 h1 q r) xS0 xm0 73) := rfl
theorem xc0_74 : (wX8 cI cS cR h0 q ++ wX9 cI h1 r)[59]? = some ((xE0 cI cS cR h0 h1 q r).1 74, xi_cel (xE0 cI cS cR h0 h1 q r) xS0 xm0 74) := rfl
theorem xc0_75 : (wX8 cI cS cR h0 q ++ wX9 cI h1 r)[60]? = some ((xE0 cI cS cR h0 h1 q r).1 75, xi_cel (xE0 cI cS cR h0 h1 q r) xS0 xm0 75) := rfl
theorem xc0_76 : (wX8 cI cS cR h0 q ++ wX9 cI h1 r)[61]? = some ((xE0 cI cS cR h0 h1 q r).1 76, xi_cel (xE0 cI cS cR h0 h1 q r) xS0 xm0 76) := rfl
theorem xc0_77 : (wX8 cI cS cR h0 q ++ wX9 cI h1 r)[62]? = some ((xE0 cI cS cR h0 h1 q r).1 77, xi_cel (xE0 cI cS cR h0 h1 q r) xS0 xm0 77) := rfl
theorem xc0_78 : (wX8 cI cS cR h0 q ++ wX9 cI h1 r)[63]? = some ((xE0 cI cS cR h0 h1 q r).1 78, xi_cel (xE0 cI cS cR h0 h1 q r) xS0 xm0 78) := rfl
theorem xc0_79 : (wX8 cI cS cR h0 q ++ wX9 cI h1 r)[64]? = some ((xE0 cI cS cR h0 h1 q r).1 79, xi_cel (xE0 cI cS cR h0 h1 q r) xS0 xm0 79) := rfl
theorem xc0_80 : (wX8 cI cS cR h0 q ++ wX9 cI h1 r)[65]? = some ((xE0 cI cS cR h0 h1 q r).1 80, xi_cel (xE0 cI cS cR h0 h1 q r) xS0 xm0 80) := rfl
theorem xc0_81 : (wX8 cI cS cR h0 q ++ wX9 cI h1 r)[66]? = some ((xE0 cI cS cR h0 h1 q r).1 81, xi_cel (xE0 cI cS cR h0 h1 q r) xS0 xm0 81) := rfl
theorem xc0_82 : (wX8 cI cS cR h0 q ++ wX9 cI h1 r)[67]? = some ((xE0 cI cS cR h0 h1 q r).1 82, xi_cel (xE0 cI cS cR h0 h1 q r) xS0 xm0 82) := rfl
theorem xc0_83 : (wX8 cI cS cR h0 q ++ wX9 cI h1 r)[68]? = some ((xE0 cI cS cR h0 h1 q r).1 83, xi_cel (xE0 cI cS cR h0 h1 q r) xS0 xm0 83) := rfl
theorem xc0_84 : (wX8 cI cS cR h0 q ++ wX9 cI h1 r)[69]? = some ((xE0 cI cS cR h0 h1 q r).1 84, xi_cel (xE0 cI cS cR h0 h1 q r) xS0 xm0 84) := rfl
theorem xc0_85 : (wX8 cI cS cR h0 q ++ wX9 cI h1 r)[70]? = some ((xE0 cI cS cR h0 h1 q r).1 85, xi_cel (xE0 cI cS cR h0 h1 q r) xS0 xm0 85) := rfl
theorem xc0_86 : (wX8 cI cS cR h0 q ++ wX9 cI h1 r)[71]? = some ((xE0 cI cS cR h0 h1 q r).1 86, xi_cel (xE0 cI cS cR h0 h1 q r) xS0 xm0 86) := rfl
theorem xc0_87 : (wX8 cI cS cR h0 q ++ wX9 cI h1 r)[72]? = some ((xE0 cI cS cR h0 h1 q r).1 87, xi_cel (xE0 cI cS cR h0 h1 q r) xS0 xm0 87) := rfl
theorem xc0_88 : (wX8 cI cS cR h0 q ++ wX9 cI h1 r)[73]? = some ((xE0 cI cS cR h0 h1 q r).1 88, xi_cel (xE0 cI cS cR h0 h1 q r) xS0 xm0 88) := rfl
theorem xc0_89 : (wX8 cI cS cR h0 q ++ wX9 cI h1 r)[74]? = some ((xE0 cI cS cR h0 h1 q r).1 89, xi_cel (xE0 cI cS cR h0 h1 q r) xS0 xm0 89) := rfl
theorem xc0_90 : (wX8 cI cS cR h0 q ++ wX9 cI h1 r)[75]? = some ((xE0 cI cS cR h0 h1 q r).1 90, xi_cel (xE0 cI cS cR h0 h1 q r) xS0 xm0 90) := rfl
theorem xc0_91 : (wX8 cI cS cR h0 q ++ wX9 cI h1 r)[76]? = some ((xE0 cI cS cR h0 h1 q r).1 91, xi_cel (xE0 cI cS cR h0 h1 q r) xS0 xm0 91) := rfl
theorem xc0_92 : (wX8 cI cS cR h0 q ++ wX9 cI h1 r)[77]? = some ((xE0 cI cS cR h0 h1 q r).1 92, xi_cel (xE0 cI cS cR h0 h1 q r) xS0 xm0 92) := rfl
theorem xc0_93 : (wX8 cI cS cR h0 q ++ wX9 cI h1 r)[78]? = some ((xE0 cI cS cR h0 h1 q r).1 93, xi_cel (xE0 cI cS cR h0 h1 q r) xS0 xm0 93) := rfl
theorem xc0_94 : (wX8 cI cS cR h0 q ++ wX9 cI h1 r)[79]? = some ((xE0 cI cS cR h0 h1 q r).1 94, xi_cel (xE0 cI cS cR h0 h1 q r) xS0 xm0 94) := rfl
theorem xc0_95 : (wX8 cI cS cR h0 q ++ wX9 cI h1 r)[80]? = some ((xE0 cI cS cR h0 h1 q r).1 95, xi_cel (xE0 cI cS cR h0 h1 q r) xS0 xm0 95) := rfl
theorem xc0_96 : (wX8 cI cS cR h0 q ++ wX9 cI h1 r)[81]? = some ((xE0 cI cS cR h0 h1 q r).1 96, xi_cel (xE0 cI cS cR h0 h1 q r) xS0 xm0 96) := rfl
theorem xc0_97 : (wX8 cI cS cR h0 q ++ wX9 cI h1 r)[82]? = some ((xE0 cI cS cR h0 h1 q r).1 97, xi_cel (xE0 cI cS cR h0 h1 q r) xS0 xm0 97) := rfl
theorem xc0_98 : (wX8 cI cS cR h0 q ++ wX9 cI h1 r)[83]? = some ((xE0 cI cS cR h0 h1 q r).1 98, xi_cel (xE0 cI cS cR h0 h1 q r) xS0 xm0 98) := rfl
theorem xc0_99 : (wX8 cI cS cR h0 q ++ wX9 cI h1 r)[84]? = some ((xE0 cI cS cR h0 h1 q r).1 99, xi_cel (xE0 cI cS cR h0 h1 q r) xS0 xm0 99) := rfl
theorem xc0 : ∀ a : Nat, a < 100 → ∃ p : Nat, (wX8 cI cS cR h0 q ++ wX9 cI h1 r)[p]? = some ((xE0 cI cS cR h0 h1 q r).1 a, xi_cel (xE0 cI cS cR h0 h1 q r) xS0 xm0 a) := fun a h => match a, h with
  | 0, _ => ⟨_, xc0_0⟩
  | 1, _ => ⟨_, xc0_1⟩
  | 2, _ => ⟨_, xc0_2⟩
  | 3, _ => ⟨_, xc0_3⟩
  | 4, _ => ⟨_, xc0_4⟩
  | 5, _ => ⟨_, xc0_5⟩
  | 6, _ => ⟨_, xc0_6⟩
  | 7, _ => ⟨_, xc0_7⟩
  | 8, _ => ⟨_, xc0_8⟩
  | 9, _ => ⟨_, xc0_9⟩
  | 10, _ => ⟨_, xc0_10⟩
  | 11, _ => ⟨_, xc0_11⟩
  | 12, _ => ⟨_, xc0_12⟩
  | 13, _ => ⟨_, xc0_13⟩
  | 14, _ => ⟨_, xc0_14⟩
  | 15, _ => ⟨_, xc0_15⟩
  | 16, _ => ⟨_, xc0_16⟩
  | 17, _ => ⟨_, xc0_17⟩
  | 18, _ => ⟨_, xc0_18⟩
  | 19, _ => ⟨_, xc0_19⟩
  | 20, _ => ⟨_, xc0_20⟩
  | 21, _ => ⟨_, xc0_21⟩
  | 22, _ => ⟨_, xc0_22⟩
  | 23, _ => ⟨_, xc0_23⟩
  | 24, _ => ⟨_, xc0_24⟩
  | 25, _ => ⟨_, xc0_25⟩
  | 26, _ => ⟨_, xc0_26⟩
  | 27, _ => ⟨_, xc0_27⟩
  | 28, _ => ⟨_, xc0_28⟩
  | 29, _ => ⟨_, xc0_29⟩
  | 30, _ => ⟨_, xc0_30⟩
  | 31, _ => ⟨_, xc0_31⟩
  | 32, _ => ⟨_, xc0_32⟩
  | 33, _ => ⟨_, xc0_33⟩
  | 34, _ => ⟨_, xc0_34⟩
  | 35, _ => ⟨_, xc0_35⟩
  | 36, _ => ⟨_, xc0_36⟩
  | 37, _ => ⟨_, xc0_37⟩
  | 38, _ => ⟨_, xc0_38⟩
  | 39, _ => ⟨_, xc0_39⟩
  | 40, _ => ⟨_, xc0_40⟩
  | 41, _ => ⟨_, xc0_41⟩
  | 42, _ => ⟨_, xc0_42⟩
  | 43, _ => ⟨_, xc0_43⟩
  | 44, _ => ⟨_, xc0_44⟩
  | 45, _ => ⟨_, xc0_45⟩
  | 46, _ => ⟨_, xc0_46⟩
  | 47, _ => ⟨_, xc0_47⟩
  | 48, _ => ⟨_, xc0_48⟩
  | 49, _ => ⟨_, xc0_49⟩
  | 50, _ => ⟨_, xc0_50⟩
  | 51, _ => ⟨_, xc0_51⟩
  | 52, _ => ⟨_, xc0_52⟩
  | 53, _ => ⟨_, xc0_53⟩
  | 54, _ => ⟨_, xc0_54⟩
  | 55, _ => ⟨_, xc0_55⟩
  | 56, _ => ⟨_, xc0_56⟩
  | 57, _ => ⟨_, xc0_57⟩
  | 58, _ => ⟨_, xc0_58⟩
  | 59, _ => ⟨_, xc0_59⟩
  | 60, _ => ⟨_, xc0_60⟩
  | 61, _ => ⟨_, xc0_61⟩
  | 62, _ => ⟨_, xc0_62⟩
  | 63, _ => ⟨_, xc0_63⟩
  | 64, _ => ⟨_, xc0_64⟩
  | 65, _ => ⟨_, xc0_65⟩
  | 66, _ => ⟨_, xc0_66⟩
  | 67, _ => ⟨_, xc0_67⟩
  | 68, _ => ⟨_, xc0_68⟩
  | 69, _ => ⟨_, xc0_69⟩
  | 70, _ => ⟨_, xc0_70⟩
  | 71, _ => ⟨_, xc0_71⟩
  | 72, _ => ⟨_, xc0_72⟩
  | 73, _ => ⟨_, xc0_73⟩
  | 74, _ => ⟨_, xc0_74⟩
  | 75, _ => ⟨_, xc0_75⟩
  | 76, _ => ⟨_, xc0_76⟩
  | 77, _ => ⟨_, xc0_77⟩
  | 78, _ => ⟨_, xc0_78⟩
  | 79, _ => ⟨_, xc0_79⟩
  | 80, _ => ⟨_, xc0_80⟩
  | 81, _ => ⟨_, xc0_81⟩
  | 82, _ => ⟨_, xc0_82⟩
  | 83, _ => ⟨_, xc0_83⟩
  | 84, _ => ⟨_, xc0_84⟩
  | 85, _ => ⟨_, xc0_85⟩
  | 86, _ => ⟨_, xc0_86⟩
  | 87, _ => ⟨_, xc0_87⟩
  | 88, _ => ⟨_, xc0_88⟩
  | 89, _ => ⟨_, xc0_89⟩
  | 90, _ => ⟨_, xc0_90⟩
  | 91, _ => ⟨_, xc0_91⟩
  | 92, _ => ⟨_, xc0_92⟩
  | 93, _ => ⟨_, xc0_93⟩
  | 94, _ => ⟨_, xc0_94⟩
  | 95, _ => ⟨_, xc0_95⟩
  | 96, _ => ⟨_, xc0_96⟩
  | 97, _ => ⟨_, xc0_97⟩
  | 98, _ => ⟨_, xc0_98⟩
  | 99, _ => ⟨_, xc0_99⟩
  | a + 100, h => absurd h (by omega)
theorem xP0 {D : va_G} {H : Heap} (hP : va_P D vwCl (wX8 cI cS cR h0 q ++ wX9 cI h1 r) H) : va_P D vwCl (xi_wld (xE0 cI cS cR h0 h1 q r) xS0 xm0) H := by
  intro k x hx
  have hk : k < 100 := by
    have := (List.getElem?_eq_some_iff.mp hx).1
    unfold xi_wld at this
    rw [List.length_map, List.length_range] at this
    exact this
  rw [xi_wld_get hk] at hx
  obtain ⟨p, hp⟩ := xc0 (cI := cI) (cS := cS) (cR := cR) (h0 := h0) (h1 := h1) (q := q) (r := r) k hk
  rw [Option.some.inj hx] at hp
  exact hP p x hp
theorem xD0 {A : Nat → Prop} (hD : va_D A (wX8 cI cS cR h0 q ++ wX9 cI h1 r)) : (∀ a b, a < 100 → b < 100 → (xE0 cI cS cR h0 h1 q r).1 a = (xE0 cI cS cR h0 h1 q r).1 b → a = b) ∧ ∀ a, a < 100 → A ((xE0 cI cS cR h0 h1 q r).1 a) := by
  have key : ∀ a : Nat, a < 100 → (wX8 cI cS cR h0 q ++ wX9 cI h1 r)[if a < 15 then a else if a < 30 then 70 + a else a - 15]? = some ((xE0 cI cS cR h0 h1 q r).1 a, xi_cel (xE0 cI cS cR h0 h1 q r) xS0 xm0 a) := fun a h => match a, h with
    | 0, _ => xc0_0
    | 1, _ => xc0_1
    | 2, _ => xc0_2
    | 3, _ => xc0_3
    | 4, _ => xc0_4
    | 5, _ => xc0_5
    | 6, _ => xc0_6
    | 7, _ => xc0_7
    | 8, _ => xc0_8
    | 9, _ => xc0_9
    | 10, _ => xc0_10
    | 11, _ => xc0_11
    | 12, _ => xc0_12
    | 13, _ => xc0_13
    | 14, _ => xc0_14
    | 15, _ => xc0_15
    | 16, _ => xc0_16
    | 17, _ => xc0_17
    | 18, _ => xc0_18
    | 19, _ => xc0_19
    | 20, _ => xc0_20
    | 21, _ => xc0_21
    | 22, _ => xc0_22
    | 23, _ => xc0_23
    | 24, _ => xc0_24
    | 25, _ => xc0_25
    | 26, _ => xc0_26
    | 27, _ => xc0_27
    | 28, _ => xc0_28
    | 29, _ => xc0_29
    | 30, _ => xc0_30
    | 31, _ => xc0_31
    | 32, _ => xc0_32
    | 33, _ => xc0_33
    | 34, _ => xc0_34
    | 35, _ => xc0_35
    | 36, _ => xc0_36
    | 37, _ => xc0_37
    | 38, _ => xc0_38
    | 39, _ => xc0_39
    | 40, _ => xc0_40
    | 41, _ => xc0_41
    | 42, _ => xc0_42
    | 43, _ => xc0_43
    | 44, _ => xc0_44
    | 45, _ => xc0_45
    | 46, _ => xc0_46
    | 47, _ => xc0_47
    | 48, _ => xc0_48
    | 49, _ => xc0_49
    | 50, _ => xc0_50
    | 51, _ => xc0_51
    | 52, _ => xc0_52
    | 53, _ => xc0_53
    | 54, _ => xc0_54
    | 55, _ => xc0_55
    | 56, _ => xc0_56
    | 57, _ => xc0_57
    | 58, _ => xc0_58
    | 59, _ => xc0_59
    | 60, _ => xc0_60
    | 61, _ => xc0_61
    | 62, _ => xc0_62
    | 63, _ => xc0_63
    | 64, _ => xc0_64
    | 65, _ => xc0_65
    | 66, _ => xc0_66
    | 67, _ => xc0_67
    | 68, _ => xc0_68
    | 69, _ => xc0_69
    | 70, _ => xc0_70
    | 71, _ => xc0_71
    | 72, _ => xc0_72
    | 73, _ => xc0_73
    | 74, _ => xc0_74
    | 75, _ => xc0_75
    | 76, _ => xc0_76
    | 77, _ => xc0_77
    | 78, _ => xc0_78
    | 79, _ => xc0_79
    | 80, _ => xc0_80
    | 81, _ => xc0_81
    | 82, _ => xc0_82
    | 83, _ => xc0_83
    | 84, _ => xc0_84
    | 85, _ => xc0_85
    | 86, _ => xc0_86
    | 87, _ => xc0_87
    | 88, _ => xc0_88
    | 89, _ => xc0_89
    | 90, _ => xc0_90
    | 91, _ => xc0_91
    | 92, _ => xc0_92
    | 93, _ => xc0_93
    | 94, _ => xc0_94
    | 95, _ => xc0_95
    | 96, _ => xc0_96
    | 97, _ => xc0_97
    | 98, _ => xc0_98
    | 99, _ => xc0_99
    | a + 100, h => absurd h (by omega)
  refine ⟨fun a b ha hb he => ?_, fun a ha => hD.2 _ _ (key a ha)⟩
  have := hD.1 _ _ _ _ (key a ha) (key b hb) he
  by_cases a1 : a < 15 <;> by_cases a2 : a < 30 <;> by_cases b1 : b < 15 <;> by_cases b2 : b < 30 <;> simp only [a1, a2, b1, b2, if_true, if_false] at this <;> omega
theorem xEok0 {A : Nat → Prop} (hD : va_D A (wX8 cI cS cR h0 q ++ wX9 cI h1 r)) : xCx (xE0 cI cS cR h0 h1 q r) xS0 [(cI, .int), (cS, .object "CoatGoals$Strip"), (cR, .object "CoatGoals$Republic")] := ⟨⟨(xD0 hD).1, fun a h => xk0_b h, rfl, ⟨_, rfl⟩, ⟨_, rfl⟩⟩, rfl⟩
end
