/-! the class's constructor: the world that it makes -/
section
variable {D : va_G} {cl : List vw_C} {A : Nat → Prop} {H H0 H1 : Heap}
theorem xj_re {ws ws' : va_W} (f : Nat → Nat) (hf : ∀ i x, ws'[i]? = some x → ws[f i]? = some x) (h : va_P D cl ws H) : va_P D cl ws' H := fun k q hq => h (f k) q (hf k q hq)
theorem xj_reD {ws ws' : va_W} (f : Nat → Nat) (hf : ∀ i x, ws'[i]? = some x → ws[f i]? = some x) (hi : ∀ i j, i < ws'.length → j < ws'.length → f i = f j → i = j) (h : va_D A ws) : va_D A ws' := ⟨fun i j p q h1 h2 e => hi i j (List.getElem?_eq_some_iff.mp h1).1 (List.getElem?_eq_some_iff.mp h2).1 (h.1 _ _ _ _ (hf i p h1) (hf j q h2) e), fun k q hq => h.2 (f k) q (hf k q hq)⟩
theorem xj_pi (a r w : va_W) : ∀ (i : Nat) (x : Nat × va_E), ((a ++ w) ++ r)[i]? = some x → ((a ++ r) ++ w)[if i < a.length then i else if i < a.length + w.length then i + r.length else i - w.length]? = some x := by
  intro i x hx
  by_cases h1 : i < a.length
  · rw [if_pos h1, List.getElem?_append_left (by rw [List.length_append]; omega), List.getElem?_append_left h1]
    rw [List.getElem?_append_left (by rw [List.length_append]; omega), List.getElem?_append_left h1] at hx
    exact hx
  · rw [if_neg h1]
    by_cases h2 : i < a.length + w.length
    · rw [if_pos h2, List.getElem?_append_right (by rw [List.length_append]; omega), List.length_append, show i + r.length - (a.length + r.length) = i - a.length by omega]
      rw [List.getElem?_append_left (by rw [List.length_append]; exact h2), List.getElem?_append_right (by omega)] at hx
      exact hx
    · have hl : i < ((a ++ w) ++ r).length := (List.getElem?_eq_some_iff.mp hx).1
      rw [List.length_append, List.length_append] at hl
      rw [if_neg h2, List.getElem?_append_left (by rw [List.length_append]; omega), List.getElem?_append_right (by omega), show i - w.length - a.length = i - (a.length + w.length) by omega]
      rw [List.getElem?_append_right (by rw [List.length_append]; omega), List.length_append] at hx
      exact hx
theorem xj_mvP {a r w : va_W} (h : va_P D cl ((a ++ r) ++ w) H) : va_P D cl ((a ++ w) ++ r) H := xj_re _ (xj_pi a r w) h
theorem xj_mvD {a r w : va_W} (h : va_D A ((a ++ r) ++ w)) : va_D A ((a ++ w) ++ r) := xj_reD _ (xj_pi a r w) (fun i j hi hj e => by
  rw [List.length_append, List.length_append] at hi hj
  by_cases a1 : i < a.length
  · rw [if_pos a1] at e
    by_cases b1 : j < a.length
    · rw [if_pos b1] at e; exact e
    · rw [if_neg b1] at e
      by_cases b2 : j < a.length + w.length
      · rw [if_pos b2] at e; omega
      · rw [if_neg b2] at e; omega
  · rw [if_neg a1] at e
    by_cases a2 : i < a.length + w.length
    · rw [if_pos a2] at e
      by_cases b1 : j < a.length
      · rw [if_pos b1] at e; omega
      · rw [if_neg b1] at e
        by_cases b2 : j < a.length + w.length
        · rw [if_pos b2] at e; omega
        · rw [if_neg b2] at e; omega
    · rw [if_neg a2] at e
      by_cases b1 : j < a.length
      · rw [if_pos b1] at e; omega
      · rw [if_neg b1] at e
        by_cases b2 : j < a.length + w.length
        · rw [if_pos b2] at e; omega
        · rw [if_neg b2] at e; omega) h
theorem xj_1 (wr : va_W) (c : Nat × va_E) : ∀ (i : Nat) (x : Nat × va_E), ([c] : va_W)[i]? = some x → (wr ++ [c])[wr.length]? = some x := by
  intro i x hx
  cases i with
  | zero => rw [List.getElem?_append_right (Nat.le_refl _), Nat.sub_self]; exact hx
  | succ i => cases hx
theorem xj_one {wr : va_W} {c : Nat × va_E} (h : va_P D cl (wr ++ [c]) H) : va_P D cl [c] H := xj_re (fun _ => wr.length) (xj_1 wr c) h
theorem xj_oneD {wr : va_W} {c : Nat × va_E} (h : va_D A (wr ++ [c])) : va_D A [c] := xj_reD (fun _ => wr.length) (xj_1 wr c) (fun i j hi hj _ => by rw [show ([c] : va_W).length = 1 from rfl] at hi hj; omega) h
theorem xj_c (wr : va_W) (c : Nat × va_E) : [wr.length].map (fun i => (wr ++ [c])[i]?) = ([c] : va_W).map some := by
  show [(wr ++ [c])[wr.length]?] = [some c]
  rw [List.getElem?_append_right (Nat.le_refl _), Nat.sub_self]
  rfl
theorem xj_fr {wr : va_W} {c : Nat × va_E} {locs : List Loc} (hD : va_D A (wr ++ [c])) (hS : va_S A H0 H locs) (hA : ∀ q, H0.size ≤ q → A q) : ∀ q, va_A [c] H.size q → A q := va_free hD hS hA [wr.length] (xj_c wr c)
theorem xj_nd : ∀ l : List Nat, l.Nodup → va_nd l = true := by
  intro l
  induction l with
  | nil => intro _; rfl
  | cons a t ih =>
    intro h
    rw [List.nodup_cons] at h
    unfold va_nd
    simp [h.1, ih h.2]
theorem xj_join {wr w1 : va_W} {c : Nat × va_E} (hP : va_P D cl (wr ++ [c]) H) (hD : va_D A (wr ++ [c])) (hk : ∀ q : Nat, q < H.size → ¬ va_A [c] H.size q → H1[q]? = H[q]?) (hF : ∀ q, va_A [c] H.size q → A q) (hP1 : va_P D cl w1 H1) (hD1 : va_D (va_A [c] H.size) w1) : va_P D cl (wr ++ w1) H1 ∧ va_D A (wr ++ w1) := by
  refine va_join hP hD [wr.length] (List.range wr.length) (xj_c wr c) ?_ (xj_nd _ List.nodup_range) (fun i hi => ?_) hk hF hP1 hD1
  · apply List.ext_getElem?
    intro i
    rw [List.getElem?_map, List.getElem?_map]
    by_cases h : i < wr.length
    · rw [List.getElem?_range h]
      show some ((wr ++ [c])[i]?) = _
      rw [List.getElem?_append_left h]
      cases hq : wr[i]? with
      | none => exact absurd (List.getElem?_eq_none_iff.mp hq) (by omega)
      | some x => rfl
    · rw [List.getElem?_eq_none (by rw [List.length_range]; omega), List.getElem?_eq_none (by omega)]
      rfl
  · rw [List.mem_range] at hi
    simp only [List.mem_singleton]
    omega
end
theorem df_X0 : ∀ j, j < 3 → defaultValue (tyX0 j) = vp_V [.null, .int 0, .int 0] j := fun j hj => by
  rcases (show j = 0 ∨ j = 1 ∨ j = 2 by omega) with rfl | rfl | rfl <;> rfl
theorem df_X1 : ∀ j, j < 5 → defaultValue (tyX1 j) = vp_V [.int 0, .int 0, .null, .null, .null] j := fun j hj => by
  rcases (show j = 0 ∨ j = 1 ∨ j = 2 ∨ j = 3 ∨ j = 4 by omega) with rfl | rfl | rfl | rfl | rfl <;> rfl
theorem df_X2 : ∀ j, j < 1 → defaultValue (tyX2 j) = vp_V [.null] j := fun j hj => by
  rcases (show j = 0 by omega) with rfl <;> rfl
theorem df_X3 : ∀ j, j < 3 → defaultValue (tyX3 j) = vp_V [.int 0, .int 0, .null] j := fun j hj => by
  rcases (show j = 0 ∨ j = 1 ∨ j = 2 by omega) with rfl | rfl | rfl <;> rfl
theorem df_X6 : ∀ j, j < 14 → defaultValue (tyX6 j) = vp_V [.int 0, .int 0, .int 0, .int 0, .int 0, .null, .null, .null, .null, .null, .null, .null, .null, .null] j := fun j hj => by
  rcases (show j = 0 ∨ j = 1 ∨ j = 2 ∨ j = 3 ∨ j = 4 ∨ j = 5 ∨ j = 6 ∨ j = 7 ∨ j = 8 ∨ j = 9 ∨ j = 10 ∨ j = 11 ∨ j = 12 ∨ j = 13 by omega) with rfl | rfl | rfl | rfl | rfl | rfl | rfl | rfl | rfl | rfl | rfl | rfl | rfl | rfl <;> rfl
theorem df_X7 : ∀ j, j < 3 → defaultValue (tyX7 j) = vp_V [.int 0, .int 0, .null] j := fun j hj => by
  rcases (show j = 0 ∨ j = 1 ∨ j = 2 by omega) with rfl | rfl | rfl <;> rfl
theorem df_X8 : ∀ j, j < 14 → defaultValue (tyX8 j) = vp_V [.null, .null, .null, .null, .null, .null, .null, .null, .null, .null, .int 0, .int 0, .long 0, .long 0] j := fun j hj => by
  rcases (show j = 0 ∨ j = 1 ∨ j = 2 ∨ j = 3 ∨ j = 4 ∨ j = 5 ∨ j = 6 ∨ j = 7 ∨ j = 8 ∨ j = 9 ∨ j = 10 ∨ j = 11 ∨ j = 12 ∨ j = 13 by omega) with rfl | rfl | rfl | rfl | rfl | rfl | rfl | rfl | rfl | rfl | rfl | rfl | rfl | rfl <;> rfl
theorem df_X9 : ∀ j, j < 21 → defaultValue (tyX9 j) = vp_V [.null, .null, .null, .null, .null, .null, .null, .null, .null, .int 0, .null, .null, .null, .int 0, .null, .int 0, .long 0, .long 0, .int 0, .int 0, .null] j := fun j hj => by
  rcases (show j = 0 ∨ j = 1 ∨ j = 2 ∨ j = 3 ∨ j = 4 ∨ j = 5 ∨ j = 6 ∨ j = 7 ∨ j = 8 ∨ j = 9 ∨ j = 10 ∨ j = 11 ∨ j = 12 ∨ j = 13 ∨ j = 14 ∨ j = 15 ∨ j = 16 ∨ j = 17 ∨ j = 18 ∨ j = 19 ∨ j = 20 by omega) with rfl | rfl | rfl | rfl | rfl | rfl | rfl | rfl | rfl | rfl | rfl | rfl | rfl | rfl | rfl | rfl | rfl | rfl | rfl | rfl | rfl <;> rfl
theorem df_X5 : ∀ j, j < 3 → defaultValue (tyX5 j) = vp_V [.null, .int 0, .int 0] j := fun j hj => by
  rcases (show j = 0 ∨ j = 1 ∨ j = 2 by omega) with rfl | rfl | rfl <;> rfl
def xN8 : List (String × Nat × MethodName × String) := [(RX8, 20, yX6_init, "CoatGoals"), (RX8, 34, yX1_init, "CoatGoals"), (RX8, 41, yX0_init, "CoatGoals"), (RX8, 48, yX2_init, "CoatGoals"), (RX8, 55, yX3_init, "CoatGoals")]
def xH8 (U : State) : Prop := (∀ q ∈ xN8, va_Nw (.methodLinkNest q.1 q.2.1 q.2.2.1 q.2.2.2) U) ∧ va_AO "CoatGoals$Strip" U ∧ va_AO "CoatGoals$Republic" U
theorem ddX8_init_0 : decode cX8_init 0 = .ok (.aload_n 0, 1) := by decide +kernel
theorem ddX8_init_1 : decode cX8_init 1 = .ok (.invokespecial 3, 3) := by decide +kernel
theorem ddX8_init_4 : decode cX8_init 4 = .ok (.aload_n 0, 1) := by decide +kernel
theorem ddX8_init_5 : decode cX8_init 5 = .ok (.bipush 6, 2) := by decide +kernel
theorem ddX8_init_7 : decode cX8_init 7 = .ok (.anewarray 9, 3) := by decide +kernel
theorem ddX8_init_10 : decode cX8_init 10 = .ok (.putfield 11, 3) := by decide +kernel
theorem ddX8_init_13 : decode cX8_init 13 = .ok (.aload_n 0, 1) := by decide +kernel
theorem ddX8_init_14 : decode cX8_init 14 = .ok (.iconst 4, 1) := by decide +kernel
theorem ddX8_init_15 : decode cX8_init 15 = .ok (.anewarray 9, 3) := by decide +kernel
theorem ddX8_init_18 : decode cX8_init 18 = .ok (.putfield 15, 3) := by decide +kernel
theorem ddX8_init_21 : decode cX8_init 21 = .ok (.aload_n 0, 1) := by decide +kernel
theorem ddX8_init_22 : decode cX8_init 22 = .ok (.new 18, 3) := by decide +kernel
theorem ddX8_init_25 : decode cX8_init 25 = .ok (.dup, 1) := by decide +kernel
theorem ddX8_init_26 : decode cX8_init 26 = .ok (.invokespecial 20, 3) := by decide +kernel
theorem ddX8_init_29 : decode cX8_init 29 = .ok (.putfield 21, 3) := by decide +kernel
theorem ddX8_init_32 : decode cX8_init 32 = .ok (.aload_n 0, 1) := by decide +kernel
theorem ddX8_init_33 : decode cX8_init 33 = .ok (.new 18, 3) := by decide +kernel
theorem ddX8_init_36 : decode cX8_init 36 = .ok (.dup, 1) := by decide +kernel
theorem ddX8_init_37 : decode cX8_init 37 = .ok (.invokespecial 20, 3) := by decide +kernel
theorem ddX8_init_40 : decode cX8_init 40 = .ok (.putfield 25, 3) := by decide +kernel
theorem ddX8_init_43 : decode cX8_init 43 = .ok (.aload_n 0, 1) := by decide +kernel
theorem ddX8_init_44 : decode cX8_init 44 = .ok (.iconst 3, 1) := by decide +kernel
theorem ddX8_init_45 : decode cX8_init 45 = .ok (.anewarray 18, 3) := by decide +kernel
theorem ddX8_init_48 : decode cX8_init 48 = .ok (.putfield 28, 3) := by decide +kernel
theorem ddX8_init_51 : decode cX8_init 51 = .ok (.aload_n 0, 1) := by decide +kernel
theorem ddX8_init_52 : decode cX8_init 52 = .ok (.new 32, 3) := by decide +kernel
theorem ddX8_init_55 : decode cX8_init 55 = .ok (.dup, 1) := by decide +kernel
theorem ddX8_init_56 : decode cX8_init 56 = .ok (.invokespecial 34, 3) := by decide +kernel
theorem ddX8_init_59 : decode cX8_init 59 = .ok (.putfield 35, 3) := by decide +kernel
theorem ddX8_init_62 : decode cX8_init 62 = .ok (.aload_n 0, 1) := by decide +kernel
theorem ddX8_init_63 : decode cX8_init 63 = .ok (.new 39, 3) := by decide +kernel
theorem ddX8_init_66 : decode cX8_init 66 = .ok (.dup, 1) := by decide +kernel
theorem ddX8_init_67 : decode cX8_init 67 = .ok (.invokespecial 41, 3) := by decide +kernel
theorem ddX8_init_70 : decode cX8_init 70 = .ok (.putfield 42, 3) := by decide +kernel
theorem ddX8_init_73 : decode cX8_init 73 = .ok (.aload_n 0, 1) := by decide +kernel
theorem ddX8_init_74 : decode cX8_init 74 = .ok (.new 46, 3) := by decide +kernel
theorem ddX8_init_77 : decode cX8_init 77 = .ok (.dup, 1) := by decide +kernel
theorem ddX8_init_78 : decode cX8_init 78 = .ok (.invokespecial 48, 3) := by decide +kernel
theorem ddX8_init_81 : decode cX8_init 81 = .ok (.putfield 49, 3) := by decide +kernel
theorem ddX8_init_84 : decode cX8_init 84 = .ok (.aload_n 0, 1) := by decide +kernel
theorem ddX8_init_85 : decode cX8_init 85 = .ok (.new 53, 3) := by decide +kernel
theorem ddX8_init_88 : decode cX8_init 88 = .ok (.dup, 1) := by decide +kernel
theorem ddX8_init_89 : decode cX8_init 89 = .ok (.invokespecial 55, 3) := by decide +kernel
theorem ddX8_init_92 : decode cX8_init 92 = .ok (.putfield 56, 3) := by decide +kernel
theorem ddX8_init_95 : decode cX8_init 95 = .ok (.aload_n 0, 1) := by decide +kernel
theorem ddX8_init_96 : decode cX8_init 96 = .ok (.bipush 6, 2) := by decide +kernel
theorem ddX8_init_98 : decode cX8_init 98 = .ok (.newarray .int, 2) := by decide +kernel
theorem ddX8_init_100 : decode cX8_init 100 = .ok (.putfield 60, 3) := by decide +kernel
theorem ddX8_init_103 : decode cX8_init 103 = .ok (.aload_n 0, 1) := by decide +kernel
theorem ddX8_init_104 : decode cX8_init 104 = .ok (.lconst 1, 1) := by decide +kernel
theorem ddX8_init_105 : decode cX8_init 105 = .ok (.putfield 64, 3) := by decide +kernel
theorem ddX8_init_108 : decode cX8_init 108 = .ok (.iconst 0, 1) := by decide +kernel
theorem ddX8_init_109 : decode cX8_init 109 = .ok (.istore_n 1, 1) := by decide +kernel
theorem ddX8_init_110 : decode cX8_init 110 = .ok (.iload_n 1, 1) := by decide +kernel
theorem ddX8_init_111 : decode cX8_init 111 = .ok (.bipush 6, 2) := by decide +kernel
theorem ddX8_init_113 : decode cX8_init 113 = .ok (.if_icmp .ge 24, 3) := by decide +kernel
theorem ddX8_init_116 : decode cX8_init 116 = .ok (.aload_n 0, 1) := by decide +kernel
theorem ddX8_init_117 : decode cX8_init 117 = .ok (.getfield 11, 3) := by decide +kernel
theorem ddX8_init_120 : decode cX8_init 120 = .ok (.iload_n 1, 1) := by decide +kernel
theorem ddX8_init_121 : decode cX8_init 121 = .ok (.new 9, 3) := by decide +kernel
theorem ddX8_init_124 : decode cX8_init 124 = .ok (.dup, 1) := by decide +kernel
theorem ddX8_init_125 : decode cX8_init 125 = .ok (.bipush 40, 2) := by decide +kernel
theorem ddX8_init_127 : decode cX8_init 127 = .ok (.invokespecial 68, 3) := by decide +kernel
theorem ddX8_init_130 : decode cX8_init 130 = .ok (.aastore, 1) := by decide +kernel
theorem ddX8_init_131 : decode cX8_init 131 = .ok (.iinc 1 1, 3) := by decide +kernel
theorem ddX8_init_134 : decode cX8_init 134 = .ok (.goto (-24), 3) := by decide +kernel
theorem ddX8_init_137 : decode cX8_init 137 = .ok (.iconst 0, 1) := by decide +kernel
theorem ddX8_init_138 : decode cX8_init 138 = .ok (.istore_n 1, 1) := by decide +kernel
theorem ddX8_init_139 : decode cX8_init 139 = .ok (.iload_n 1, 1) := by decide +kernel
theorem ddX8_init_140 : decode cX8_init 140 = .ok (.iconst 4, 1) := by decide +kernel
theorem ddX8_init_141 : decode cX8_init 141 = .ok (.if_icmp .ge 24, 3) := by decide +kernel
theorem ddX8_init_144 : decode cX8_init 144 = .ok (.aload_n 0, 1) := by decide +kernel
theorem ddX8_init_145 : decode cX8_init 145 = .ok (.getfield 15, 3) := by decide +kernel
theorem ddX8_init_148 : decode cX8_init 148 = .ok (.iload_n 1, 1) := by decide +kernel
theorem ddX8_init_149 : decode cX8_init 149 = .ok (.new 9, 3) := by decide +kernel
theorem ddX8_init_152 : decode cX8_init 152 = .ok (.dup, 1) := by decide +kernel
theorem ddX8_init_153 : decode cX8_init 153 = .ok (.bipush 60, 2) := by decide +kernel
theorem ddX8_init_155 : decode cX8_init 155 = .ok (.invokespecial 68, 3) := by decide +kernel
theorem ddX8_init_158 : decode cX8_init 158 = .ok (.aastore, 1) := by decide +kernel
theorem ddX8_init_159 : decode cX8_init 159 = .ok (.iinc 1 1, 3) := by decide +kernel
theorem ddX8_init_162 : decode cX8_init 162 = .ok (.goto (-23), 3) := by decide +kernel
theorem ddX8_init_165 : decode cX8_init 165 = .ok (.iconst 0, 1) := by decide +kernel
theorem ddX8_init_166 : decode cX8_init 166 = .ok (.istore_n 1, 1) := by decide +kernel
theorem ddX8_init_167 : decode cX8_init 167 = .ok (.iload_n 1, 1) := by decide +kernel
theorem ddX8_init_168 : decode cX8_init 168 = .ok (.iconst 3, 1) := by decide +kernel
theorem ddX8_init_169 : decode cX8_init 169 = .ok (.if_icmp .ge 22, 3) := by decide +kernel
theorem ddX8_init_172 : decode cX8_init 172 = .ok (.aload_n 0, 1) := by decide +kernel
theorem ddX8_init_173 : decode cX8_init 173 = .ok (.getfield 28, 3) := by decide +kernel
theorem ddX8_init_176 : decode cX8_init 176 = .ok (.iload_n 1, 1) := by decide +kernel
theorem ddX8_init_177 : decode cX8_init 177 = .ok (.new 18, 3) := by decide +kernel
theorem ddX8_init_180 : decode cX8_init 180 = .ok (.dup, 1) := by decide +kernel
theorem ddX8_init_181 : decode cX8_init 181 = .ok (.invokespecial 20, 3) := by decide +kernel
theorem ddX8_init_184 : decode cX8_init 184 = .ok (.aastore, 1) := by decide +kernel
theorem ddX8_init_185 : decode cX8_init 185 = .ok (.iinc 1 1, 3) := by decide +kernel
theorem ddX8_init_188 : decode cX8_init 188 = .ok (.goto (-21), 3) := by decide +kernel
theorem ddX8_init_191 : decode cX8_init 191 = .ok (.return_, 1) := by decide +kernel
abbrev wX8 (cI cS cR : ClassId) (h0 : Nat) (q : Nat → Nat) : va_W := [(h0, .inr (7, [.ref (q 1), .ref (q 2), .ref (q 50), .ref (q 60), .ref (q 3), .ref (q 5), .ref (q 9), .ref (q 11), .ref (q 13), .ref (q 4), .int 0, .int 0, .long 0, .long 1])), (q 1, .inl (cS, 6, .inr (.inr (.inr (.inr (va_up (va_up (va_up (va_up (va_up (va_up (fun _ => none) 0 (some (q 30))) 1 (some (q 31))) 2 (some (q 32))) 3 (some (q 33))) 4 (some (q 34))) 5 (some (q 35)))))))), (q 2, .inl (cS, 4, .inr (.inr (.inr (.inr (va_up (va_up (va_up (va_up (fun _ => none) 0 (some (q 36))) 1 (some (q 37))) 2 (some (q 38))) 3 (some (q 39)))))))), (q 3, .inl (cR, 3, .inr (.inr (.inr (.inr (va_up (va_up (va_up (fun _ => none) 0 (some (q 70))) 1 (some (q 80))) 2 (some (q 90)))))))), (q 4, .inl (cI, 6, .inl (fun _ => 0))), (q 5, .inr (1, [.int 0, .int 0, .ref (q 6), .ref (q 7), .ref (q 8)])), (q 6, .inl (cI, 6, .inl (fun _ => 0))), (q 7, .inl (cI, 6, .inl (fun _ => 0))), (q 8, .inl (cI, 2, .inl (fun _ => 0))), (q 9, .inr (0, [.ref (q 10), .int 0, .int 0])), (q 10, .inl (cI, 98, .inl (fun _ => 0))), (q 11, .inr (2, [.ref (q 12)])), (q 12, .inl (cI, 4, .inl (fun _ => 0))), (q 13, .inr (3, [.int 0, .int 0, .ref (q 14)])), (q 14, .inl (cI, 21, .inl (fun _ => 0))), (q 30, .inr (6, [.int 0, .int 0, .ref (q 40)])), (q 31, .inr (6, [.int 0, .int 0, .ref (q 41)])), (q 32, .inr (6, [.int 0, .int 0, .ref (q 42)])), (q 33, .inr (6, [.int 0, .int 0, .ref (q 43)])), (q 34, .inr (6, [.int 0, .int 0, .ref (q 44)])), (q 35, .inr (6, [.int 0, .int 0, .ref (q 45)])), (q 36, .inr (6, [.int 0, .int 0, .ref (q 46)])), (q 37, .inr (6, [.int 0, .int 0, .ref (q 47)])), (q 38, .inr (6, [.int 0, .int 0, .ref (q 48)])), (q 39, .inr (6, [.int 0, .int 0, .ref (q 49)])), (q 40, .inl (cI, 40, .inl (fun _ => 0))), (q 41, .inl (cI, 40, .inl (fun _ => 0))), (q 42, .inl (cI, 40, .inl (fun _ => 0))), (q 43, .inl (cI, 40, .inl (fun _ => 0))), (q 44, .inl (cI, 40, .inl (fun _ => 0))), (q 45, .inl (cI, 40, .inl (fun _ => 0))), (q 46, .inl (cI, 60, .inl (fun _ => 0))), (q 47, .inl (cI, 60, .inl (fun _ => 0))), (q 48, .inl (cI, 60, .inl (fun _ => 0))), (q 49, .inl (cI, 60, .inl (fun _ => 0))), (q 50, .inr (5, [.int 0, .int 0, .int 0, .int 0, .int 0, .ref (q 51), .ref (q 52), .ref (q 53), .ref (q 54), .ref (q 55), .ref (q 56), .ref (q 57), .ref (q 58), .ref (q 59)])), (q 51, .inl (cI, 4, .inl (fun _ => 0))), (q 52, .inl (cI, 2, .inl (fun _ => 0))), (q 53, .inl (cI, 6, .inl (fun _ => 0))), (q 54, .inl (cI, 6, .inl (fun _ => 0))), (q 55, .inl (cI, 6, .inl (fun _ => 0))), (q 56, .inl (cI, 6, .inl (fun _ => 0))), (q 57, .inl (cI, 40, .inl (fun _ => 0))), (q 58, .inl (cI, 40, .inl (fun _ => 0))), (q 59, .inl (cI, 40, .inl (fun _ => 0))), (q 60, .inr (5, [.int 0, .int 0, .int 0, .int 0, .int 0, .ref (q 61), .ref (q 62), .ref (q 63), .ref (q 64), .ref (q 65), .ref (q 66), .ref (q 67), .ref (q 68), .ref (q 69)])), (q 61, .inl (cI, 4, .inl (fun _ => 0))), (q 62, .inl (cI, 2, .inl (fun _ => 0))), (q 63, .inl (cI, 6, .inl (fun _ => 0))), (q 64, .inl (cI, 6, .inl (fun _ => 0))), (q 65, .inl (cI, 6, .inl (fun _ => 0))), (q 66, .inl (cI, 6, .inl (fun _ => 0))), (q 67, .inl (cI, 40, .inl (fun _ => 0))), (q 68, .inl (cI, 40, .inl (fun _ => 0))), (q 69, .inl (cI, 40, .inl (fun _ => 0))), (q 70, .inr (5, [.int 0, .int 0, .int 0, .int 0, .int 0, .ref (q 71), .ref (q 72), .ref (q 73), .ref (q 74), .ref (q 75), .ref (q 76), .ref (q 77), .ref (q 78), .ref (q 79)])), (q 71, .inl (cI, 4, .inl (fun _ => 0))), (q 72, .inl (cI, 2, .inl (fun _ => 0))), (q 73, .inl (cI, 6, .inl (fun _ => 0))), (q 74, .inl (cI, 6, .inl (fun _ => 0))), (q 75, .inl (cI, 6, .inl (fun _ => 0))), (q 76, .inl (cI, 6, .inl (fun _ => 0))), (q 77, .inl (cI, 40, .inl (fun _ => 0))), (q 78, .inl (cI, 40, .inl (fun _ => 0))), (q 79, .inl (cI, 40, .inl (fun _ => 0))), (q 80, .inr (5, [.int 0, .int 0, .int 0, .int 0, .int 0, .ref (q 81), .ref (q 82), .ref (q 83), .ref (q 84), .ref (q 85), .ref (q 86), .ref (q 87), .ref (q 88), .ref (q 89)])), (q 81, .inl (cI, 4, .inl (fun _ => 0))), (q 82, .inl (cI, 2, .inl (fun _ => 0))), (q 83, .inl (cI, 6, .inl (fun _ => 0))), (q 84, .inl (cI, 6, .inl (fun _ => 0))), (q 85, .inl (cI, 6, .inl (fun _ => 0))), (q 86, .inl (cI, 6, .inl (fun _ => 0))), (q 87, .inl (cI, 40, .inl (fun _ => 0))), (q 88, .inl (cI, 40, .inl (fun _ => 0))), (q 89, .inl (cI, 40, .inl (fun _ => 0))), (q 90, .inr (5, [.int 0, .int 0, .int 0, .int 0, .int 0, .ref (q 91), .ref (q 92), .ref (q 93), .ref (q 94), .ref (q 95), .ref (q 96), .ref (q 97), .ref (q 98), .ref (q 99)])), (q 91, .inl (cI, 4, .inl (fun _ => 0))), (q 92, .inl (cI, 2, .inl (fun _ => 0))), (q 93, .inl (cI, 6, .inl (fun _ => 0))), (q 94, .inl (cI, 6, .inl (fun _ => 0))), (q 95, .inl (cI, 6, .inl (fun _ => 0))), (q 96, .inl (cI, 6, .inl (fun _ => 0))), (q 97, .inl (cI, 40, .inl (fun _ => 0))), (q 98, .inl (cI, 40, .inl (fun _ => 0))), (q 99, .inl (cI, 40, .inl (fun _ => 0)))]
set_option maxHeartbeats 40000000 in
set_option maxRecDepth 1000000 in
theorem ci_X8 (l : Launch) (D : va_G) (h0 sz : Nat) : Met l yX8_init (.code yX8_init cX8_init 2 none :: xTs) ({ frames := 3, cells := 84, slots := 1498, locals := 100 }) (va_Pc [.ref h0] (fun U => U.heap.size = sz ∧ va_P D vwCl [(h0, .inr (7, [.null, .null, .null, .null, .null, .null, .null, .null, .null, .null, .int 0, .int 0, .long 0, .long 0]))] U.heap ∧ va_K D vwCl [] U ∧ va_D (fun _ => True) [(h0, .inr (7, [.null, .null, .null, .null, .null, .null, .null, .null, .null, .null, .int 0, .int 0, .long 0, .long 0]))] ∧ xH8 U)) (va_Qv (fun _ : (ClassId × ClassId × ClassId) × (Nat → Nat) => True) (fun u t => va_P D vwCl (wX8 u.1.1 u.1.2.1 u.1.2.2 h0 u.2) t.heap ∧ va_K D vwCl [(u.1.1, .int), (u.1.2.1, .object "CoatGoals$Strip"), (u.1.2.2, .object "CoatGoals$Republic")] t ∧ va_D (va_A [(h0, .inr (7, [.null, .null, .null, .null, .null, .null, .null, .null, .null, .null, .int 0, .int 0, .long 0, .long 0]))] sz) (wX8 u.1.1 u.1.2.1 u.1.2.2 h0 u.2)) (va_A [(h0, .inr (7, [.null, .null, .null, .null, .null, .null, .null, .null, .null, .null, .int 0, .int 0, .long 0, .long 0]))] sz)) 84 1498 (va_A [(h0, .inr (7, [.null, .null, .null, .null, .null, .null, .null, .null, .null, .null, .int 0, .int 0, .long 0, .long 0]))] sz) := by
  refine Met.ofW (cc := cX8_init) (maxL := 2) (ret := none) (by decide) rfl ?_
  intro p e s m args below meth c s₁ B hml hv
  obtain ⟨rfl, hsz, hP, hK, hD0, hH⟩ := hv
  have hx := B.exec
  have hb := B.bytes
  have hr := B.returns
  have hts0 := atoms_spec (ws := .code yX8_init cX8_init 2 none :: xTs) B.pre
  have hts : ∀ w ∈ xTs, w.before _ s = true := fun w hw => hts0 w (List.mem_cons_of_mem _ hw)
  have hown : s.vm.findClass RX8 = some m.cls := findClass_of_methodNamed B.named
  have hlocks := B.notSynchronized
  have hin : meth.name = "<init>" := (name_of_methodNamed B.named B.method).1
  subst hsz
  have hD := hD0.self (sz := s.heap.size)
  generalize hAe : va_A [(h0, .inr (7, [.null, .null, .null, .null, .null, .null, .null, .null, .null, .null, .int 0, .int 0, .long 0, .long 0]))] s.heap.size = A at hD ⊢
  have hA : ∀ q : Nat, s.heap.size ≤ q → A q := fun q h => by rw [← hAe]; exact Or.inr h
  have hS : va_S A s.heap s.heap [] := va_S.rf
  have hP : va_P D vwCl [(h0, .inr (7, [.null, .null, .null, .null, .null, .null, .null, .null, .null, .null, .int 0, .int 0, .long 0, .long 0]))] s.heap := hP
  have hl := lv_entry ([.ref h0]) (n := 2) (Nat.le_of_ble_eq_true rfl)
  rw [lg_entry_eq]
  generalize (lg_sl ([.ref h0]) ++ List.replicate (2 - (lg_sl ([.ref h0])).length) Slot.unset).toArray = ls at hl ⊢
  have hl : lv_has ls 2 [(0, .ref h0)] := hl
  obtain ⟨r0, er0⟩ : ∃ z : va_W, z = [] := ⟨_, rfl⟩
  have hP : va_P D vwCl ([(h0, .inr (7, [.null, .null, .null, .null, .null, .null, .null, .null, .null, .null, .int 0, .int 0, .long 0, .long 0]))] ++ r0) s.heap := by rw [er0]; exact hP
  have hD : va_D A ([(h0, .inr (7, [.null, .null, .null, .null, .null, .null, .null, .null, .null, .null, .int 0, .int 0, .long 0, .long 0]))] ++ r0) := by rw [er0]; exact hD
  refine lv_aload_n hx hb ddX8_init_0 rfl (lv_at hl 0 rfl) ?_
  refine W.objInit hx hb hown (hts _ (xw_in 72 (by decide +kernel) rfl)) (hts _ (xw_in 73 (by decide +kernel) rfl)) (hts _ (xw_in 74 (by decide +kernel) rfl)) rfl (by rw [hml]; exact hl.1) rfl ddX8_init_1 (Nat.le_of_ble_eq_true rfl) (Nat.le_of_ble_eq_true rfl) ?_
  refine W.eq (g2 := F0 m 4 ls []) rfl ?_
  refine lv_aload_n hx hb ddX8_init_4 rfl (lv_at hl 0 rfl) ?_
  refine lv_bipush (v := 6) hx hb ddX8_init_5 (by decide) ?_
  refine va_newq (N' := 6) hx hb hown (hts _ (xw_in 75 (by decide +kernel) rfl)) hH.2.1 hK hP hD hS hA (by decide) (by decide) (by decide) (Nat.le_of_ble_eq_true rfl) (Nat.le_of_ble_eq_true rfl) ddX8_init_7 (fun a1 cA H hK hP hD hS => ?_)
  obtain ⟨cS, rfl⟩ : ∃ z, z = cA := ⟨_, rfl⟩
  have hK : va_K D vwCl [(cS, .object "CoatGoals$Strip")] s := hK
  have hP := xj_mvP hP
  have hD := xj_mvD hD
  have hP : va_P D vwCl ([(h0, .inr (7, [.null, .null, .null, .null, .null, .null, .null, .null, .null, .null, .int 0, .int 0, .long 0, .long 0])), (a1, .inl (cS, 6, .inr (.inr (.inr (.inr (fun _ => none))))))] ++ r0) H := hP
  have hD : va_D A ([(h0, .inr (7, [.null, .null, .null, .null, .null, .null, .null, .null, .null, .null, .int 0, .int 0, .long 0, .long 0])), (a1, .inl (cS, 6, .inr (.inr (.inr (.inr (fun _ => none))))))] ++ r0) := hD
  refine W.widen (k := 1) (n := 6) (by omega) (by omega) ?_
  refine va_putF (D := D) (ci := 7) (v := .ref a1) (ty := .array (.object "CoatGoals$Strip")) (C := RX8) (T := TX8) (N := 14) hx hb hts xin_X8 tyX8 tyX8_ok nmX8 hown hK hP hD hS 0 rfl rfl 0 (by decide) (hts _ (xw_in 238 (by decide +kernel) rfl)) (fun _ h9 => h9) rfl hin rfl (by decide +kernel) rfl rfl (Nat.le_of_ble_eq_true rfl) ddX8_init_10 (fun H locs hP hD hS => ?_)
  have hP : va_P D vwCl ([(h0, .inr (7, [.ref a1, .null, .null, .null, .null, .null, .null, .null, .null, .null, .int 0, .int 0, .long 0, .long 0])), (a1, .inl (cS, 6, .inr (.inr (.inr (.inr (fun _ => none))))))] ++ r0) H := hP
  have hD : va_D A ([(h0, .inr (7, [.ref a1, .null, .null, .null, .null, .null, .null, .null, .null, .null, .int 0, .int 0, .long 0, .long 0])), (a1, .inl (cS, 6, .inr (.inr (.inr (.inr (fun _ => none))))))] ++ r0) := hD
  refine lv_aload_n hx hb ddX8_init_13 rfl (lv_at hl 0 rfl) ?_
  refine lv_iconst (v := 4) hx hb ddX8_init_14 (by decide) ?_
  refine va_newq (N' := 4) hx hb hown (hts _ (xw_in 75 (by decide +kernel) rfl)) hH.2.1 hK hP hD hS hA (by decide) (by decide) (by decide) (Nat.le_of_ble_eq_true rfl) (Nat.le_of_ble_eq_true rfl) ddX8_init_15 (fun a2 cA H hK hP hD hS => ?_)
  obtain rfl : cS = cA := xk_obj hK (i := 0) (j := 1) rfl rfl
  have hK : va_K D vwCl [(cS, .object "CoatGoals$Strip")] s := hK.sub (tys' := [(cS, .object "CoatGoals$Strip")]) [0] rfl
  have hP := xj_mvP hP
  have hD := xj_mvD hD
  have hP : va_P D vwCl ([(h0, .inr (7, [.ref a1, .null, .null, .null, .null, .null, .null, .null, .null, .null, .int 0, .int 0, .long 0, .long 0])), (a1, .inl (cS, 6, .inr (.inr (.inr (.inr (fun _ => none)))))), (a2, .inl (cS, 4, .inr (.inr (.inr (.inr (fun _ => none))))))] ++ r0) H := hP
  have hD : va_D A ([(h0, .inr (7, [.ref a1, .null, .null, .null, .null, .null, .null, .null, .null, .null, .int 0, .int 0, .long 0, .long 0])), (a1, .inl (cS, 6, .inr (.inr (.inr (.inr (fun _ => none)))))), (a2, .inl (cS, 4, .inr (.inr (.inr (.inr (fun _ => none))))))] ++ r0) := hD
  refine W.widen (k := 2) (n := 10) (by omega) (by omega) ?_
  refine va_putF (D := D) (ci := 7) (v := .ref a2) (ty := .array (.object "CoatGoals$Strip")) (C := RX8) (T := TX8) (N := 14) hx hb hts xin_X8 tyX8 tyX8_ok nmX8 hown hK hP hD hS 0 rfl rfl 1 (by decide) (hts _ (xw_in 239 (by decide +kernel) rfl)) (fun _ h9 => h9) rfl hin rfl (by decide +kernel) rfl rfl (Nat.le_of_ble_eq_true rfl) ddX8_init_18 (fun H locs hP hD hS => ?_)
  have hP : va_P D vwCl ([(h0, .inr (7, [.ref a1, .ref a2, .null, .null, .null, .null, .null, .null, .null, .null, .int 0, .int 0, .long 0, .long 0])), (a1, .inl (cS, 6, .inr (.inr (.inr (.inr (fun _ => none)))))), (a2, .inl (cS, 4, .inr (.inr (.inr (.inr (fun _ => none))))))] ++ r0) H := hP
  have hD : va_D A ([(h0, .inr (7, [.ref a1, .ref a2, .null, .null, .null, .null, .null, .null, .null, .null, .int 0, .int 0, .long 0, .long 0])), (a1, .inl (cS, 6, .inr (.inr (.inr (.inr (fun _ => none)))))), (a2, .inl (cS, 4, .inr (.inr (.inr (.inr (fun _ => none))))))] ++ r0) := hD
  refine lv_aload_n hx hb ddX8_init_21 rfl (lv_at hl 0 rfl) ?_
  refine va_new (ci := 5) (fs := [.int 0, .int 0, .int 0, .int 0, .int 0, .null, .null, .null, .null, .null, .null, .null, .null, .null]) (C := RX6) (T := TX6) (N := 14) hx hb hts xin_X6 tyX6 tyX6_ok hown (hts _ (xw_in 77 (by decide +kernel) rfl)) (hts _ (xw_in 78 (by decide +kernel) rfl)) (hts _ (xw_in 54 (by decide +kernel) rfl)) hK hP hD hS hA rfl df_X6 (Nat.le_of_ble_eq_true rfl) (Nat.le_of_ble_eq_true rfl) ddX8_init_22 (fun a3 H hP hD hS => ?_)
  have hP : va_P D vwCl (([(h0, .inr (7, [.ref a1, .ref a2, .null, .null, .null, .null, .null, .null, .null, .null, .int 0, .int 0, .long 0, .long 0])), (a1, .inl (cS, 6, .inr (.inr (.inr (.inr (fun _ => none)))))), (a2, .inl (cS, 4, .inr (.inr (.inr (.inr (fun _ => none))))))] ++ r0) ++ [(a3, .inr (5, [.int 0, .int 0, .int 0, .int 0, .int 0, .null, .null, .null, .null, .null, .null, .null, .null, .null]))]) H := hP
  have hD : va_D A (([(h0, .inr (7, [.ref a1, .ref a2, .null, .null, .null, .null, .null, .null, .null, .null, .int 0, .int 0, .long 0, .long 0])), (a1, .inl (cS, 6, .inr (.inr (.inr (.inr (fun _ => none)))))), (a2, .inl (cS, 4, .inr (.inr (.inr (.inr (fun _ => none))))))] ++ r0) ++ [(a3, .inr (5, [.int 0, .int 0, .int 0, .int 0, .int 0, .null, .null, .null, .null, .null, .null, .null, .null, .null]))]) := hD
  refine W.widen (k := 3) (n := 24) (by omega) (by omega) ?_
  refine lv_dup hx hb ddX8_init_25 rfl ?_
  have hPc := xj_one hP
  have hDc := xj_oneD hD
  have hKc := hK.sub (tys' := []) [] rfl
  have hFc := xj_fr hD hS hA
  refine va_callv (va_runIN (As := []) (rest := [.ref a3, .ref h0]) ⟨hx, hb, hml, hown, hts⟩ (ci_X6 l D a3 H.size) ⟨va_cnB (host := "CoatGoals") 0 hts (xi_good xw_good (xw_in 81 (by decide +kernel) rfl)) rfl rfl rfl (hH.1 _ (List.mem_of_getElem? (i := 0) rfl)) (hts _ (xw_in 54 (by decide +kernel) rfl)) (by decide +kernel) ⟨Nat.le_of_ble_eq_true rfl, Nat.le_of_ble_eq_true rfl⟩, rfl, (hts _ (xw_in 80 (by decide +kernel) rfl))⟩ ⟨fun a U g mk q => by obtain ⟨q0, q1, qP, qK, qD⟩ := q; exact ⟨q0, q1, qP, va_K.moved (u := U) (U := U.calling g mk a) (Vm.Alike.refl U.vm) qK, qD⟩, fun U hU hW => ⟨rfl, by rw [hU], by rw [hU]; exact hPc, va_K.moved hW.alike hKc, hDc.weaken (fun _ _ _ _ => trivial)⟩⟩ rfl rfl hl.1 rfl (lv_room (Nat.le_of_ble_eq_true rfl)) ddX8_init_26 ⟨Nat.le_of_ble_eq_true rfl, Nat.le_of_ble_eq_true rfl⟩) hS (fun q _ h => hFc q h) hFc (fun u3p t H1 locs ht hvm hw hB hz1 hk1 hS => ?_)
  obtain ⟨cA, u3⟩ := u3p
  obtain ⟨hP1, hK1, hD1⟩ := hB
  rw [ht] at hP1
  have hK1 := va_K.moved hvm.symm hK1
  obtain ⟨hP, hD⟩ := xj_join hP hD hk1 hFc hP1 hD1
  have hK := hK.app hK1
  generalize H1 = H at hP hS ⊢
  obtain ⟨cI, rfl⟩ : ∃ z, z = cA := ⟨_, rfl⟩
  have hK : va_K D vwCl [(cS, .object "CoatGoals$Strip"), (cI, .int)] s := hK
  have hP : va_P D vwCl (([(h0, .inr (7, [.ref a1, .ref a2, .null, .null, .null, .null, .null, .null, .null, .null, .int 0, .int 0, .long 0, .long 0])), (a1, .inl (cS, 6, .inr (.inr (.inr (.inr (fun _ => none)))))), (a2, .inl (cS, 4, .inr (.inr (.inr (.inr (fun _ => none))))))] ++ r0) ++ wX6 cI a3 u3) H := hP
  have hD : va_D A (([(h0, .inr (7, [.ref a1, .ref a2, .null, .null, .null, .null, .null, .null, .null, .null, .int 0, .int 0, .long 0, .long 0])), (a1, .inl (cS, 6, .inr (.inr (.inr (.inr (fun _ => none)))))), (a2, .inl (cS, 4, .inr (.inr (.inr (.inr (fun _ => none))))))] ++ r0) ++ wX6 cI a3 u3) := hD
  refine W.widen (k := 12) (n := 174) (by omega) (by omega) ?_
  rw [List.append_assoc] at hP hD
  obtain ⟨r1, er1⟩ : ∃ z, z = r0 ++ wX6 cI a3 u3 := ⟨_, rfl⟩
  rw [← er1] at hP hD
  have hP : va_P D vwCl ([(h0, .inr (7, [.ref a1, .ref a2, .null, .null, .null, .null, .null, .null, .null, .null, .int 0, .int 0, .long 0, .long 0])), (a1, .inl (cS, 6, .inr (.inr (.inr (.inr (fun _ => none)))))), (a2, .inl (cS, 4, .inr (.inr (.inr (.inr (fun _ => none))))))] ++ r1) H := hP
  have hD : va_D A ([(h0, .inr (7, [.ref a1, .ref a2, .null, .null, .null, .null, .null, .null, .null, .null, .int 0, .int 0, .long 0, .long 0])), (a1, .inl (cS, 6, .inr (.inr (.inr (.inr (fun _ => none)))))), (a2, .inl (cS, 4, .inr (.inr (.inr (.inr (fun _ => none))))))] ++ r1) := hD
  refine va_putF (D := D) (ci := 7) (v := .ref a3) (ty := .object "CoatGoals$Republic") (C := RX8) (T := TX8) (N := 14) hx hb hts xin_X8 tyX8 tyX8_ok nmX8 hown hK hP hD hS 0 rfl rfl 2 (by decide) (hts _ (xw_in 240 (by decide +kernel) rfl)) (fun _ h9 => h9) rfl hin rfl (by decide +kernel) rfl rfl (Nat.le_of_ble_eq_true rfl) ddX8_init_29 (fun H locs hP hD hS => ?_)
  have hP : va_P D vwCl ([(h0, .inr (7, [.ref a1, .ref a2, .ref a3, .null, .null, .null, .null, .null, .null, .null, .int 0, .int 0, .long 0, .long 0])), (a1, .inl (cS, 6, .inr (.inr (.inr (.inr (fun _ => none)))))), (a2, .inl (cS, 4, .inr (.inr (.inr (.inr (fun _ => none))))))] ++ r1) H := hP
  have hD : va_D A ([(h0, .inr (7, [.ref a1, .ref a2, .ref a3, .null, .null, .null, .null, .null, .null, .null, .int 0, .int 0, .long 0, .long 0])), (a1, .inl (cS, 6, .inr (.inr (.inr (.inr (fun _ => none)))))), (a2, .inl (cS, 4, .inr (.inr (.inr (.inr (fun _ => none))))))] ++ r1) := hD
  refine lv_aload_n hx hb ddX8_init_32 rfl (lv_at hl 0 rfl) ?_
  refine va_new (ci := 5) (fs := [.int 0, .int 0, .int 0, .int 0, .int 0, .null, .null, .null, .null, .null, .null, .null, .null, .null]) (C := RX6) (T := TX6) (N := 14) hx hb hts xin_X6 tyX6 tyX6_ok hown (hts _ (xw_in 77 (by decide +kernel) rfl)) (hts _ (xw_in 78 (by decide +kernel) rfl)) (hts _ (xw_in 54 (by decide +kernel) rfl)) hK hP hD hS hA rfl df_X6 (Nat.le_of_ble_eq_true rfl) (Nat.le_of_ble_eq_true rfl) ddX8_init_33 (fun a4 H hP hD hS => ?_)
  have hP : va_P D vwCl (([(h0, .inr (7, [.ref a1, .ref a2, .ref a3, .null, .null, .null, .null, .null, .null, .null, .int 0, .int 0, .long 0, .long 0])), (a1, .inl (cS, 6, .inr (.inr (.inr (.inr (fun _ => none)))))), (a2, .inl (cS, 4, .inr (.inr (.inr (.inr (fun _ => none))))))] ++ r1) ++ [(a4, .inr (5, [.int 0, .int 0, .int 0, .int 0, .int 0, .null, .null, .null, .null, .null, .null, .null, .null, .null]))]) H := hP
  have hD : va_D A (([(h0, .inr (7, [.ref a1, .ref a2, .ref a3, .null, .null, .null, .null, .null, .null, .null, .int 0, .int 0, .long 0, .long 0])), (a1, .inl (cS, 6, .inr (.inr (.inr (.inr (fun _ => none)))))), (a2, .inl (cS, 4, .inr (.inr (.inr (.inr (fun _ => none))))))] ++ r1) ++ [(a4, .inr (5, [.int 0, .int 0, .int 0, .int 0, .int 0, .null, .null, .null, .null, .null, .null, .null, .null, .null]))]) := hD
  refine W.widen (k := 13) (n := 188) (by omega) (by omega) ?_
  refine lv_dup hx hb ddX8_init_36 rfl ?_
  have hPc := xj_one hP
  have hDc := xj_oneD hD
  have hKc := hK.sub (tys' := []) [] rfl
  have hFc := xj_fr hD hS hA
  refine va_callv (va_runIN (As := []) (rest := [.ref a4, .ref h0]) ⟨hx, hb, hml, hown, hts⟩ (ci_X6 l D a4 H.size) ⟨va_cnB (host := "CoatGoals") 0 hts (xi_good xw_good (xw_in 81 (by decide +kernel) rfl)) rfl rfl rfl (hH.1 _ (List.mem_of_getElem? (i := 0) rfl)) (hts _ (xw_in 54 (by decide +kernel) rfl)) (by decide +kernel) ⟨Nat.le_of_ble_eq_true rfl, Nat.le_of_ble_eq_true rfl⟩, rfl, (hts _ (xw_in 80 (by decide +kernel) rfl))⟩ ⟨fun a U g mk q => by obtain ⟨q0, q1, qP, qK, qD⟩ := q; exact ⟨q0, q1, qP, va_K.moved (u := U) (U := U.calling g mk a) (Vm.Alike.refl U.vm) qK, qD⟩, fun U hU hW => ⟨rfl, by rw [hU], by rw [hU]; exact hPc, va_K.moved hW.alike hKc, hDc.weaken (fun _ _ _ _ => trivial)⟩⟩ rfl rfl hl.1 rfl (lv_room (Nat.le_of_ble_eq_true rfl)) ddX8_init_37 ⟨Nat.le_of_ble_eq_true rfl, Nat.le_of_ble_eq_true rfl⟩) hS (fun q _ h => hFc q h) hFc (fun u4p t H1 locs ht hvm hw hB hz1 hk1 hS => ?_)
  obtain ⟨cA, u4⟩ := u4p
  obtain ⟨hP1, hK1, hD1⟩ := hB
  rw [ht] at hP1
  have hK1 := va_K.moved hvm.symm hK1
  obtain ⟨hP, hD⟩ := xj_join hP hD hk1 hFc hP1 hD1
  have hK := hK.app hK1
  generalize H1 = H at hP hS ⊢
  obtain rfl : cI = cA := xk_int hK (i := 1) (j := 2) rfl rfl
  have hK : va_K D vwCl [(cS, .object "CoatGoals$Strip"), (cI, .int)] s := hK.sub (tys' := [(cS, .object "CoatGoals$Strip"), (cI, .int)]) [0, 1] rfl
  have hP : va_P D vwCl (([(h0, .inr (7, [.ref a1, .ref a2, .ref a3, .null, .null, .null, .null, .null, .null, .null, .int 0, .int 0, .long 0, .long 0])), (a1, .inl (cS, 6, .inr (.inr (.inr (.inr (fun _ => none)))))), (a2, .inl (cS, 4, .inr (.inr (.inr (.inr (fun _ => none))))))] ++ r1) ++ wX6 cI a4 u4) H := hP
  have hD : va_D A (([(h0, .inr (7, [.ref a1, .ref a2, .ref a3, .null, .null, .null, .null, .null, .null, .null, .int 0, .int 0, .long 0, .long 0])), (a1, .inl (cS, 6, .inr (.inr (.inr (.inr (fun _ => none)))))), (a2, .inl (cS, 4, .inr (.inr (.inr (.inr (fun _ => none))))))] ++ r1) ++ wX6 cI a4 u4) := hD
  refine W.widen (k := 22) (n := 338) (by omega) (by omega) ?_
  rw [List.append_assoc] at hP hD
  obtain ⟨r2, er2⟩ : ∃ z, z = r1 ++ wX6 cI a4 u4 := ⟨_, rfl⟩
  rw [← er2] at hP hD
  have hP : va_P D vwCl ([(h0, .inr (7, [.ref a1, .ref a2, .ref a3, .null, .null, .null, .null, .null, .null, .null, .int 0, .int 0, .long 0, .long 0])), (a1, .inl (cS, 6, .inr (.inr (.inr (.inr (fun _ => none)))))), (a2, .inl (cS, 4, .inr (.inr (.inr (.inr (fun _ => none))))))] ++ r2) H := hP
  have hD : va_D A ([(h0, .inr (7, [.ref a1, .ref a2, .ref a3, .null, .null, .null, .null, .null, .null, .null, .int 0, .int 0, .long 0, .long 0])), (a1, .inl (cS, 6, .inr (.inr (.inr (.inr (fun _ => none)))))), (a2, .inl (cS, 4, .inr (.inr (.inr (.inr (fun _ => none))))))] ++ r2) := hD
  refine va_putF (D := D) (ci := 7) (v := .ref a4) (ty := .object "CoatGoals$Republic") (C := RX8) (T := TX8) (N := 14) hx hb hts xin_X8 tyX8 tyX8_ok nmX8 hown hK hP hD hS 0 rfl rfl 3 (by decide) (hts _ (xw_in 241 (by decide +kernel) rfl)) (fun _ h9 => h9) rfl hin rfl (by decide +kernel) rfl rfl (Nat.le_of_ble_eq_true rfl) ddX8_init_40 (fun H locs hP hD hS => ?_)
  have hP : va_P D vwCl ([(h0, .inr (7, [.ref a1, .ref a2, .ref a3, .ref a4, .null, .null, .null, .null, .null, .null, .int 0, .int 0, .long 0, .long 0])), (a1, .inl (cS, 6, .inr (.inr (.inr (.inr (fun _ => none)))))), (a2, .inl (cS, 4, .inr (.inr (.inr (.inr (fun _ => none))))))] ++ r2) H := hP
  have hD : va_D A ([(h0, .inr (7, [.ref a1, .ref a2, .ref a3, .ref a4, .null, .null, .null, .null, .null, .null, .int 0, .int 0, .long 0, .long 0])), (a1, .inl (cS, 6, .inr (.inr (.inr (.inr (fun _ => none)))))), (a2, .inl (cS, 4, .inr (.inr (.inr (.inr (fun _ => none))))))] ++ r2) := hD
  refine lv_aload_n hx hb ddX8_init_43 rfl (lv_at hl 0 rfl) ?_
  refine lv_iconst (v := 3) hx hb ddX8_init_44 (by decide) ?_
  refine va_newq (N' := 3) hx hb hown (hts _ (xw_in 77 (by decide +kernel) rfl)) hH.2.2 hK hP hD hS hA (by decide) (by decide) (by decide) (Nat.le_of_ble_eq_true rfl) (Nat.le_of_ble_eq_true rfl) ddX8_init_45 (fun a5 cA H hK hP hD hS => ?_)
  obtain ⟨cR, rfl⟩ : ∃ z, z = cA := ⟨_, rfl⟩
  have hK : va_K D vwCl [(cS, .object "CoatGoals$Strip"), (cI, .int), (cR, .object "CoatGoals$Republic")] s := hK
  have hP := xj_mvP hP
  have hD := xj_mvD hD
  have hP : va_P D vwCl ([(h0, .inr (7, [.ref a1, .ref a2, .ref a3, .ref a4, .null, .null, .null, .null, .null, .null, .int 0, .int 0, .long 0, .long 0])), (a1, .inl (cS, 6, .inr (.inr (.inr (.inr (fun _ => none)))))), (a2, .inl (cS, 4, .inr (.inr (.inr (.inr (fun _ => none)))))), (a5, .inl (cR, 3, .inr (.inr (.inr (.inr (fun _ => none))))))] ++ r2) H := hP
  have hD : va_D A ([(h0, .inr (7, [.ref a1, .ref a2, .ref a3, .ref a4, .null, .null, .null, .null, .null, .null, .int 0, .int 0, .long 0, .long 0])), (a1, .inl (cS, 6, .inr (.inr (.inr (.inr (fun _ => none)))))), (a2, .inl (cS, 4, .inr (.inr (.inr (.inr (fun _ => none)))))), (a5, .inl (cR, 3, .inr (.inr (.inr (.inr (fun _ => none))))))] ++ r2) := hD
  refine W.widen (k := 23) (n := 341) (by omega) (by omega) ?_
  refine va_putF (D := D) (ci := 7) (v := .ref a5) (ty := .array (.object "CoatGoals$Republic")) (C := RX8) (T := TX8) (N := 14) hx hb hts xin_X8 tyX8 tyX8_ok nmX8 hown hK hP hD hS 0 rfl rfl 4 (by decide) (hts _ (xw_in 242 (by decide +kernel) rfl)) (fun _ h9 => h9) rfl hin rfl (by decide +kernel) rfl rfl (Nat.le_of_ble_eq_true rfl) ddX8_init_48 (fun H locs hP hD hS => ?_)
  have hP : va_P D vwCl ([(h0, .inr (7, [.ref a1, .ref a2, .ref a3, .ref a4, .ref a5, .null, .null, .null, .null, .null, .int 0, .int 0, .long 0, .long 0])), (a1, .inl (cS, 6, .inr (.inr (.inr (.inr (fun _ => none)))))), (a2, .inl (cS, 4, .inr (.inr (.inr (.inr (fun _ => none)))))), (a5, .inl (cR, 3, .inr (.inr (.inr (.inr (fun _ => none))))))] ++ r2) H := hP
  have hD : va_D A ([(h0, .inr (7, [.ref a1, .ref a2, .ref a3, .ref a4, .ref a5, .null, .null, .null, .null, .null, .int 0, .int 0, .long 0, .long 0])), (a1, .inl (cS, 6, .inr (.inr (.inr (.inr (fun _ => none)))))), (a2, .inl (cS, 4, .inr (.inr (.inr (.inr (fun _ => none)))))), (a5, .inl (cR, 3, .inr (.inr (.inr (.inr (fun _ => none))))))] ++ r2) := hD
  refine lv_aload_n hx hb ddX8_init_51 rfl (lv_at hl 0 rfl) ?_
  refine va_new (ci := 1) (fs := [.int 0, .int 0, .null, .null, .null]) (C := RX1) (T := TX1) (N := 5) hx hb hts xin_X1 tyX1 tyX1_ok hown (hts _ (xw_in 150 (by decide +kernel) rfl)) (hts _ (xw_in 151 (by decide +kernel) rfl)) (hts _ (xw_in 55 (by decide +kernel) rfl)) hK hP hD hS hA rfl df_X1 (Nat.le_of_ble_eq_true rfl) (Nat.le_of_ble_eq_true rfl) ddX8_init_52 (fun a6 H hP hD hS => ?_)
  have hP : va_P D vwCl (([(h0, .inr (7, [.ref a1, .ref a2, .ref a3, .ref a4, .ref a5, .null, .null, .null, .null, .null, .int 0, .int 0, .long 0, .long 0])), (a1, .inl (cS, 6, .inr (.inr (.inr (.inr (fun _ => none)))))), (a2, .inl (cS, 4, .inr (.inr (.inr (.inr (fun _ => none)))))), (a5, .inl (cR, 3, .inr (.inr (.inr (.inr (fun _ => none))))))] ++ r2) ++ [(a6, .inr (1, [.int 0, .int 0, .null, .null, .null]))]) H := hP
  have hD : va_D A (([(h0, .inr (7, [.ref a1, .ref a2, .ref a3, .ref a4, .ref a5, .null, .null, .null, .null, .null, .int 0, .int 0, .long 0, .long 0])), (a1, .inl (cS, 6, .inr (.inr (.inr (.inr (fun _ => none)))))), (a2, .inl (cS, 4, .inr (.inr (.inr (.inr (fun _ => none)))))), (a5, .inl (cR, 3, .inr (.inr (.inr (.inr (fun _ => none))))))] ++ r2) ++ [(a6, .inr (1, [.int 0, .int 0, .null, .null, .null]))]) := hD
  refine W.widen (k := 24) (n := 346) (by omega) (by omega) ?_
  refine lv_dup hx hb ddX8_init_55 rfl ?_
  have hPc := xj_one hP
  have hDc := xj_oneD hD
  have hKc := hK.sub (tys' := []) [] rfl
  have hFc := xj_fr hD hS hA
  refine va_callv (va_runIN (As := []) (rest := [.ref a6, .ref h0]) ⟨hx, hb, hml, hown, hts⟩ (ci_X1 l D a6 H.size) ⟨va_cnB (host := "CoatGoals") 0 hts (xi_good xw_good (xw_in 154 (by decide +kernel) rfl)) rfl rfl rfl (hH.1 _ (List.mem_of_getElem? (i := 1) rfl)) (hts _ (xw_in 55 (by decide +kernel) rfl)) (by decide +kernel) ⟨Nat.le_of_ble_eq_true rfl, Nat.le_of_ble_eq_true rfl⟩, rfl, (hts _ (xw_in 153 (by decide +kernel) rfl))⟩ ⟨fun a U g mk q => by obtain ⟨q0, q1, qP, qK, qD⟩ := q; exact ⟨q0, q1, qP, va_K.moved (u := U) (U := U.calling g mk a) (Vm.Alike.refl U.vm) qK, qD⟩, fun U hU hW => ⟨rfl, by rw [hU], by rw [hU]; exact hPc, va_K.moved hW.alike hKc, hDc.weaken (fun _ _ _ _ => trivial)⟩⟩ rfl rfl hl.1 rfl (lv_room (Nat.le_of_ble_eq_true rfl)) ddX8_init_56 ⟨Nat.le_of_ble_eq_true rfl, Nat.le_of_ble_eq_true rfl⟩) hS (fun q _ h => hFc q h) hFc (fun u6p t H1 locs ht hvm hw hB hz1 hk1 hS => ?_)
  obtain ⟨cA, u6⟩ := u6p
  obtain ⟨hP1, hK1, hD1⟩ := hB
  rw [ht] at hP1
  have hK1 := va_K.moved hvm.symm hK1
  obtain ⟨hP, hD⟩ := xj_join hP hD hk1 hFc hP1 hD1
  have hK := hK.app hK1
  generalize H1 = H at hP hS ⊢
  obtain rfl : cI = cA := xk_int hK (i := 1) (j := 3) rfl rfl
  have hK : va_K D vwCl [(cS, .object "CoatGoals$Strip"), (cI, .int), (cR, .object "CoatGoals$Republic")] s := hK.sub (tys' := [(cS, .object "CoatGoals$Strip"), (cI, .int), (cR, .object "CoatGoals$Republic")]) [0, 1, 2] rfl
  have hP : va_P D vwCl (([(h0, .inr (7, [.ref a1, .ref a2, .ref a3, .ref a4, .ref a5, .null, .null, .null, .null, .null, .int 0, .int 0, .long 0, .long 0])), (a1, .inl (cS, 6, .inr (.inr (.inr (.inr (fun _ => none)))))), (a2, .inl (cS, 4, .inr (.inr (.inr (.inr (fun _ => none)))))), (a5, .inl (cR, 3, .inr (.inr (.inr (.inr (fun _ => none))))))] ++ r2) ++ wX1 cI a6 u6) H := hP
  have hD : va_D A (([(h0, .inr (7, [.ref a1, .ref a2, .ref a3, .ref a4, .ref a5, .null, .null, .null, .null, .null, .int 0, .int 0, .long 0, .long 0])), (a1, .inl (cS, 6, .inr (.inr (.inr (.inr (fun _ => none)))))), (a2, .inl (cS, 4, .inr (.inr (.inr (.inr (fun _ => none)))))), (a5, .inl (cR, 3, .inr (.inr (.inr (.inr (fun _ => none))))))] ++ r2) ++ wX1 cI a6 u6) := hD
  refine W.widen (k := 27) (n := 360) (by omega) (by omega) ?_
  rw [List.append_assoc] at hP hD
  obtain ⟨r3, er3⟩ : ∃ z, z = r2 ++ wX1 cI a6 u6 := ⟨_, rfl⟩
  rw [← er3] at hP hD
  have hP : va_P D vwCl ([(h0, .inr (7, [.ref a1, .ref a2, .ref a3, .ref a4, .ref a5, .null, .null, .null, .null, .null, .int 0, .int 0, .long 0, .long 0])), (a1, .inl (cS, 6, .inr (.inr (.inr (.inr (fun _ => none)))))), (a2, .inl (cS, 4, .inr (.inr (.inr (.inr (fun _ => none)))))), (a5, .inl (cR, 3, .inr (.inr (.inr (.inr (fun _ => none))))))] ++ r3) H := hP
  have hD : va_D A ([(h0, .inr (7, [.ref a1, .ref a2, .ref a3, .ref a4, .ref a5, .null, .null, .null, .null, .null, .int 0, .int 0, .long 0, .long 0])), (a1, .inl (cS, 6, .inr (.inr (.inr (.inr (fun _ => none)))))), (a2, .inl (cS, 4, .inr (.inr (.inr (.inr (fun _ => none)))))), (a5, .inl (cR, 3, .inr (.inr (.inr (.inr (fun _ => none))))))] ++ r3) := hD
  refine va_putF (D := D) (ci := 7) (v := .ref a6) (ty := .object "CoatGoals$Balls") (C := RX8) (T := TX8) (N := 14) hx hb hts xin_X8 tyX8 tyX8_ok nmX8 hown hK hP hD hS 0 rfl rfl 5 (by decide) (hts _ (xw_in 243 (by decide +kernel) rfl)) (fun _ h9 => h9) rfl hin rfl (by decide +kernel) rfl rfl (Nat.le_of_ble_eq_true rfl) ddX8_init_59 (fun H locs hP hD hS => ?_)
  have hP : va_P D vwCl ([(h0, .inr (7, [.ref a1, .ref a2, .ref a3, .ref a4, .ref a5, .ref a6, .null, .null, .null, .null, .int 0, .int 0, .long 0, .long 0])), (a1, .inl (cS, 6, .inr (.inr (.inr (.inr (fun _ => none)))))), (a2, .inl (cS, 4, .inr (.inr (.inr (.inr (fun _ => none)))))), (a5, .inl (cR, 3, .inr (.inr (.inr (.inr (fun _ => none))))))] ++ r3) H := hP
  have hD : va_D A ([(h0, .inr (7, [.ref a1, .ref a2, .ref a3, .ref a4, .ref a5, .ref a6, .null, .null, .null, .null, .int 0, .int 0, .long 0, .long 0])), (a1, .inl (cS, 6, .inr (.inr (.inr (.inr (fun _ => none)))))), (a2, .inl (cS, 4, .inr (.inr (.inr (.inr (fun _ => none)))))), (a5, .inl (cR, 3, .inr (.inr (.inr (.inr (fun _ => none))))))] ++ r3) := hD
  refine lv_aload_n hx hb ddX8_init_62 rfl (lv_at hl 0 rfl) ?_
  refine va_new (ci := 0) (fs := [.null, .int 0, .int 0]) (C := RX0) (T := TX0) (N := 3) hx hb hts xin_X0 tyX0 tyX0_ok hown (hts _ (xw_in 172 (by decide +kernel) rfl)) (hts _ (xw_in 173 (by decide +kernel) rfl)) (hts _ (xw_in 56 (by decide +kernel) rfl)) hK hP hD hS hA rfl df_X0 (Nat.le_of_ble_eq_true rfl) (Nat.le_of_ble_eq_true rfl) ddX8_init_63 (fun a7 H hP hD hS => ?_)
  have hP : va_P D vwCl (([(h0, .inr (7, [.ref a1, .ref a2, .ref a3, .ref a4, .ref a5, .ref a6, .null, .null, .null, .null, .int 0, .int 0, .long 0, .long 0])), (a1, .inl (cS, 6, .inr (.inr (.inr (.inr (fun _ => none)))))), (a2, .inl (cS, 4, .inr (.inr (.inr (.inr (fun _ => none)))))), (a5, .inl (cR, 3, .inr (.inr (.inr (.inr (fun _ => none))))))] ++ r3) ++ [(a7, .inr (0, [.null, .int 0, .int 0]))]) H := hP
  have hD : va_D A (([(h0, .inr (7, [.ref a1, .ref a2, .ref a3, .ref a4, .ref a5, .ref a6, .null, .null, .null, .null, .int 0, .int 0, .long 0, .long 0])), (a1, .inl (cS, 6, .inr (.inr (.inr (.inr (fun _ => none)))))), (a2, .inl (cS, 4, .inr (.inr (.inr (.inr (fun _ => none)))))), (a5, .inl (cR, 3, .inr (.inr (.inr (.inr (fun _ => none))))))] ++ r3) ++ [(a7, .inr (0, [.null, .int 0, .int 0]))]) := hD
  refine W.widen (k := 28) (n := 363) (by omega) (by omega) ?_
  refine lv_dup hx hb ddX8_init_66 rfl ?_
  have hPc := xj_one hP
  have hDc := xj_oneD hD
  have hKc := hK.sub (tys' := []) [] rfl
  have hFc := xj_fr hD hS hA
  refine va_callv (va_runIN (As := []) (rest := [.ref a7, .ref h0]) ⟨hx, hb, hml, hown, hts⟩ (ci_X0 l D a7 H.size) ⟨va_cnB (host := "CoatGoals") 0 hts (xi_good xw_good (xw_in 176 (by decide +kernel) rfl)) rfl rfl rfl (hH.1 _ (List.mem_of_getElem? (i := 2) rfl)) (hts _ (xw_in 56 (by decide +kernel) rfl)) (by decide +kernel) ⟨Nat.le_of_ble_eq_true rfl, Nat.le_of_ble_eq_true rfl⟩, rfl, (hts _ (xw_in 175 (by decide +kernel) rfl))⟩ ⟨fun a U g mk q => by obtain ⟨q0, q1, qP, qK, qD⟩ := q; exact ⟨q0, q1, qP, va_K.moved (u := U) (U := U.calling g mk a) (Vm.Alike.refl U.vm) qK, qD⟩, fun U hU hW => ⟨rfl, by rw [hU], by rw [hU]; exact hPc, va_K.moved hW.alike hKc, hDc.weaken (fun _ _ _ _ => trivial)⟩⟩ rfl rfl hl.1 rfl (lv_room (Nat.le_of_ble_eq_true rfl)) ddX8_init_67 ⟨Nat.le_of_ble_eq_true rfl, Nat.le_of_ble_eq_true rfl⟩) hS (fun q _ h => hFc q h) hFc (fun u7p t H1 locs ht hvm hw hB hz1 hk1 hS => ?_)
  obtain ⟨cA, u7⟩ := u7p
  obtain ⟨hP1, hK1, hD1⟩ := hB
  rw [ht] at hP1
  have hK1 := va_K.moved hvm.symm hK1
  obtain ⟨hP, hD⟩ := xj_join hP hD hk1 hFc hP1 hD1
  have hK := hK.app hK1
  generalize H1 = H at hP hS ⊢
  obtain rfl : cI = cA := xk_int hK (i := 1) (j := 3) rfl rfl
  have hK : va_K D vwCl [(cS, .object "CoatGoals$Strip"), (cI, .int), (cR, .object "CoatGoals$Republic")] s := hK.sub (tys' := [(cS, .object "CoatGoals$Strip"), (cI, .int), (cR, .object "CoatGoals$Republic")]) [0, 1, 2] rfl
  have hP : va_P D vwCl (([(h0, .inr (7, [.ref a1, .ref a2, .ref a3, .ref a4, .ref a5, .ref a6, .null, .null, .null, .null, .int 0, .int 0, .long 0, .long 0])), (a1, .inl (cS, 6, .inr (.inr (.inr (.inr (fun _ => none)))))), (a2, .inl (cS, 4, .inr (.inr (.inr (.inr (fun _ => none)))))), (a5, .inl (cR, 3, .inr (.inr (.inr (.inr (fun _ => none))))))] ++ r3) ++ wX0 cI a7 u7) H := hP
  have hD : va_D A (([(h0, .inr (7, [.ref a1, .ref a2, .ref a3, .ref a4, .ref a5, .ref a6, .null, .null, .null, .null, .int 0, .int 0, .long 0, .long 0])), (a1, .inl (cS, 6, .inr (.inr (.inr (.inr (fun _ => none)))))), (a2, .inl (cS, 4, .inr (.inr (.inr (.inr (fun _ => none)))))), (a5, .inl (cR, 3, .inr (.inr (.inr (.inr (fun _ => none))))))] ++ r3) ++ wX0 cI a7 u7) := hD
  refine W.widen (k := 29) (n := 461) (by omega) (by omega) ?_
  rw [List.append_assoc] at hP hD
  obtain ⟨r4, er4⟩ : ∃ z, z = r3 ++ wX0 cI a7 u7 := ⟨_, rfl⟩
  rw [← er4] at hP hD
  have hP : va_P D vwCl ([(h0, .inr (7, [.ref a1, .ref a2, .ref a3, .ref a4, .ref a5, .ref a6, .null, .null, .null, .null, .int 0, .int 0, .long 0, .long 0])), (a1, .inl (cS, 6, .inr (.inr (.inr (.inr (fun _ => none)))))), (a2, .inl (cS, 4, .inr (.inr (.inr (.inr (fun _ => none)))))), (a5, .inl (cR, 3, .inr (.inr (.inr (.inr (fun _ => none))))))] ++ r4) H := hP
  have hD : va_D A ([(h0, .inr (7, [.ref a1, .ref a2, .ref a3, .ref a4, .ref a5, .ref a6, .null, .null, .null, .null, .int 0, .int 0, .long 0, .long 0])), (a1, .inl (cS, 6, .inr (.inr (.inr (.inr (fun _ => none)))))), (a2, .inl (cS, 4, .inr (.inr (.inr (.inr (fun _ => none)))))), (a5, .inl (cR, 3, .inr (.inr (.inr (.inr (fun _ => none))))))] ++ r4) := hD
  refine va_putF (D := D) (ci := 7) (v := .ref a7) (ty := .object "CoatGoals$Amendment") (C := RX8) (T := TX8) (N := 14) hx hb hts xin_X8 tyX8 tyX8_ok nmX8 hown hK hP hD hS 0 rfl rfl 6 (by decide) (hts _ (xw_in 244 (by decide +kernel) rfl)) (fun _ h9 => h9) rfl hin rfl (by decide +kernel) rfl rfl (Nat.le_of_ble_eq_true rfl) ddX8_init_70 (fun H locs hP hD hS => ?_)
  have hP : va_P D vwCl ([(h0, .inr (7, [.ref a1, .ref a2, .ref a3, .ref a4, .ref a5, .ref a6, .ref a7, .null, .null, .null, .int 0, .int 0, .long 0, .long 0])), (a1, .inl (cS, 6, .inr (.inr (.inr (.inr (fun _ => none)))))), (a2, .inl (cS, 4, .inr (.inr (.inr (.inr (fun _ => none)))))), (a5, .inl (cR, 3, .inr (.inr (.inr (.inr (fun _ => none))))))] ++ r4) H := hP
  have hD : va_D A ([(h0, .inr (7, [.ref a1, .ref a2, .ref a3, .ref a4, .ref a5, .ref a6, .ref a7, .null, .null, .null, .int 0, .int 0, .long 0, .long 0])), (a1, .inl (cS, 6, .inr (.inr (.inr (.inr (fun _ => none)))))), (a2, .inl (cS, 4, .inr (.inr (.inr (.inr (fun _ => none)))))), (a5, .inl (cR, 3, .inr (.inr (.inr (.inr (fun _ => none))))))] ++ r4) := hD
  refine lv_aload_n hx hb ddX8_init_73 rfl (lv_at hl 0 rfl) ?_
  refine va_new (ci := 2) (fs := [.null]) (C := RX2) (T := TX2) (N := 1) hx hb hts xin_X2 tyX2 tyX2_ok hown (hts _ (xw_in 188 (by decide +kernel) rfl)) (hts _ (xw_in 189 (by decide +kernel) rfl)) (hts _ (xw_in 57 (by decide +kernel) rfl)) hK hP hD hS hA rfl df_X2 (Nat.le_of_ble_eq_true rfl) (Nat.le_of_ble_eq_true rfl) ddX8_init_74 (fun a8 H hP hD hS => ?_)
  have hP : va_P D vwCl (([(h0, .inr (7, [.ref a1, .ref a2, .ref a3, .ref a4, .ref a5, .ref a6, .ref a7, .null, .null, .null, .int 0, .int 0, .long 0, .long 0])), (a1, .inl (cS, 6, .inr (.inr (.inr (.inr (fun _ => none)))))), (a2, .inl (cS, 4, .inr (.inr (.inr (.inr (fun _ => none)))))), (a5, .inl (cR, 3, .inr (.inr (.inr (.inr (fun _ => none))))))] ++ r4) ++ [(a8, .inr (2, [.null]))]) H := hP
  have hD : va_D A (([(h0, .inr (7, [.ref a1, .ref a2, .ref a3, .ref a4, .ref a5, .ref a6, .ref a7, .null, .null, .null, .int 0, .int 0, .long 0, .long 0])), (a1, .inl (cS, 6, .inr (.inr (.inr (.inr (fun _ => none)))))), (a2, .inl (cS, 4, .inr (.inr (.inr (.inr (fun _ => none)))))), (a5, .inl (cR, 3, .inr (.inr (.inr (.inr (fun _ => none))))))] ++ r4) ++ [(a8, .inr (2, [.null]))]) := hD
  refine W.widen (k := 30) (n := 462) (by omega) (by omega) ?_
  refine lv_dup hx hb ddX8_init_77 rfl ?_
  have hPc := xj_one hP
  have hDc := xj_oneD hD
  have hKc := hK.sub (tys' := []) [] rfl
  have hFc := xj_fr hD hS hA
  refine va_callv (va_runIN (As := []) (rest := [.ref a8, .ref h0]) ⟨hx, hb, hml, hown, hts⟩ (ci_X2 l D a8 H.size) ⟨va_cnB (host := "CoatGoals") 0 hts (xi_good xw_good (xw_in 192 (by decide +kernel) rfl)) rfl rfl rfl (hH.1 _ (List.mem_of_getElem? (i := 3) rfl)) (hts _ (xw_in 57 (by decide +kernel) rfl)) (by decide +kernel) ⟨Nat.le_of_ble_eq_true rfl, Nat.le_of_ble_eq_true rfl⟩, rfl, (hts _ (xw_in 191 (by decide +kernel) rfl))⟩ ⟨fun a U g mk q => by obtain ⟨q0, q1, qP, qK, qD⟩ := q; exact ⟨q0, q1, qP, va_K.moved (u := U) (U := U.calling g mk a) (Vm.Alike.refl U.vm) qK, qD⟩, fun U hU hW => ⟨rfl, by rw [hU], by rw [hU]; exact hPc, va_K.moved hW.alike hKc, hDc.weaken (fun _ _ _ _ => trivial)⟩⟩ rfl rfl hl.1 rfl (lv_room (Nat.le_of_ble_eq_true rfl)) ddX8_init_78 ⟨Nat.le_of_ble_eq_true rfl, Nat.le_of_ble_eq_true rfl⟩) hS (fun q _ h => hFc q h) hFc (fun u8p t H1 locs ht hvm hw hB hz1 hk1 hS => ?_)
  obtain ⟨cA, u8⟩ := u8p
  obtain ⟨hP1, hK1, hD1⟩ := hB
  rw [ht] at hP1
  have hK1 := va_K.moved hvm.symm hK1
  obtain ⟨hP, hD⟩ := xj_join hP hD hk1 hFc hP1 hD1
  have hK := hK.app hK1
  generalize H1 = H at hP hS ⊢
  obtain rfl : cI = cA := xk_int hK (i := 1) (j := 3) rfl rfl
  have hK : va_K D vwCl [(cS, .object "CoatGoals$Strip"), (cI, .int), (cR, .object "CoatGoals$Republic")] s := hK.sub (tys' := [(cS, .object "CoatGoals$Strip"), (cI, .int), (cR, .object "CoatGoals$Republic")]) [0, 1, 2] rfl
  have hP : va_P D vwCl (([(h0, .inr (7, [.ref a1, .ref a2, .ref a3, .ref a4, .ref a5, .ref a6, .ref a7, .null, .null, .null, .int 0, .int 0, .long 0, .long 0])), (a1, .inl (cS, 6, .inr (.inr (.inr (.inr (fun _ => none)))))), (a2, .inl (cS, 4, .inr (.inr (.inr (.inr (fun _ => none)))))), (a5, .inl (cR, 3, .inr (.inr (.inr (.inr (fun _ => none))))))] ++ r4) ++ wX2 cI a8 u8) H := hP
  have hD : va_D A (([(h0, .inr (7, [.ref a1, .ref a2, .ref a3, .ref a4, .ref a5, .ref a6, .ref a7, .null, .null, .null, .int 0, .int 0, .long 0, .long 0])), (a1, .inl (cS, 6, .inr (.inr (.inr (.inr (fun _ => none)))))), (a2, .inl (cS, 4, .inr (.inr (.inr (.inr (fun _ => none)))))), (a5, .inl (cR, 3, .inr (.inr (.inr (.inr (fun _ => none))))))] ++ r4) ++ wX2 cI a8 u8) := hD
  refine W.widen (k := 31) (n := 466) (by omega) (by omega) ?_
  rw [List.append_assoc] at hP hD
  obtain ⟨r5, er5⟩ : ∃ z, z = r4 ++ wX2 cI a8 u8 := ⟨_, rfl⟩
  rw [← er5] at hP hD
  have hP : va_P D vwCl ([(h0, .inr (7, [.ref a1, .ref a2, .ref a3, .ref a4, .ref a5, .ref a6, .ref a7, .null, .null, .null, .int 0, .int 0, .long 0, .long 0])), (a1, .inl (cS, 6, .inr (.inr (.inr (.inr (fun _ => none)))))), (a2, .inl (cS, 4, .inr (.inr (.inr (.inr (fun _ => none)))))), (a5, .inl (cR, 3, .inr (.inr (.inr (.inr (fun _ => none))))))] ++ r5) H := hP
  have hD : va_D A ([(h0, .inr (7, [.ref a1, .ref a2, .ref a3, .ref a4, .ref a5, .ref a6, .ref a7, .null, .null, .null, .int 0, .int 0, .long 0, .long 0])), (a1, .inl (cS, 6, .inr (.inr (.inr (.inr (fun _ => none)))))), (a2, .inl (cS, 4, .inr (.inr (.inr (.inr (fun _ => none)))))), (a5, .inl (cR, 3, .inr (.inr (.inr (.inr (fun _ => none))))))] ++ r5) := hD
  refine va_putF (D := D) (ci := 7) (v := .ref a8) (ty := .object "CoatGoals$Duel") (C := RX8) (T := TX8) (N := 14) hx hb hts xin_X8 tyX8 tyX8_ok nmX8 hown hK hP hD hS 0 rfl rfl 7 (by decide) (hts _ (xw_in 245 (by decide +kernel) rfl)) (fun _ h9 => h9) rfl hin rfl (by decide +kernel) rfl rfl (Nat.le_of_ble_eq_true rfl) ddX8_init_81 (fun H locs hP hD hS => ?_)
  have hP : va_P D vwCl ([(h0, .inr (7, [.ref a1, .ref a2, .ref a3, .ref a4, .ref a5, .ref a6, .ref a7, .ref a8, .null, .null, .int 0, .int 0, .long 0, .long 0])), (a1, .inl (cS, 6, .inr (.inr (.inr (.inr (fun _ => none)))))), (a2, .inl (cS, 4, .inr (.inr (.inr (.inr (fun _ => none)))))), (a5, .inl (cR, 3, .inr (.inr (.inr (.inr (fun _ => none))))))] ++ r5) H := hP
  have hD : va_D A ([(h0, .inr (7, [.ref a1, .ref a2, .ref a3, .ref a4, .ref a5, .ref a6, .ref a7, .ref a8, .null, .null, .int 0, .int 0, .long 0, .long 0])), (a1, .inl (cS, 6, .inr (.inr (.inr (.inr (fun _ => none)))))), (a2, .inl (cS, 4, .inr (.inr (.inr (.inr (fun _ => none)))))), (a5, .inl (cR, 3, .inr (.inr (.inr (.inr (fun _ => none))))))] ++ r5) := hD
  refine lv_aload_n hx hb ddX8_init_84 rfl (lv_at hl 0 rfl) ?_
  refine va_new (ci := 3) (fs := [.int 0, .int 0, .null]) (C := RX3) (T := TX3) (N := 3) hx hb hts xin_X3 tyX3 tyX3_ok hown (hts _ (xw_in 198 (by decide +kernel) rfl)) (hts _ (xw_in 199 (by decide +kernel) rfl)) (hts _ (xw_in 58 (by decide +kernel) rfl)) hK hP hD hS hA rfl df_X3 (Nat.le_of_ble_eq_true rfl) (Nat.le_of_ble_eq_true rfl) ddX8_init_85 (fun a9 H hP hD hS => ?_)
  have hP : va_P D vwCl (([(h0, .inr (7, [.ref a1, .ref a2, .ref a3, .ref a4, .ref a5, .ref a6, .ref a7, .ref a8, .null, .null, .int 0, .int 0, .long 0, .long 0])), (a1, .inl (cS, 6, .inr (.inr (.inr (.inr (fun _ => none)))))), (a2, .inl (cS, 4, .inr (.inr (.inr (.inr (fun _ => none)))))), (a5, .inl (cR, 3, .inr (.inr (.inr (.inr (fun _ => none))))))] ++ r5) ++ [(a9, .inr (3, [.int 0, .int 0, .null]))]) H := hP
  have hD : va_D A (([(h0, .inr (7, [.ref a1, .ref a2, .ref a3, .ref a4, .ref a5, .ref a6, .ref a7, .ref a8, .null, .null, .int 0, .int 0, .long 0, .long 0])), (a1, .inl (cS, 6, .inr (.inr (.inr (.inr (fun _ => none)))))), (a2, .inl (cS, 4, .inr (.inr (.inr (.inr (fun _ => none)))))), (a5, .inl (cR, 3, .inr (.inr (.inr (.inr (fun _ => none))))))] ++ r5) ++ [(a9, .inr (3, [.int 0, .int 0, .null]))]) := hD
  refine W.widen (k := 32) (n := 469) (by omega) (by omega) ?_
  refine lv_dup hx hb ddX8_init_88 rfl ?_
  have hPc := xj_one hP
  have hDc := xj_oneD hD
  have hKc := hK.sub (tys' := []) [] rfl
  have hFc := xj_fr hD hS hA
  refine va_callv (va_runIN (As := []) (rest := [.ref a9, .ref h0]) ⟨hx, hb, hml, hown, hts⟩ (ci_X3 l D a9 H.size) ⟨va_cnB (host := "CoatGoals") 0 hts (xi_good xw_good (xw_in 202 (by decide +kernel) rfl)) rfl rfl rfl (hH.1 _ (List.mem_of_getElem? (i := 4) rfl)) (hts _ (xw_in 58 (by decide +kernel) rfl)) (by decide +kernel) ⟨Nat.le_of_ble_eq_true rfl, Nat.le_of_ble_eq_true rfl⟩, rfl, (hts _ (xw_in 201 (by decide +kernel) rfl))⟩ ⟨fun a U g mk q => by obtain ⟨q0, q1, qP, qK, qD⟩ := q; exact ⟨q0, q1, qP, va_K.moved (u := U) (U := U.calling g mk a) (Vm.Alike.refl U.vm) qK, qD⟩, fun U hU hW => ⟨rfl, by rw [hU], by rw [hU]; exact hPc, va_K.moved hW.alike hKc, hDc.weaken (fun _ _ _ _ => trivial)⟩⟩ rfl rfl hl.1 rfl (lv_room (Nat.le_of_ble_eq_true rfl)) ddX8_init_89 ⟨Nat.le_of_ble_eq_true rfl, Nat.le_of_ble_eq_true rfl⟩) hS (fun q _ h => hFc q h) hFc (fun u9p t H1 locs ht hvm hw hB hz1 hk1 hS => ?_)
  obtain ⟨cA, u9⟩ := u9p
  obtain ⟨hP1, hK1, hD1⟩ := hB
  rw [ht] at hP1
  have hK1 := va_K.moved hvm.symm hK1
  obtain ⟨hP, hD⟩ := xj_join hP hD hk1 hFc hP1 hD1
  have hK := hK.app hK1
  generalize H1 = H at hP hS ⊢
  obtain rfl : cI = cA := xk_int hK (i := 1) (j := 3) rfl rfl
  have hK : va_K D vwCl [(cS, .object "CoatGoals$Strip"), (cI, .int), (cR, .object "CoatGoals$Republic")] s := hK.sub (tys' := [(cS, .object "CoatGoals$Strip"), (cI, .int), (cR, .object "CoatGoals$Republic")]) [0, 1, 2] rfl
  have hP : va_P D vwCl (([(h0, .inr (7, [.ref a1, .ref a2, .ref a3, .ref a4, .ref a5, .ref a6, .ref a7, .ref a8, .null, .null, .int 0, .int 0, .long 0, .long 0])), (a1, .inl (cS, 6, .inr (.inr (.inr (.inr (fun _ => none)))))), (a2, .inl (cS, 4, .inr (.inr (.inr (.inr (fun _ => none)))))), (a5, .inl (cR, 3, .inr (.inr (.inr (.inr (fun _ => none))))))] ++ r5) ++ wX3 cI a9 u9) H := hP
  have hD : va_D A (([(h0, .inr (7, [.ref a1, .ref a2, .ref a3, .ref a4, .ref a5, .ref a6, .ref a7, .ref a8, .null, .null, .int 0, .int 0, .long 0, .long 0])), (a1, .inl (cS, 6, .inr (.inr (.inr (.inr (fun _ => none)))))), (a2, .inl (cS, 4, .inr (.inr (.inr (.inr (fun _ => none)))))), (a5, .inl (cR, 3, .inr (.inr (.inr (.inr (fun _ => none))))))] ++ r5) ++ wX3 cI a9 u9) := hD
  refine W.widen (k := 33) (n := 490) (by omega) (by omega) ?_
  rw [List.append_assoc] at hP hD
  obtain ⟨r6, er6⟩ : ∃ z, z = r5 ++ wX3 cI a9 u9 := ⟨_, rfl⟩
  rw [← er6] at hP hD
  have hP : va_P D vwCl ([(h0, .inr (7, [.ref a1, .ref a2, .ref a3, .ref a4, .ref a5, .ref a6, .ref a7, .ref a8, .null, .null, .int 0, .int 0, .long 0, .long 0])), (a1, .inl (cS, 6, .inr (.inr (.inr (.inr (fun _ => none)))))), (a2, .inl (cS, 4, .inr (.inr (.inr (.inr (fun _ => none)))))), (a5, .inl (cR, 3, .inr (.inr (.inr (.inr (fun _ => none))))))] ++ r6) H := hP
  have hD : va_D A ([(h0, .inr (7, [.ref a1, .ref a2, .ref a3, .ref a4, .ref a5, .ref a6, .ref a7, .ref a8, .null, .null, .int 0, .int 0, .long 0, .long 0])), (a1, .inl (cS, 6, .inr (.inr (.inr (.inr (fun _ => none)))))), (a2, .inl (cS, 4, .inr (.inr (.inr (.inr (fun _ => none)))))), (a5, .inl (cR, 3, .inr (.inr (.inr (.inr (fun _ => none))))))] ++ r6) := hD
  refine va_putF (D := D) (ci := 7) (v := .ref a9) (ty := .object "CoatGoals$Guesses") (C := RX8) (T := TX8) (N := 14) hx hb hts xin_X8 tyX8 tyX8_ok nmX8 hown hK hP hD hS 0 rfl rfl 8 (by decide) (hts _ (xw_in 246 (by decide +kernel) rfl)) (fun _ h9 => h9) rfl hin rfl (by decide +kernel) rfl rfl (Nat.le_of_ble_eq_true rfl) ddX8_init_92 (fun H locs hP hD hS => ?_)
  have hP : va_P D vwCl ([(h0, .inr (7, [.ref a1, .ref a2, .ref a3, .ref a4, .ref a5, .ref a6, .ref a7, .ref a8, .ref a9, .null, .int 0, .int 0, .long 0, .long 0])), (a1, .inl (cS, 6, .inr (.inr (.inr (.inr (fun _ => none)))))), (a2, .inl (cS, 4, .inr (.inr (.inr (.inr (fun _ => none)))))), (a5, .inl (cR, 3, .inr (.inr (.inr (.inr (fun _ => none))))))] ++ r6) H := hP
  have hD : va_D A ([(h0, .inr (7, [.ref a1, .ref a2, .ref a3, .ref a4, .ref a5, .ref a6, .ref a7, .ref a8, .ref a9, .null, .int 0, .int 0, .long 0, .long 0])), (a1, .inl (cS, 6, .inr (.inr (.inr (.inr (fun _ => none)))))), (a2, .inl (cS, 4, .inr (.inr (.inr (.inr (fun _ => none)))))), (a5, .inl (cR, 3, .inr (.inr (.inr (.inr (fun _ => none))))))] ++ r6) := hD
  refine lv_aload_n hx hb ddX8_init_95 rfl (lv_at hl 0 rfl) ?_
  refine lv_bipush (v := 6) hx hb ddX8_init_96 (by decide) ?_
  refine va_newa (ty := .int) (N' := 6) (a0 := (6, .inl (fun _ => 0))) hx hb (hts _ (xw_in 148 (by decide +kernel) rfl)) rfl hK hP hD hS hA (fun _ => rfl) (by decide) (by decide) (by decide) (Nat.le_of_ble_eq_true rfl) (Nat.le_of_ble_eq_true rfl) ddX8_init_98 (fun a10 cA H hK hP hD hS => ?_)
  obtain rfl : cI = cA := xk_int hK (i := 1) (j := 3) rfl rfl
  have hK : va_K D vwCl [(cS, .object "CoatGoals$Strip"), (cI, .int), (cR, .object "CoatGoals$Republic")] s := hK.sub (tys' := [(cS, .object "CoatGoals$Strip"), (cI, .int), (cR, .object "CoatGoals$Republic")]) [0, 1, 2] rfl
  rw [List.append_assoc] at hP hD
  obtain ⟨r7, er7⟩ : ∃ z, z = r6 ++ [(a10, .inl (cI, 6, .inl (fun _ => 0)))] := ⟨_, rfl⟩
  rw [← er7] at hP hD
  have hP : va_P D vwCl ([(h0, .inr (7, [.ref a1, .ref a2, .ref a3, .ref a4, .ref a5, .ref a6, .ref a7, .ref a8, .ref a9, .null, .int 0, .int 0, .long 0, .long 0])), (a1, .inl (cS, 6, .inr (.inr (.inr (.inr (fun _ => none)))))), (a2, .inl (cS, 4, .inr (.inr (.inr (.inr (fun _ => none)))))), (a5, .inl (cR, 3, .inr (.inr (.inr (.inr (fun _ => none))))))] ++ r7) H := hP
  have hD : va_D A ([(h0, .inr (7, [.ref a1, .ref a2, .ref a3, .ref a4, .ref a5, .ref a6, .ref a7, .ref a8, .ref a9, .null, .int 0, .int 0, .long 0, .long 0])), (a1, .inl (cS, 6, .inr (.inr (.inr (.inr (fun _ => none)))))), (a2, .inl (cS, 4, .inr (.inr (.inr (.inr (fun _ => none)))))), (a5, .inl (cR, 3, .inr (.inr (.inr (.inr (fun _ => none))))))] ++ r7) := hD
  refine W.widen (k := 34) (n := 496) (by omega) (by omega) ?_
  refine va_putF (D := D) (ci := 7) (v := .ref a10) (ty := .array .int) (C := RX8) (T := TX8) (N := 14) hx hb hts xin_X8 tyX8 tyX8_ok nmX8 hown hK hP hD hS 0 rfl rfl 9 (by decide) (hts _ (xw_in 247 (by decide +kernel) rfl)) (fun _ h9 => h9) rfl hin rfl (by decide +kernel) rfl rfl (Nat.le_of_ble_eq_true rfl) ddX8_init_100 (fun H locs hP hD hS => ?_)
  have hP : va_P D vwCl ([(h0, .inr (7, [.ref a1, .ref a2, .ref a3, .ref a4, .ref a5, .ref a6, .ref a7, .ref a8, .ref a9, .ref a10, .int 0, .int 0, .long 0, .long 0])), (a1, .inl (cS, 6, .inr (.inr (.inr (.inr (fun _ => none)))))), (a2, .inl (cS, 4, .inr (.inr (.inr (.inr (fun _ => none)))))), (a5, .inl (cR, 3, .inr (.inr (.inr (.inr (fun _ => none))))))] ++ r7) H := hP
  have hD : va_D A ([(h0, .inr (7, [.ref a1, .ref a2, .ref a3, .ref a4, .ref a5, .ref a6, .ref a7, .ref a8, .ref a9, .ref a10, .int 0, .int 0, .long 0, .long 0])), (a1, .inl (cS, 6, .inr (.inr (.inr (.inr (fun _ => none)))))), (a2, .inl (cS, 4, .inr (.inr (.inr (.inr (fun _ => none)))))), (a5, .inl (cR, 3, .inr (.inr (.inr (.inr (fun _ => none))))))] ++ r7) := hD
  refine lv_aload_n hx hb ddX8_init_103 rfl (lv_at hl 0 rfl) ?_
  refine lv_lconst (v := 1) hx hb ddX8_init_104 (by decide) ?_
  refine va_put (D := D) (ci := 7) (v := .long 1) (ty := .long) (C := RX8) (T := TX8) (N := 14) hx hb hts xin_X8 tyX8 tyX8_ok nmX8 hown hK hP hD hS 0 rfl rfl 13 (by decide) (hts _ (xw_in 251 (by decide +kernel) rfl)) (fun _ h9 => h9) rfl (by decide +kernel) rfl rfl (Nat.le_of_ble_eq_true rfl) ddX8_init_105 (fun H locs hP hD hS => ?_)
  have hP : va_P D vwCl ([(h0, .inr (7, [.ref a1, .ref a2, .ref a3, .ref a4, .ref a5, .ref a6, .ref a7, .ref a8, .ref a9, .ref a10, .int 0, .int 0, .long 0, .long 1])), (a1, .inl (cS, 6, .inr (.inr (.inr (.inr (fun _ => none)))))), (a2, .inl (cS, 4, .inr (.inr (.inr (.inr (fun _ => none)))))), (a5, .inl (cR, 3, .inr (.inr (.inr (.inr (fun _ => none))))))] ++ r7) H := hP
  have hD : va_D A ([(h0, .inr (7, [.ref a1, .ref a2, .ref a3, .ref a4, .ref a5, .ref a6, .ref a7, .ref a8, .ref a9, .ref a10, .int 0, .int 0, .long 0, .long 1])), (a1, .inl (cS, 6, .inr (.inr (.inr (.inr (fun _ => none)))))), (a2, .inl (cS, 4, .inr (.inr (.inr (.inr (fun _ => none)))))), (a5, .inl (cR, 3, .inr (.inr (.inr (.inr (fun _ => none))))))] ++ r7) := hD
  refine lv_iconst (v := 0) hx hb ddX8_init_108 (by decide) ?_
  refine lv_istore_n (lv' := [(1, .int 0), (0, .ref h0)]) hx hb ddX8_init_109 rfl hl (by decide) rfl (fun ls hl => ?_)
  refine lv_iload_n hx hb ddX8_init_110 rfl (lv_at hl 0 rfl) ?_
  refine lv_bipush (v := 6) hx hb ddX8_init_111 (by decide) ?_
  refine lv_icmp_ge (tgt := 137) hx hb ddX8_init_113 (by decide) (fun c9 => absurd c9 (by decide)) (fun c9 => ?_)
  refine lv_aload_n hx hb ddX8_init_116 rfl (lv_at hl 1 rfl) ?_
  refine va_get (D := D) (ci := 7) (v := .ref a1) (C := RX8) (T := TX8) (N := 14) hx hb hts xin_X8 hown hK hP 0 rfl rfl 0 (by decide) (hts _ (xw_in 238 (by decide +kernel) rfl)) (fun _ h9 => h9) rfl ddX8_init_117 ?_
  refine lv_iload_n hx hb ddX8_init_120 rfl (lv_at hl 0 rfl) ?_
  refine va_new (ci := 6) (fs := [.int 0, .int 0, .null]) (C := RX7) (T := TX7) (N := 3) hx hb hts xin_X7 tyX7 tyX7_ok hown (hts _ (xw_in 75 (by decide +kernel) rfl)) (hts _ (xw_in 216 (by decide +kernel) rfl)) (hts _ (xw_in 59 (by decide +kernel) rfl)) hK hP hD hS hA rfl df_X7 (Nat.le_of_ble_eq_true rfl) (Nat.le_of_ble_eq_true rfl) ddX8_init_121 (fun a11 H hP hD hS => ?_)
  have hP : va_P D vwCl (([(h0, .inr (7, [.ref a1, .ref a2, .ref a3, .ref a4, .ref a5, .ref a6, .ref a7, .ref a8, .ref a9, .ref a10, .int 0, .int 0, .long 0, .long 1])), (a1, .inl (cS, 6, .inr (.inr (.inr (.inr (fun _ => none)))))), (a2, .inl (cS, 4, .inr (.inr (.inr (.inr (fun _ => none)))))), (a5, .inl (cR, 3, .inr (.inr (.inr (.inr (fun _ => none))))))] ++ r7) ++ [(a11, .inr (6, [.int 0, .int 0, .null]))]) H := hP
  have hD : va_D A (([(h0, .inr (7, [.ref a1, .ref a2, .ref a3, .ref a4, .ref a5, .ref a6, .ref a7, .ref a8, .ref a9, .ref a10, .int 0, .int 0, .long 0, .long 1])), (a1, .inl (cS, 6, .inr (.inr (.inr (.inr (fun _ => none)))))), (a2, .inl (cS, 4, .inr (.inr (.inr (.inr (fun _ => none)))))), (a5, .inl (cR, 3, .inr (.inr (.inr (.inr (fun _ => none))))))] ++ r7) ++ [(a11, .inr (6, [.int 0, .int 0, .null]))]) := hD
  refine W.widen (k := 35) (n := 499) (by omega) (by omega) ?_
  refine lv_dup hx hb ddX8_init_124 rfl ?_
  refine lv_bipush (v := 40) hx hb ddX8_init_125 (by decide) ?_
  have hPc := xj_one hP
  have hDc := xj_oneD hD
  have hKc := hK.sub (tys' := []) [] rfl
  have hFc := xj_fr hD hS hA
  refine va_callv (va_runI (As := [.int 40]) (rest := [.ref a11, .int 0, .ref a1]) ⟨hx, hb, hml, hown, hts⟩ (ci_X7 l D a11 H.size 40 40 (by decide) (by decide) (by decide)) (cwI 1 hts (xi_good xw_good (xw_in 219 (by decide +kernel) rfl)) rfl rfl rfl (hts _ (xw_in 59 (by decide +kernel) rfl)) (hts _ (xw_in 217 (by decide +kernel) rfl)) (hts _ (xw_in 218 (by decide +kernel) rfl)) rfl (by decide +kernel) ⟨Nat.le_of_ble_eq_true rfl, Nat.le_of_ble_eq_true rfl⟩) ⟨fun a U g mk q => by obtain ⟨q0, q1, qP, qK, qD⟩ := q; exact ⟨q0, q1, qP, va_K.moved (u := U) (U := U.calling g mk a) (Vm.Alike.refl U.vm) qK, qD⟩, fun U hU hW => ⟨rfl, by rw [hU], by rw [hU]; exact hPc, va_K.moved hW.alike hKc, hDc.weaken (fun _ _ _ _ => trivial)⟩⟩ rfl rfl hl.1 rfl (lv_room (Nat.le_of_ble_eq_true rfl)) ddX8_init_127 ⟨Nat.le_of_ble_eq_true rfl, Nat.le_of_ble_eq_true rfl⟩) hS (fun q _ h => hFc q h) hFc (fun u11p t H1 locs ht hvm hw hB hz1 hk1 hS => ?_)
  obtain ⟨cA, u11⟩ := u11p
  obtain ⟨hP1, hK1, hD1⟩ := hB
  rw [ht] at hP1
  have hK1 := va_K.moved hvm.symm hK1
  obtain ⟨hP, hD⟩ := xj_join hP hD hk1 hFc hP1 hD1
  have hK := hK.app hK1
  generalize H1 = H at hP hS ⊢
  obtain rfl : cI = cA := xk_int hK (i := 1) (j := 3) rfl rfl
  have hK : va_K D vwCl [(cS, .object "CoatGoals$Strip"), (cI, .int), (cR, .object "CoatGoals$Republic")] s := hK.sub (tys' := [(cS, .object "CoatGoals$Strip"), (cI, .int), (cR, .object "CoatGoals$Republic")]) [0, 1, 2] rfl
  have hP : va_P D vwCl (([(h0, .inr (7, [.ref a1, .ref a2, .ref a3, .ref a4, .ref a5, .ref a6, .ref a7, .ref a8, .ref a9, .ref a10, .int 0, .int 0, .long 0, .long 1])), (a1, .inl (cS, 6, .inr (.inr (.inr (.inr (fun _ => none)))))), (a2, .inl (cS, 4, .inr (.inr (.inr (.inr (fun _ => none)))))), (a5, .inl (cR, 3, .inr (.inr (.inr (.inr (fun _ => none))))))] ++ r7) ++ wX7 cI a11 40 u11) H := hP
  have hD : va_D A (([(h0, .inr (7, [.ref a1, .ref a2, .ref a3, .ref a4, .ref a5, .ref a6, .ref a7, .ref a8, .ref a9, .ref a10, .int 0, .int 0, .long 0, .long 1])), (a1, .inl (cS, 6, .inr (.inr (.inr (.inr (fun _ => none)))))), (a2, .inl (cS, 4, .inr (.inr (.inr (.inr (fun _ => none)))))), (a5, .inl (cR, 3, .inr (.inr (.inr (.inr (fun _ => none))))))] ++ r7) ++ wX7 cI a11 40 u11) := hD
  refine W.widen (k := 36) (n := 539) (by omega) (by omega) ?_
  have hP := xj_mvP hP
  have hD := xj_mvD hD
  have hP : va_P D vwCl (([(h0, .inr (7, [.ref a1, .ref a2, .ref a3, .ref a4, .ref a5, .ref a6, .ref a7, .ref a8, .ref a9, .ref a10, .int 0, .int 0, .long 0, .long 1])), (a1, .inl (cS, 6, .inr (.inr (.inr (.inr (fun _ => none)))))), (a2, .inl (cS, 4, .inr (.inr (.inr (.inr (fun _ => none)))))), (a5, .inl (cR, 3, .inr (.inr (.inr (.inr (fun _ => none))))))] ++ wX7 cI a11 40 u11) ++ r7) H := hP
  have hD : va_D A (([(h0, .inr (7, [.ref a1, .ref a2, .ref a3, .ref a4, .ref a5, .ref a6, .ref a7, .ref a8, .ref a9, .ref a10, .int 0, .int 0, .long 0, .long 1])), (a1, .inl (cS, 6, .inr (.inr (.inr (.inr (fun _ => none)))))), (a2, .inl (cS, 4, .inr (.inr (.inr (.inr (fun _ => none)))))), (a5, .inl (cR, 3, .inr (.inr (.inr (.inr (fun _ => none))))))] ++ wX7 cI a11 40 u11) ++ r7) := hD
  refine va_astq (r := (RX7, TX7, 3)) hx hb hK hP hD hS 1 0 4 6 rfl rfl rfl rfl (by unfold vp_in; decide) ddX8_init_130 (fun H locs hP hD hS => ?_)
  have hP : va_P D vwCl (([(h0, .inr (7, [.ref a1, .ref a2, .ref a3, .ref a4, .ref a5, .ref a6, .ref a7, .ref a8, .ref a9, .ref a10, .int 0, .int 0, .long 0, .long 1])), (a1, .inl (cS, 6, .inr (.inr (.inr (.inr (va_up (fun _ => none) 0 (some a11))))))), (a2, .inl (cS, 4, .inr (.inr (.inr (.inr (fun _ => none)))))), (a5, .inl (cR, 3, .inr (.inr (.inr (.inr (fun _ => none))))))] ++ wX7 cI a11 40 u11) ++ r7) H := hP
  have hD : va_D A (([(h0, .inr (7, [.ref a1, .ref a2, .ref a3, .ref a4, .ref a5, .ref a6, .ref a7, .ref a8, .ref a9, .ref a10, .int 0, .int 0, .long 0, .long 1])), (a1, .inl (cS, 6, .inr (.inr (.inr (.inr (va_up (fun _ => none) 0 (some a11))))))), (a2, .inl (cS, 4, .inr (.inr (.inr (.inr (fun _ => none)))))), (a5, .inl (cR, 3, .inr (.inr (.inr (.inr (fun _ => none))))))] ++ wX7 cI a11 40 u11) ++ r7) := hD
  rw [List.append_assoc] at hP hD
  obtain ⟨r8, er8⟩ : ∃ z, z = wX7 cI a11 40 u11 ++ r7 := ⟨_, rfl⟩
  rw [← er8] at hP hD
  have hP : va_P D vwCl ([(h0, .inr (7, [.ref a1, .ref a2, .ref a3, .ref a4, .ref a5, .ref a6, .ref a7, .ref a8, .ref a9, .ref a10, .int 0, .int 0, .long 0, .long 1])), (a1, .inl (cS, 6, .inr (.inr (.inr (.inr (va_up (fun _ => none) 0 (some a11))))))), (a2, .inl (cS, 4, .inr (.inr (.inr (.inr (fun _ => none)))))), (a5, .inl (cR, 3, .inr (.inr (.inr (.inr (fun _ => none))))))] ++ r8) H := hP
  have hD : va_D A ([(h0, .inr (7, [.ref a1, .ref a2, .ref a3, .ref a4, .ref a5, .ref a6, .ref a7, .ref a8, .ref a9, .ref a10, .int 0, .int 0, .long 0, .long 1])), (a1, .inl (cS, 6, .inr (.inr (.inr (.inr (va_up (fun _ => none) 0 (some a11))))))), (a2, .inl (cS, 4, .inr (.inr (.inr (.inr (fun _ => none)))))), (a5, .inl (cR, 3, .inr (.inr (.inr (.inr (fun _ => none))))))] ++ r8) := hD
  refine lv_iinc (v := 1) (lv' := [(1, .int 1), (0, .ref h0)]) hx hb ddX8_init_131 hl (k := 0) rfl (by decide) (by decide) rfl (fun ls hl => ?_)
  refine lv_goto (tgt := 110) hx hb ddX8_init_134 (by decide) ?_
  refine lv_iload_n hx hb ddX8_init_110 rfl (lv_at hl 0 rfl) ?_
  refine lv_bipush (v := 6) hx hb ddX8_init_111 (by decide) ?_
  refine lv_icmp_ge (tgt := 137) hx hb ddX8_init_113 (by decide) (fun c9 => absurd c9 (by decide)) (fun c9 => ?_)
  refine lv_aload_n hx hb ddX8_init_116 rfl (lv_at hl 1 rfl) ?_
  refine va_get (D := D) (ci := 7) (v := .ref a1) (C := RX8) (T := TX8) (N := 14) hx hb hts xin_X8 hown hK hP 0 rfl rfl 0 (by decide) (hts _ (xw_in 238 (by decide +kernel) rfl)) (fun _ h9 => h9) rfl ddX8_init_117 ?_
  refine lv_iload_n hx hb ddX8_init_120 rfl (lv_at hl 0 rfl) ?_
  refine va_new (ci := 6) (fs := [.int 0, .int 0, .null]) (C := RX7) (T := TX7) (N := 3) hx hb hts xin_X7 tyX7 tyX7_ok hown (hts _ (xw_in 75 (by decide +kernel) rfl)) (hts _ (xw_in 216 (by decide +kernel) rfl)) (hts _ (xw_in 59 (by decide +kernel) rfl)) hK hP hD hS hA rfl df_X7 (Nat.le_of_ble_eq_true rfl) (Nat.le_of_ble_eq_true rfl) ddX8_init_121 (fun a12 H hP hD hS => ?_)
  have hP : va_P D vwCl (([(h0, .inr (7, [.ref a1, .ref a2, .ref a3, .ref a4, .ref a5, .ref a6, .ref a7, .ref a8, .ref a9, .ref a10, .int 0, .int 0, .long 0, .long 1])), (a1, .inl (cS, 6, .inr (.inr (.inr (.inr (va_up (fun _ => none) 0 (some a11))))))), (a2, .inl (cS, 4, .inr (.inr (.inr (.inr (fun _ => none)))))), (a5, .inl (cR, 3, .inr (.inr (.inr (.inr (fun _ => none))))))] ++ r8) ++ [(a12, .inr (6, [.int 0, .int 0, .null]))]) H := hP
  have hD : va_D A (([(h0, .inr (7, [.ref a1, .ref a2, .ref a3, .ref a4, .ref a5, .ref a6, .ref a7, .ref a8, .ref a9, .ref a10, .int 0, .int 0, .long 0, .long 1])), (a1, .inl (cS, 6, .inr (.inr (.inr (.inr (va_up (fun _ => none) 0 (some a11))))))), (a2, .inl (cS, 4, .inr (.inr (.inr (.inr (fun _ => none)))))), (a5, .inl (cR, 3, .inr (.inr (.inr (.inr (fun _ => none))))))] ++ r8) ++ [(a12, .inr (6, [.int 0, .int 0, .null]))]) := hD
  refine W.widen (k := 37) (n := 542) (by omega) (by omega) ?_
  refine lv_dup hx hb ddX8_init_124 rfl ?_
  refine lv_bipush (v := 40) hx hb ddX8_init_125 (by decide) ?_
  have hPc := xj_one hP
  have hDc := xj_oneD hD
  have hKc := hK.sub (tys' := []) [] rfl
  have hFc := xj_fr hD hS hA
  refine va_callv (va_runI (As := [.int 40]) (rest := [.ref a12, .int 1, .ref a1]) ⟨hx, hb, hml, hown, hts⟩ (ci_X7 l D a12 H.size 40 40 (by decide) (by decide) (by decide)) (cwI 1 hts (xi_good xw_good (xw_in 219 (by decide +kernel) rfl)) rfl rfl rfl (hts _ (xw_in 59 (by decide +kernel) rfl)) (hts _ (xw_in 217 (by decide +kernel) rfl)) (hts _ (xw_in 218 (by decide +kernel) rfl)) rfl (by decide +kernel) ⟨Nat.le_of_ble_eq_true rfl, Nat.le_of_ble_eq_true rfl⟩) ⟨fun a U g mk q => by obtain ⟨q0, q1, qP, qK, qD⟩ := q; exact ⟨q0, q1, qP, va_K.moved (u := U) (U := U.calling g mk a) (Vm.Alike.refl U.vm) qK, qD⟩, fun U hU hW => ⟨rfl, by rw [hU], by rw [hU]; exact hPc, va_K.moved hW.alike hKc, hDc.weaken (fun _ _ _ _ => trivial)⟩⟩ rfl rfl hl.1 rfl (lv_room (Nat.le_of_ble_eq_true rfl)) ddX8_init_127 ⟨Nat.le_of_ble_eq_true rfl, Nat.le_of_ble_eq_true rfl⟩) hS (fun q _ h => hFc q h) hFc (fun u12p t H1 locs ht hvm hw hB hz1 hk1 hS => ?_)
  obtain ⟨cA, u12⟩ := u12p
  obtain ⟨hP1, hK1, hD1⟩ := hB
  rw [ht] at hP1
  have hK1 := va_K.moved hvm.symm hK1
  obtain ⟨hP, hD⟩ := xj_join hP hD hk1 hFc hP1 hD1
  have hK := hK.app hK1
  generalize H1 = H at hP hS ⊢
  obtain rfl : cI = cA := xk_int hK (i := 1) (j := 3) rfl rfl
  have hK : va_K D vwCl [(cS, .object "CoatGoals$Strip"), (cI, .int), (cR, .object "CoatGoals$Republic")] s := hK.sub (tys' := [(cS, .object "CoatGoals$Strip"), (cI, .int), (cR, .object "CoatGoals$Republic")]) [0, 1, 2] rfl
  have hP : va_P D vwCl (([(h0, .inr (7, [.ref a1, .ref a2, .ref a3, .ref a4, .ref a5, .ref a6, .ref a7, .ref a8, .ref a9, .ref a10, .int 0, .int 0, .long 0, .long 1])), (a1, .inl (cS, 6, .inr (.inr (.inr (.inr (va_up (fun _ => none) 0 (some a11))))))), (a2, .inl (cS, 4, .inr (.inr (.inr (.inr (fun _ => none)))))), (a5, .inl (cR, 3, .inr (.inr (.inr (.inr (fun _ => none))))))] ++ r8) ++ wX7 cI a12 40 u12) H := hP
  have hD : va_D A (([(h0, .inr (7, [.ref a1, .ref a2, .ref a3, .ref a4, .ref a5, .ref a6, .ref a7, .ref a8, .ref a9, .ref a10, .int 0, .int 0, .long 0, .long 1])), (a1, .inl (cS, 6, .inr (.inr (.inr (.inr (va_up (fun _ => none) 0 (some a11))))))), (a2, .inl (cS, 4, .inr (.inr (.inr (.inr (fun _ => none)))))), (a5, .inl (cR, 3, .inr (.inr (.inr (.inr (fun _ => none))))))] ++ r8) ++ wX7 cI a12 40 u12) := hD
  refine W.widen (k := 38) (n := 582) (by omega) (by omega) ?_
  have hP := xj_mvP hP
  have hD := xj_mvD hD
  have hP : va_P D vwCl (([(h0, .inr (7, [.ref a1, .ref a2, .ref a3, .ref a4, .ref a5, .ref a6, .ref a7, .ref a8, .ref a9, .ref a10, .int 0, .int 0, .long 0, .long 1])), (a1, .inl (cS, 6, .inr (.inr (.inr (.inr (va_up (fun _ => none) 0 (some a11))))))), (a2, .inl (cS, 4, .inr (.inr (.inr (.inr (fun _ => none)))))), (a5, .inl (cR, 3, .inr (.inr (.inr (.inr (fun _ => none))))))] ++ wX7 cI a12 40 u12) ++ r8) H := hP
  have hD : va_D A (([(h0, .inr (7, [.ref a1, .ref a2, .ref a3, .ref a4, .ref a5, .ref a6, .ref a7, .ref a8, .ref a9, .ref a10, .int 0, .int 0, .long 0, .long 1])), (a1, .inl (cS, 6, .inr (.inr (.inr (.inr (va_up (fun _ => none) 0 (some a11))))))), (a2, .inl (cS, 4, .inr (.inr (.inr (.inr (fun _ => none)))))), (a5, .inl (cR, 3, .inr (.inr (.inr (.inr (fun _ => none))))))] ++ wX7 cI a12 40 u12) ++ r8) := hD
  refine va_astq (r := (RX7, TX7, 3)) hx hb hK hP hD hS 1 0 4 6 rfl rfl rfl rfl (by unfold vp_in; decide) ddX8_init_130 (fun H locs hP hD hS => ?_)
  have hP : va_P D vwCl (([(h0, .inr (7, [.ref a1, .ref a2, .ref a3, .ref a4, .ref a5, .ref a6, .ref a7, .ref a8, .ref a9, .ref a10, .int 0, .int 0, .long 0, .long 1])), (a1, .inl (cS, 6, .inr (.inr (.inr (.inr (va_up (va_up (fun _ => none) 0 (some a11)) 1 (some a12))))))), (a2, .inl (cS, 4, .inr (.inr (.inr (.inr (fun _ => none)))))), (a5, .inl (cR, 3, .inr (.inr (.inr (.inr (fun _ => none))))))] ++ wX7 cI a12 40 u12) ++ r8) H := hP
  have hD : va_D A (([(h0, .inr (7, [.ref a1, .ref a2, .ref a3, .ref a4, .ref a5, .ref a6, .ref a7, .ref a8, .ref a9, .ref a10, .int 0, .int 0, .long 0, .long 1])), (a1, .inl (cS, 6, .inr (.inr (.inr (.inr (va_up (va_up (fun _ => none) 0 (some a11)) 1 (some a12))))))), (a2, .inl (cS, 4, .inr (.inr (.inr (.inr (fun _ => none)))))), (a5, .inl (cR, 3, .inr (.inr (.inr (.inr (fun _ => none))))))] ++ wX7 cI a12 40 u12) ++ r8) := hD
  rw [List.append_assoc] at hP hD
  obtain ⟨r9, er9⟩ : ∃ z, z = wX7 cI a12 40 u12 ++ r8 := ⟨_, rfl⟩
  rw [← er9] at hP hD
  have hP : va_P D vwCl ([(h0, .inr (7, [.ref a1, .ref a2, .ref a3, .ref a4, .ref a5, .ref a6, .ref a7, .ref a8, .ref a9, .ref a10, .int 0, .int 0, .long 0, .long 1])), (a1, .inl (cS, 6, .inr (.inr (.inr (.inr (va_up (va_up (fun _ => none) 0 (some a11)) 1 (some a12))))))), (a2, .inl (cS, 4, .inr (.inr (.inr (.inr (fun _ => none)))))), (a5, .inl (cR, 3, .inr (.inr (.inr (.inr (fun _ => none))))))] ++ r9) H := hP
  have hD : va_D A ([(h0, .inr (7, [.ref a1, .ref a2, .ref a3, .ref a4, .ref a5, .ref a6, .ref a7, .ref a8, .ref a9, .ref a10, .int 0, .int 0, .long 0, .long 1])), (a1, .inl (cS, 6, .inr (.inr (.inr (.inr (va_up (va_up (fun _ => none) 0 (some a11)) 1 (some a12))))))), (a2, .inl (cS, 4, .inr (.inr (.inr (.inr (fun _ => none)))))), (a5, .inl (cR, 3, .inr (.inr (.inr (.inr (fun _ => none))))))] ++ r9) := hD
  refine lv_iinc (v := 2) (lv' := [(1, .int 2), (0, .ref h0)]) hx hb ddX8_init_131 hl (k := 0) rfl (by decide) (by decide) rfl (fun ls hl => ?_)
  refine lv_goto (tgt := 110) hx hb ddX8_init_134 (by decide) ?_
  refine lv_iload_n hx hb ddX8_init_110 rfl (lv_at hl 0 rfl) ?_
  refine lv_bipush (v := 6) hx hb ddX8_init_111 (by decide) ?_
  refine lv_icmp_ge (tgt := 137) hx hb ddX8_init_113 (by decide) (fun c9 => absurd c9 (by decide)) (fun c9 => ?_)
  refine lv_aload_n hx hb ddX8_init_116 rfl (lv_at hl 1 rfl) ?_
  refine va_get (D := D) (ci := 7) (v := .ref a1) (C := RX8) (T := TX8) (N := 14) hx hb hts xin_X8 hown hK hP 0 rfl rfl 0 (by decide) (hts _ (xw_in 238 (by decide +kernel) rfl)) (fun _ h9 => h9) rfl ddX8_init_117 ?_
  refine lv_iload_n hx hb ddX8_init_120 rfl (lv_at hl 0 rfl) ?_
  refine va_new (ci := 6) (fs := [.int 0, .int 0, .null]) (C := RX7) (T := TX7) (N := 3) hx hb hts xin_X7 tyX7 tyX7_ok hown (hts _ (xw_in 75 (by decide +kernel) rfl)) (hts _ (xw_in 216 (by decide +kernel) rfl)) (hts _ (xw_in 59 (by decide +kernel) rfl)) hK hP hD hS hA rfl df_X7 (Nat.le_of_ble_eq_true rfl) (Nat.le_of_ble_eq_true rfl) ddX8_init_121 (fun a13 H hP hD hS => ?_)
  have hP : va_P D vwCl (([(h0, .inr (7, [.ref a1, .ref a2, .ref a3, .ref a4, .ref a5, .ref a6, .ref a7, .ref a8, .ref a9, .ref a10, .int 0, .int 0, .long 0, .long 1])), (a1, .inl (cS, 6, .inr (.inr (.inr (.inr (va_up (va_up (fun _ => none) 0 (some a11)) 1 (some a12))))))), (a2, .inl (cS, 4, .inr (.inr (.inr (.inr (fun _ => none)))))), (a5, .inl (cR, 3, .inr (.inr (.inr (.inr (fun _ => none))))))] ++ r9) ++ [(a13, .inr (6, [.int 0, .int 0, .null]))]) H := hP
  have hD : va_D A (([(h0, .inr (7, [.ref a1, .ref a2, .ref a3, .ref a4, .ref a5, .ref a6, .ref a7, .ref a8, .ref a9, .ref a10, .int 0, .int 0, .long 0, .long 1])), (a1, .inl (cS, 6, .inr (.inr (.inr (.inr (va_up (va_up (fun _ => none) 0 (some a11)) 1 (some a12))))))), (a2, .inl (cS, 4, .inr (.inr (.inr (.inr (fun _ => none)))))), (a5, .inl (cR, 3, .inr (.inr (.inr (.inr (fun _ => none))))))] ++ r9) ++ [(a13, .inr (6, [.int 0, .int 0, .null]))]) := hD
  refine W.widen (k := 39) (n := 585) (by omega) (by omega) ?_
  refine lv_dup hx hb ddX8_init_124 rfl ?_
  refine lv_bipush (v := 40) hx hb ddX8_init_125 (by decide) ?_
  have hPc := xj_one hP
  have hDc := xj_oneD hD
  have hKc := hK.sub (tys' := []) [] rfl
  have hFc := xj_fr hD hS hA
  refine va_callv (va_runI (As := [.int 40]) (rest := [.ref a13, .int 2, .ref a1]) ⟨hx, hb, hml, hown, hts⟩ (ci_X7 l D a13 H.size 40 40 (by decide) (by decide) (by decide)) (cwI 1 hts (xi_good xw_good (xw_in 219 (by decide +kernel) rfl)) rfl rfl rfl (hts _ (xw_in 59 (by decide +kernel) rfl)) (hts _ (xw_in 217 (by decide +kernel) rfl)) (hts _ (xw_in 218 (by decide +kernel) rfl)) rfl (by decide +kernel) ⟨Nat.le_of_ble_eq_true rfl, Nat.le_of_ble_eq_true rfl⟩) ⟨fun a U g mk q => by obtain ⟨q0, q1, qP, qK, qD⟩ := q; exact ⟨q0, q1, qP, va_K.moved (u := U) (U := U.calling g mk a) (Vm.Alike.refl U.vm) qK, qD⟩, fun U hU hW => ⟨rfl, by rw [hU], by rw [hU]; exact hPc, va_K.moved hW.alike hKc, hDc.weaken (fun _ _ _ _ => trivial)⟩⟩ rfl rfl hl.1 rfl (lv_room (Nat.le_of_ble_eq_true rfl)) ddX8_init_127 ⟨Nat.le_of_ble_eq_true rfl, Nat.le_of_ble_eq_true rfl⟩) hS (fun q _ h => hFc q h) hFc (fun u13p t H1 locs ht hvm hw hB hz1 hk1 hS => ?_)
  obtain ⟨cA, u13⟩ := u13p
  obtain ⟨hP1, hK1, hD1⟩ := hB
  rw [ht] at hP1
  have hK1 := va_K.moved hvm.symm hK1
  obtain ⟨hP, hD⟩ := xj_join hP hD hk1 hFc hP1 hD1
  have hK := hK.app hK1
  generalize H1 = H at hP hS ⊢
  obtain rfl : cI = cA := xk_int hK (i := 1) (j := 3) rfl rfl
  have hK : va_K D vwCl [(cS, .object "CoatGoals$Strip"), (cI, .int), (cR, .object "CoatGoals$Republic")] s := hK.sub (tys' := [(cS, .object "CoatGoals$Strip"), (cI, .int), (cR, .object "CoatGoals$Republic")]) [0, 1, 2] rfl
  have hP : va_P D vwCl (([(h0, .inr (7, [.ref a1, .ref a2, .ref a3, .ref a4, .ref a5, .ref a6, .ref a7, .ref a8, .ref a9, .ref a10, .int 0, .int 0, .long 0, .long 1])), (a1, .inl (cS, 6, .inr (.inr (.inr (.inr (va_up (va_up (fun _ => none) 0 (some a11)) 1 (some a12))))))), (a2, .inl (cS, 4, .inr (.inr (.inr (.inr (fun _ => none)))))), (a5, .inl (cR, 3, .inr (.inr (.inr (.inr (fun _ => none))))))] ++ r9) ++ wX7 cI a13 40 u13) H := hP
  have hD : va_D A (([(h0, .inr (7, [.ref a1, .ref a2, .ref a3, .ref a4, .ref a5, .ref a6, .ref a7, .ref a8, .ref a9, .ref a10, .int 0, .int 0, .long 0, .long 1])), (a1, .inl (cS, 6, .inr (.inr (.inr (.inr (va_up (va_up (fun _ => none) 0 (some a11)) 1 (some a12))))))), (a2, .inl (cS, 4, .inr (.inr (.inr (.inr (fun _ => none)))))), (a5, .inl (cR, 3, .inr (.inr (.inr (.inr (fun _ => none))))))] ++ r9) ++ wX7 cI a13 40 u13) := hD
  refine W.widen (k := 40) (n := 625) (by omega) (by omega) ?_
  have hP := xj_mvP hP
  have hD := xj_mvD hD
  have hP : va_P D vwCl (([(h0, .inr (7, [.ref a1, .ref a2, .ref a3, .ref a4, .ref a5, .ref a6, .ref a7, .ref a8, .ref a9, .ref a10, .int 0, .int 0, .long 0, .long 1])), (a1, .inl (cS, 6, .inr (.inr (.inr (.inr (va_up (va_up (fun _ => none) 0 (some a11)) 1 (some a12))))))), (a2, .inl (cS, 4, .inr (.inr (.inr (.inr (fun _ => none)))))), (a5, .inl (cR, 3, .inr (.inr (.inr (.inr (fun _ => none))))))] ++ wX7 cI a13 40 u13) ++ r9) H := hP
  have hD : va_D A (([(h0, .inr (7, [.ref a1, .ref a2, .ref a3, .ref a4, .ref a5, .ref a6, .ref a7, .ref a8, .ref a9, .ref a10, .int 0, .int 0, .long 0, .long 1])), (a1, .inl (cS, 6, .inr (.inr (.inr (.inr (va_up (va_up (fun _ => none) 0 (some a11)) 1 (some a12))))))), (a2, .inl (cS, 4, .inr (.inr (.inr (.inr (fun _ => none)))))), (a5, .inl (cR, 3, .inr (.inr (.inr (.inr (fun _ => none))))))] ++ wX7 cI a13 40 u13) ++ r9) := hD
  refine va_astq (r := (RX7, TX7, 3)) hx hb hK hP hD hS 1 0 4 6 rfl rfl rfl rfl (by unfold vp_in; decide) ddX8_init_130 (fun H locs hP hD hS => ?_)
  have hP : va_P D vwCl (([(h0, .inr (7, [.ref a1, .ref a2, .ref a3, .ref a4, .ref a5, .ref a6, .ref a7, .ref a8, .ref a9, .ref a10, .int 0, .int 0, .long 0, .long 1])), (a1, .inl (cS, 6, .inr (.inr (.inr (.inr (va_up (va_up (va_up (fun _ => none) 0 (some a11)) 1 (some a12)) 2 (some a13))))))), (a2, .inl (cS, 4, .inr (.inr (.inr (.inr (fun _ => none)))))), (a5, .inl (cR, 3, .inr (.inr (.inr (.inr (fun _ => none))))))] ++ wX7 cI a13 40 u13) ++ r9) H := hP
  have hD : va_D A (([(h0, .inr (7, [.ref a1, .ref a2, .ref a3, .ref a4, .ref a5, .ref a6, .ref a7, .ref a8, .ref a9, .ref a10, .int 0, .int 0, .long 0, .long 1])), (a1, .inl (cS, 6, .inr (.inr (.inr (.inr (va_up (va_up (va_up (fun _ => none) 0 (some a11)) 1 (some a12)) 2 (some a13))))))), (a2, .inl (cS, 4, .inr (.inr (.inr (.inr (fun _ => none)))))), (a5, .inl (cR, 3, .inr (.inr (.inr (.inr (fun _ => none))))))] ++ wX7 cI a13 40 u13) ++ r9) := hD
  rw [List.append_assoc] at hP hD
  obtain ⟨r10, er10⟩ : ∃ z, z = wX7 cI a13 40 u13 ++ r9 := ⟨_, rfl⟩
  rw [← er10] at hP hD
  have hP : va_P D vwCl ([(h0, .inr (7, [.ref a1, .ref a2, .ref a3, .ref a4, .ref a5, .ref a6, .ref a7, .ref a8, .ref a9, .ref a10, .int 0, .int 0, .long 0, .long 1])), (a1, .inl (cS, 6, .inr (.inr (.inr (.inr (va_up (va_up (va_up (fun _ => none) 0 (some a11)) 1 (some a12)) 2 (some a13))))))), (a2, .inl (cS, 4, .inr (.inr (.inr (.inr (fun _ => none)))))), (a5, .inl (cR, 3, .inr (.inr (.inr (.inr (fun _ => none))))))] ++ r10) H := hP
  have hD : va_D A ([(h0, .inr (7, [.ref a1, .ref a2, .ref a3, .ref a4, .ref a5, .ref a6, .ref a7, .ref a8, .ref a9, .ref a10, .int 0, .int 0, .long 0, .long 1])), (a1, .inl (cS, 6, .inr (.inr (.inr (.inr (va_up (va_up (va_up (fun _ => none) 0 (some a11)) 1 (some a12)) 2 (some a13))))))), (a2, .inl (cS, 4, .inr (.inr (.inr (.inr (fun _ => none)))))), (a5, .inl (cR, 3, .inr (.inr (.inr (.inr (fun _ => none))))))] ++ r10) := hD
  refine lv_iinc (v := 3) (lv' := [(1, .int 3), (0, .ref h0)]) hx hb ddX8_init_131 hl (k := 0) rfl (by decide) (by decide) rfl (fun ls hl => ?_)
  refine lv_goto (tgt := 110) hx hb ddX8_init_134 (by decide) ?_
  refine lv_iload_n hx hb ddX8_init_110 rfl (lv_at hl 0 rfl) ?_
  refine lv_bipush (v := 6) hx hb ddX8_init_111 (by decide) ?_
  refine lv_icmp_ge (tgt := 137) hx hb ddX8_init_113 (by decide) (fun c9 => absurd c9 (by decide)) (fun c9 => ?_)
  refine lv_aload_n hx hb ddX8_init_116 rfl (lv_at hl 1 rfl) ?_
  refine va_get (D := D) (ci := 7) (v := .ref a1) (C := RX8) (T := TX8) (N := 14) hx hb hts xin_X8 hown hK hP 0 rfl rfl 0 (by decide) (hts _ (xw_in 238 (by decide +kernel) rfl)) (fun _ h9 => h9) rfl ddX8_init_117 ?_
  refine lv_iload_n hx hb ddX8_init_120 rfl (lv_at hl 0 rfl) ?_
  refine va_new (ci := 6) (fs := [.int 0, .int 0, .null]) (C := RX7) (T := TX7) (N := 3) hx hb hts xin_X7 tyX7 tyX7_ok hown (hts _ (xw_in 75 (by decide +kernel) rfl)) (hts _ (xw_in 216 (by decide +kernel) rfl)) (hts _ (xw_in 59 (by decide +kernel) rfl)) hK hP hD hS hA rfl df_X7 (Nat.le_of_ble_eq_true rfl) (Nat.le_of_ble_eq_true rfl) ddX8_init_121 (fun a14 H hP hD hS => ?_)
  have hP : va_P D vwCl (([(h0, .inr (7, [.ref a1, .ref a2, .ref a3, .ref a4, .ref a5, .ref a6, .ref a7, .ref a8, .ref a9, .ref a10, .int 0, .int 0, .long 0, .long 1])), (a1, .inl (cS, 6, .inr (.inr (.inr (.inr (va_up (va_up (va_up (fun _ => none) 0 (some a11)) 1 (some a12)) 2 (some a13))))))), (a2, .inl (cS, 4, .inr (.inr (.inr (.inr (fun _ => none)))))), (a5, .inl (cR, 3, .inr (.inr (.inr (.inr (fun _ => none))))))] ++ r10) ++ [(a14, .inr (6, [.int 0, .int 0, .null]))]) H := hP
  have hD : va_D A (([(h0, .inr (7, [.ref a1, .ref a2, .ref a3, .ref a4, .ref a5, .ref a6, .ref a7, .ref a8, .ref a9, .ref a10, .int 0, .int 0, .long 0, .long 1])), (a1, .inl (cS, 6, .inr (.inr (.inr (.inr (va_up (va_up (va_up (fun _ => none) 0 (some a11)) 1 (some a12)) 2 (some a13))))))), (a2, .inl (cS, 4, .inr (.inr (.inr (.inr (fun _ => none)))))), (a5, .inl (cR, 3, .inr (.inr (.inr (.inr (fun _ => none))))))] ++ r10) ++ [(a14, .inr (6, [.int 0, .int 0, .null]))]) := hD
  refine W.widen (k := 41) (n := 628) (by omega) (by omega) ?_
  refine lv_dup hx hb ddX8_init_124 rfl ?_
  refine lv_bipush (v := 40) hx hb ddX8_init_125 (by decide) ?_
  have hPc := xj_one hP
  have hDc := xj_oneD hD
  have hKc := hK.sub (tys' := []) [] rfl
  have hFc := xj_fr hD hS hA
  refine va_callv (va_runI (As := [.int 40]) (rest := [.ref a14, .int 3, .ref a1]) ⟨hx, hb, hml, hown, hts⟩ (ci_X7 l D a14 H.size 40 40 (by decide) (by decide) (by decide)) (cwI 1 hts (xi_good xw_good (xw_in 219 (by decide +kernel) rfl)) rfl rfl rfl (hts _ (xw_in 59 (by decide +kernel) rfl)) (hts _ (xw_in 217 (by decide +kernel) rfl)) (hts _ (xw_in 218 (by decide +kernel) rfl)) rfl (by decide +kernel) ⟨Nat.le_of_ble_eq_true rfl, Nat.le_of_ble_eq_true rfl⟩) ⟨fun a U g mk q => by obtain ⟨q0, q1, qP, qK, qD⟩ := q; exact ⟨q0, q1, qP, va_K.moved (u := U) (U := U.calling g mk a) (Vm.Alike.refl U.vm) qK, qD⟩, fun U hU hW => ⟨rfl, by rw [hU], by rw [hU]; exact hPc, va_K.moved hW.alike hKc, hDc.weaken (fun _ _ _ _ => trivial)⟩⟩ rfl rfl hl.1 rfl (lv_room (Nat.le_of_ble_eq_true rfl)) ddX8_init_127 ⟨Nat.le_of_ble_eq_true rfl, Nat.le_of_ble_eq_true rfl⟩) hS (fun q _ h => hFc q h) hFc (fun u14p t H1 locs ht hvm hw hB hz1 hk1 hS => ?_)
  obtain ⟨cA, u14⟩ := u14p
  obtain ⟨hP1, hK1, hD1⟩ := hB
  rw [ht] at hP1
  have hK1 := va_K.moved hvm.symm hK1
  obtain ⟨hP, hD⟩ := xj_join hP hD hk1 hFc hP1 hD1
  have hK := hK.app hK1
  generalize H1 = H at hP hS ⊢
  obtain rfl : cI = cA := xk_int hK (i := 1) (j := 3) rfl rfl
  have hK : va_K D vwCl [(cS, .object "CoatGoals$Strip"), (cI, .int), (cR, .object "CoatGoals$Republic")] s := hK.sub (tys' := [(cS, .object "CoatGoals$Strip"), (cI, .int), (cR, .object "CoatGoals$Republic")]) [0, 1, 2] rfl
  have hP : va_P D vwCl (([(h0, .inr (7, [.ref a1, .ref a2, .ref a3, .ref a4, .ref a5, .ref a6, .ref a7, .ref a8, .ref a9, .ref a10, .int 0, .int 0, .long 0, .long 1])), (a1, .inl (cS, 6, .inr (.inr (.inr (.inr (va_up (va_up (va_up (fun _ => none) 0 (some a11)) 1 (some a12)) 2 (some a13))))))), (a2, .inl (cS, 4, .inr (.inr (.inr (.inr (fun _ => none)))))), (a5, .inl (cR, 3, .inr (.inr (.inr (.inr (fun _ => none))))))] ++ r10) ++ wX7 cI a14 40 u14) H := hP
  have hD : va_D A (([(h0, .inr (7, [.ref a1, .ref a2, .ref a3, .ref a4, .ref a5, .ref a6, .ref a7, .ref a8, .ref a9, .ref a10, .int 0, .int 0, .long 0, .long 1])), (a1, .inl (cS, 6, .inr (.inr (.inr (.inr (va_up (va_up (va_up (fun _ => none) 0 (some a11)) 1 (some a12)) 2 (some a13))))))), (a2, .inl (cS, 4, .inr (.inr (.inr (.inr (fun _ => none)))))), (a5, .inl (cR, 3, .inr (.inr (.inr (.inr (fun _ => none))))))] ++ r10) ++ wX7 cI a14 40 u14) := hD
  refine W.widen (k := 42) (n := 668) (by omega) (by omega) ?_
  have hP := xj_mvP hP
  have hD := xj_mvD hD
  have hP : va_P D vwCl (([(h0, .inr (7, [.ref a1, .ref a2, .ref a3, .ref a4, .ref a5, .ref a6, .ref a7, .ref a8, .ref a9, .ref a10, .int 0, .int 0, .long 0, .long 1])), (a1, .inl (cS, 6, .inr (.inr (.inr (.inr (va_up (va_up (va_up (fun _ => none) 0 (some a11)) 1 (some a12)) 2 (some a13))))))), (a2, .inl (cS, 4, .inr (.inr (.inr (.inr (fun _ => none)))))), (a5, .inl (cR, 3, .inr (.inr (.inr (.inr (fun _ => none))))))] ++ wX7 cI a14 40 u14) ++ r10) H := hP
  have hD : va_D A (([(h0, .inr (7, [.ref a1, .ref a2, .ref a3, .ref a4, .ref a5, .ref a6, .ref a7, .ref a8, .ref a9, .ref a10, .int 0, .int 0, .long 0, .long 1])), (a1, .inl (cS, 6, .inr (.inr (.inr (.inr (va_up (va_up (va_up (fun _ => none) 0 (some a11)) 1 (some a12)) 2 (some a13))))))), (a2, .inl (cS, 4, .inr (.inr (.inr (.inr (fun _ => none)))))), (a5, .inl (cR, 3, .inr (.inr (.inr (.inr (fun _ => none))))))] ++ wX7 cI a14 40 u14) ++ r10) := hD
  refine va_astq (r := (RX7, TX7, 3)) hx hb hK hP hD hS 1 0 4 6 rfl rfl rfl rfl (by unfold vp_in; decide) ddX8_init_130 (fun H locs hP hD hS => ?_)
  have hP : va_P D vwCl (([(h0, .inr (7, [.ref a1, .ref a2, .ref a3, .ref a4, .ref a5, .ref a6, .ref a7, .ref a8, .ref a9, .ref a10, .int 0, .int 0, .long 0, .long 1])), (a1, .inl (cS, 6, .inr (.inr (.inr (.inr (va_up (va_up (va_up (va_up (fun _ => none) 0 (some a11)) 1 (some a12)) 2 (some a13)) 3 (some a14))))))), (a2, .inl (cS, 4, .inr (.inr (.inr (.inr (fun _ => none)))))), (a5, .inl (cR, 3, .inr (.inr (.inr (.inr (fun _ => none))))))] ++ wX7 cI a14 40 u14) ++ r10) H := hP
  have hD : va_D A (([(h0, .inr (7, [.ref a1, .ref a2, .ref a3, .ref a4, .ref a5, .ref a6, .ref a7, .ref a8, .ref a9, .ref a10, .int 0, .int 0, .long 0, .long 1])), (a1, .inl (cS, 6, .inr (.inr (.inr (.inr (va_up (va_up (va_up (va_up (fun _ => none) 0 (some a11)) 1 (some a12)) 2 (some a13)) 3 (some a14))))))), (a2, .inl (cS, 4, .inr (.inr (.inr (.inr (fun _ => none)))))), (a5, .inl (cR, 3, .inr (.inr (.inr (.inr (fun _ => none))))))] ++ wX7 cI a14 40 u14) ++ r10) := hD
  rw [List.append_assoc] at hP hD
  obtain ⟨r11, er11⟩ : ∃ z, z = wX7 cI a14 40 u14 ++ r10 := ⟨_, rfl⟩
  rw [← er11] at hP hD
  have hP : va_P D vwCl ([(h0, .inr (7, [.ref a1, .ref a2, .ref a3, .ref a4, .ref a5, .ref a6, .ref a7, .ref a8, .ref a9, .ref a10, .int 0, .int 0, .long 0, .long 1])), (a1, .inl (cS, 6, .inr (.inr (.inr (.inr (va_up (va_up (va_up (va_up (fun _ => none) 0 (some a11)) 1 (some a12)) 2 (some a13)) 3 (some a14))))))), (a2, .inl (cS, 4, .inr (.inr (.inr (.inr (fun _ => none)))))), (a5, .inl (cR, 3, .inr (.inr (.inr (.inr (fun _ => none))))))] ++ r11) H := hP
  have hD : va_D A ([(h0, .inr (7, [.ref a1, .ref a2, .ref a3, .ref a4, .ref a5, .ref a6, .ref a7, .ref a8, .ref a9, .ref a10, .int 0, .int 0, .long 0, .long 1])), (a1, .inl (cS, 6, .inr (.inr (.inr (.inr (va_up (va_up (va_up (va_up (fun _ => none) 0 (some a11)) 1 (some a12)) 2 (some a13)) 3 (some a14))))))), (a2, .inl (cS, 4, .inr (.inr (.inr (.inr (fun _ => none)))))), (a5, .inl (cR, 3, .inr (.inr (.inr (.inr (fun _ => none))))))] ++ r11) := hD
  refine lv_iinc (v := 4) (lv' := [(1, .int 4), (0, .ref h0)]) hx hb ddX8_init_131 hl (k := 0) rfl (by decide) (by decide) rfl (fun ls hl => ?_)
  refine lv_goto (tgt := 110) hx hb ddX8_init_134 (by decide) ?_
  refine lv_iload_n hx hb ddX8_init_110 rfl (lv_at hl 0 rfl) ?_
  refine lv_bipush (v := 6) hx hb ddX8_init_111 (by decide) ?_
  refine lv_icmp_ge (tgt := 137) hx hb ddX8_init_113 (by decide) (fun c9 => absurd c9 (by decide)) (fun c9 => ?_)
  refine lv_aload_n hx hb ddX8_init_116 rfl (lv_at hl 1 rfl) ?_
  refine va_get (D := D) (ci := 7) (v := .ref a1) (C := RX8) (T := TX8) (N := 14) hx hb hts xin_X8 hown hK hP 0 rfl rfl 0 (by decide) (hts _ (xw_in 238 (by decide +kernel) rfl)) (fun _ h9 => h9) rfl ddX8_init_117 ?_
  refine lv_iload_n hx hb ddX8_init_120 rfl (lv_at hl 0 rfl) ?_
  refine va_new (ci := 6) (fs := [.int 0, .int 0, .null]) (C := RX7) (T := TX7) (N := 3) hx hb hts xin_X7 tyX7 tyX7_ok hown (hts _ (xw_in 75 (by decide +kernel) rfl)) (hts _ (xw_in 216 (by decide +kernel) rfl)) (hts _ (xw_in 59 (by decide +kernel) rfl)) hK hP hD hS hA rfl df_X7 (Nat.le_of_ble_eq_true rfl) (Nat.le_of_ble_eq_true rfl) ddX8_init_121 (fun a15 H hP hD hS => ?_)
  have hP : va_P D vwCl (([(h0, .inr (7, [.ref a1, .ref a2, .ref a3, .ref a4, .ref a5, .ref a6, .ref a7, .ref a8, .ref a9, .ref a10, .int 0, .int 0, .long 0, .long 1])), (a1, .inl (cS, 6, .inr (.inr (.inr (.inr (va_up (va_up (va_up (va_up (fun _ => none) 0 (some a11)) 1 (some a12)) 2 (some a13)) 3 (some a14))))))), (a2, .inl (cS, 4, .inr (.inr (.inr (.inr (fun _ => none)))))), (a5, .inl (cR, 3, .inr (.inr (.inr (.inr (fun _ => none))))))] ++ r11) ++ [(a15, .inr (6, [.int 0, .int 0, .null]))]) H := hP
  have hD : va_D A (([(h0, .inr (7, [.ref a1, .ref a2, .ref a3, .ref a4, .ref a5, .ref a6, .ref a7, .ref a8, .ref a9, .ref a10, .int 0, .int 0, .long 0, .long 1])), (a1, .inl (cS, 6, .inr (.inr (.inr (.inr (va_up (va_up (va_up (va_up (fun _ => none) 0 (some a11)) 1 (some a12)) 2 (some a13)) 3 (some a14))))))), (a2, .inl (cS, 4, .inr (.inr (.inr (.inr (fun _ => none)))))), (a5, .inl (cR, 3, .inr (.inr (.inr (.inr (fun _ => none))))))] ++ r11) ++ [(a15, .inr (6, [.int 0, .int 0, .null]))]) := hD
  refine W.widen (k := 43) (n := 671) (by omega) (by omega) ?_
  refine lv_dup hx hb ddX8_init_124 rfl ?_
  refine lv_bipush (v := 40) hx hb ddX8_init_125 (by decide) ?_
  have hPc := xj_one hP
  have hDc := xj_oneD hD
  have hKc := hK.sub (tys' := []) [] rfl
  have hFc := xj_fr hD hS hA
  refine va_callv (va_runI (As := [.int 40]) (rest := [.ref a15, .int 4, .ref a1]) ⟨hx, hb, hml, hown, hts⟩ (ci_X7 l D a15 H.size 40 40 (by decide) (by decide) (by decide)) (cwI 1 hts (xi_good xw_good (xw_in 219 (by decide +kernel) rfl)) rfl rfl rfl (hts _ (xw_in 59 (by decide +kernel) rfl)) (hts _ (xw_in 217 (by decide +kernel) rfl)) (hts _ (xw_in 218 (by decide +kernel) rfl)) rfl (by decide +kernel) ⟨Nat.le_of_ble_eq_true rfl, Nat.le_of_ble_eq_true rfl⟩) ⟨fun a U g mk q => by obtain ⟨q0, q1, qP, qK, qD⟩ := q; exact ⟨q0, q1, qP, va_K.moved (u := U) (U := U.calling g mk a) (Vm.Alike.refl U.vm) qK, qD⟩, fun U hU hW => ⟨rfl, by rw [hU], by rw [hU]; exact hPc, va_K.moved hW.alike hKc, hDc.weaken (fun _ _ _ _ => trivial)⟩⟩ rfl rfl hl.1 rfl (lv_room (Nat.le_of_ble_eq_true rfl)) ddX8_init_127 ⟨Nat.le_of_ble_eq_true rfl, Nat.le_of_ble_eq_true rfl⟩) hS (fun q _ h => hFc q h) hFc (fun u15p t H1 locs ht hvm hw hB hz1 hk1 hS => ?_)
  obtain ⟨cA, u15⟩ := u15p
  obtain ⟨hP1, hK1, hD1⟩ := hB
  rw [ht] at hP1
  have hK1 := va_K.moved hvm.symm hK1
  obtain ⟨hP, hD⟩ := xj_join hP hD hk1 hFc hP1 hD1
  have hK := hK.app hK1
  generalize H1 = H at hP hS ⊢
  obtain rfl : cI = cA := xk_int hK (i := 1) (j := 3) rfl rfl
  have hK : va_K D vwCl [(cS, .object "CoatGoals$Strip"), (cI, .int), (cR, .object "CoatGoals$Republic")] s := hK.sub (tys' := [(cS, .object "CoatGoals$Strip"), (cI, .int), (cR, .object "CoatGoals$Republic")]) [0, 1, 2] rfl
  have hP : va_P D vwCl (([(h0, .inr (7, [.ref a1, .ref a2, .ref a3, .ref a4, .ref a5, .ref a6, .ref a7, .ref a8, .ref a9, .ref a10, .int 0, .int 0, .long 0, .long 1])), (a1, .inl (cS, 6, .inr (.inr (.inr (.inr (va_up (va_up (va_up (va_up (fun _ => none) 0 (some a11)) 1 (some a12)) 2 (some a13)) 3 (some a14))))))), (a2, .inl (cS, 4, .inr (.inr (.inr (.inr (fun _ => none)))))), (a5, .inl (cR, 3, .inr (.inr (.inr (.inr (fun _ => none))))))] ++ r11) ++ wX7 cI a15 40 u15) H := hP
  have hD : va_D A (([(h0, .inr (7, [.ref a1, .ref a2, .ref a3, .ref a4, .ref a5, .ref a6, .ref a7, .ref a8, .ref a9, .ref a10, .int 0, .int 0, .long 0, .long 1])), (a1, .inl (cS, 6, .inr (.inr (.inr (.inr (va_up (va_up (va_up (va_up (fun _ => none) 0 (some a11)) 1 (some a12)) 2 (some a13)) 3 (some a14))))))), (a2, .inl (cS, 4, .inr (.inr (.inr (.inr (fun _ => none)))))), (a5, .inl (cR, 3, .inr (.inr (.inr (.inr (fun _ => none))))))] ++ r11) ++ wX7 cI a15 40 u15) := hD
  refine W.widen (k := 44) (n := 711) (by omega) (by omega) ?_
  have hP := xj_mvP hP
  have hD := xj_mvD hD
  have hP : va_P D vwCl (([(h0, .inr (7, [.ref a1, .ref a2, .ref a3, .ref a4, .ref a5, .ref a6, .ref a7, .ref a8, .ref a9, .ref a10, .int 0, .int 0, .long 0, .long 1])), (a1, .inl (cS, 6, .inr (.inr (.inr (.inr (va_up (va_up (va_up (va_up (fun _ => none) 0 (some a11)) 1 (some a12)) 2 (some a13)) 3 (some a14))))))), (a2, .inl (cS, 4, .inr (.inr (.inr (.inr (fun _ => none)))))), (a5, .inl (cR, 3, .inr (.inr (.inr (.inr (fun _ => none))))))] ++ wX7 cI a15 40 u15) ++ r11) H := hP
  have hD : va_D A (([(h0, .inr (7, [.ref a1, .ref a2, .ref a3, .ref a4, .ref a5, .ref a6, .ref a7, .ref a8, .ref a9, .ref a10, .int 0, .int 0, .long 0, .long 1])), (a1, .inl (cS, 6, .inr (.inr (.inr (.inr (va_up (va_up (va_up (va_up (fun _ => none) 0 (some a11)) 1 (some a12)) 2 (some a13)) 3 (some a14))))))), (a2, .inl (cS, 4, .inr (.inr (.inr (.inr (fun _ => none)))))), (a5, .inl (cR, 3, .inr (.inr (.inr (.inr (fun _ => none))))))] ++ wX7 cI a15 40 u15) ++ r11) := hD
  refine va_astq (r := (RX7, TX7, 3)) hx hb hK hP hD hS 1 0 4 6 rfl rfl rfl rfl (by unfold vp_in; decide) ddX8_init_130 (fun H locs hP hD hS => ?_)
  have hP : va_P D vwCl (([(h0, .inr (7, [.ref a1, .ref a2, .ref a3, .ref a4, .ref a5, .ref a6, .ref a7, .ref a8, .ref a9, .ref a10, .int 0, .int 0, .long 0, .long 1])), (a1, .inl (cS, 6, .inr (.inr (.inr (.inr (va_up (va_up (va_up (va_up (va_up (fun _ => none) 0 (some a11)) 1 (some a12)) 2 (some a13)) 3 (some a14)) 4 (some a15))))))), (a2, .inl (cS, 4, .inr (.inr (.inr (.inr (fun _ => none)))))), (a5, .inl (cR, 3, .inr (.inr (.inr (.inr (fun _ => none))))))] ++ wX7 cI a15 40 u15) ++ r11) H := hP
  have hD : va_D A (([(h0, .inr (7, [.ref a1, .ref a2, .ref a3, .ref a4, .ref a5, .ref a6, .ref a7, .ref a8, .ref a9, .ref a10, .int 0, .int 0, .long 0, .long 1])), (a1, .inl (cS, 6, .inr (.inr (.inr (.inr (va_up (va_up (va_up (va_up (va_up (fun _ => none) 0 (some a11)) 1 (some a12)) 2 (some a13)) 3 (some a14)) 4 (some a15))))))), (a2, .inl (cS, 4, .inr (.inr (.inr (.inr (fun _ => none)))))), (a5, .inl (cR, 3, .inr (.inr (.inr (.inr (fun _ => none))))))] ++ wX7 cI a15 40 u15) ++ r11) := hD
  rw [List.append_assoc] at hP hD
  obtain ⟨r12, er12⟩ : ∃ z, z = wX7 cI a15 40 u15 ++ r11 := ⟨_, rfl⟩
  rw [← er12] at hP hD
  have hP : va_P D vwCl ([(h0, .inr (7, [.ref a1, .ref a2, .ref a3, .ref a4, .ref a5, .ref a6, .ref a7, .ref a8, .ref a9, .ref a10, .int 0, .int 0, .long 0, .long 1])), (a1, .inl (cS, 6, .inr (.inr (.inr (.inr (va_up (va_up (va_up (va_up (va_up (fun _ => none) 0 (some a11)) 1 (some a12)) 2 (some a13)) 3 (some a14)) 4 (some a15))))))), (a2, .inl (cS, 4, .inr (.inr (.inr (.inr (fun _ => none)))))), (a5, .inl (cR, 3, .inr (.inr (.inr (.inr (fun _ => none))))))] ++ r12) H := hP
  have hD : va_D A ([(h0, .inr (7, [.ref a1, .ref a2, .ref a3, .ref a4, .ref a5, .ref a6, .ref a7, .ref a8, .ref a9, .ref a10, .int 0, .int 0, .long 0, .long 1])), (a1, .inl (cS, 6, .inr (.inr (.inr (.inr (va_up (va_up (va_up (va_up (va_up (fun _ => none) 0 (some a11)) 1 (some a12)) 2 (some a13)) 3 (some a14)) 4 (some a15))))))), (a2, .inl (cS, 4, .inr (.inr (.inr (.inr (fun _ => none)))))), (a5, .inl (cR, 3, .inr (.inr (.inr (.inr (fun _ => none))))))] ++ r12) := hD
  refine lv_iinc (v := 5) (lv' := [(1, .int 5), (0, .ref h0)]) hx hb ddX8_init_131 hl (k := 0) rfl (by decide) (by decide) rfl (fun ls hl => ?_)
  refine lv_goto (tgt := 110) hx hb ddX8_init_134 (by decide) ?_
  refine lv_iload_n hx hb ddX8_init_110 rfl (lv_at hl 0 rfl) ?_
  refine lv_bipush (v := 6) hx hb ddX8_init_111 (by decide) ?_
  refine lv_icmp_ge (tgt := 137) hx hb ddX8_init_113 (by decide) (fun c9 => absurd c9 (by decide)) (fun c9 => ?_)
  refine lv_aload_n hx hb ddX8_init_116 rfl (lv_at hl 1 rfl) ?_
  refine va_get (D := D) (ci := 7) (v := .ref a1) (C := RX8) (T := TX8) (N := 14) hx hb hts xin_X8 hown hK hP 0 rfl rfl 0 (by decide) (hts _ (xw_in 238 (by decide +kernel) rfl)) (fun _ h9 => h9) rfl ddX8_init_117 ?_
  refine lv_iload_n hx hb ddX8_init_120 rfl (lv_at hl 0 rfl) ?_
  refine va_new (ci := 6) (fs := [.int 0, .int 0, .null]) (C := RX7) (T := TX7) (N := 3) hx hb hts xin_X7 tyX7 tyX7_ok hown (hts _ (xw_in 75 (by decide +kernel) rfl)) (hts _ (xw_in 216 (by decide +kernel) rfl)) (hts _ (xw_in 59 (by decide +kernel) rfl)) hK hP hD hS hA rfl df_X7 (Nat.le_of_ble_eq_true rfl) (Nat.le_of_ble_eq_true rfl) ddX8_init_121 (fun a16 H hP hD hS => ?_)
  have hP : va_P D vwCl (([(h0, .inr (7, [.ref a1, .ref a2, .ref a3, .ref a4, .ref a5, .ref a6, .ref a7, .ref a8, .ref a9, .ref a10, .int 0, .int 0, .long 0, .long 1])), (a1, .inl (cS, 6, .inr (.inr (.inr (.inr (va_up (va_up (va_up (va_up (va_up (fun _ => none) 0 (some a11)) 1 (some a12)) 2 (some a13)) 3 (some a14)) 4 (some a15))))))), (a2, .inl (cS, 4, .inr (.inr (.inr (.inr (fun _ => none)))))), (a5, .inl (cR, 3, .inr (.inr (.inr (.inr (fun _ => none))))))] ++ r12) ++ [(a16, .inr (6, [.int 0, .int 0, .null]))]) H := hP
  have hD : va_D A (([(h0, .inr (7, [.ref a1, .ref a2, .ref a3, .ref a4, .ref a5, .ref a6, .ref a7, .ref a8, .ref a9, .ref a10, .int 0, .int 0, .long 0, .long 1])), (a1, .inl (cS, 6, .inr (.inr (.inr (.inr (va_up (va_up (va_up (va_up (va_up (fun _ => none) 0 (some a11)) 1 (some a12)) 2 (some a13)) 3 (some a14)) 4 (some a15))))))), (a2, .inl (cS, 4, .inr (.inr (.inr (.inr (fun _ => none)))))), (a5, .inl (cR, 3, .inr (.inr (.inr (.inr (fun _ => none))))))] ++ r12) ++ [(a16, .inr (6, [.int 0, .int 0, .null]))]) := hD
  refine W.widen (k := 45) (n := 714) (by omega) (by omega) ?_
  refine lv_dup hx hb ddX8_init_124 rfl ?_
  refine lv_bipush (v := 40) hx hb ddX8_init_125 (by decide) ?_
  have hPc := xj_one hP
  have hDc := xj_oneD hD
  have hKc := hK.sub (tys' := []) [] rfl
  have hFc := xj_fr hD hS hA
  refine va_callv (va_runI (As := [.int 40]) (rest := [.ref a16, .int 5, .ref a1]) ⟨hx, hb, hml, hown, hts⟩ (ci_X7 l D a16 H.size 40 40 (by decide) (by decide) (by decide)) (cwI 1 hts (xi_good xw_good (xw_in 219 (by decide +kernel) rfl)) rfl rfl rfl (hts _ (xw_in 59 (by decide +kernel) rfl)) (hts _ (xw_in 217 (by decide +kernel) rfl)) (hts _ (xw_in 218 (by decide +kernel) rfl)) rfl (by decide +kernel) ⟨Nat.le_of_ble_eq_true rfl, Nat.le_of_ble_eq_true rfl⟩) ⟨fun a U g mk q => by obtain ⟨q0, q1, qP, qK, qD⟩ := q; exact ⟨q0, q1, qP, va_K.moved (u := U) (U := U.calling g mk a) (Vm.Alike.refl U.vm) qK, qD⟩, fun U hU hW => ⟨rfl, by rw [hU], by rw [hU]; exact hPc, va_K.moved hW.alike hKc, hDc.weaken (fun _ _ _ _ => trivial)⟩⟩ rfl rfl hl.1 rfl (lv_room (Nat.le_of_ble_eq_true rfl)) ddX8_init_127 ⟨Nat.le_of_ble_eq_true rfl, Nat.le_of_ble_eq_true rfl⟩) hS (fun q _ h => hFc q h) hFc (fun u16p t H1 locs ht hvm hw hB hz1 hk1 hS => ?_)
  obtain ⟨cA, u16⟩ := u16p
  obtain ⟨hP1, hK1, hD1⟩ := hB
  rw [ht] at hP1
  have hK1 := va_K.moved hvm.symm hK1
  obtain ⟨hP, hD⟩ := xj_join hP hD hk1 hFc hP1 hD1
  have hK := hK.app hK1
  generalize H1 = H at hP hS ⊢
  obtain rfl : cI = cA := xk_int hK (i := 1) (j := 3) rfl rfl
  have hK : va_K D vwCl [(cS, .object "CoatGoals$Strip"), (cI, .int), (cR, .object "CoatGoals$Republic")] s := hK.sub (tys' := [(cS, .object "CoatGoals$Strip"), (cI, .int), (cR, .object "CoatGoals$Republic")]) [0, 1, 2] rfl
  have hP : va_P D vwCl (([(h0, .inr (7, [.ref a1, .ref a2, .ref a3, .ref a4, .ref a5, .ref a6, .ref a7, .ref a8, .ref a9, .ref a10, .int 0, .int 0, .long 0, .long 1])), (a1, .inl (cS, 6, .inr (.inr (.inr (.inr (va_up (va_up (va_up (va_up (va_up (fun _ => none) 0 (some a11)) 1 (some a12)) 2 (some a13)) 3 (some a14)) 4 (some a15))))))), (a2, .inl (cS, 4, .inr (.inr (.inr (.inr (fun _ => none)))))), (a5, .inl (cR, 3, .inr (.inr (.inr (.inr (fun _ => none))))))] ++ r12) ++ wX7 cI a16 40 u16) H := hP
  have hD : va_D A (([(h0, .inr (7, [.ref a1, .ref a2, .ref a3, .ref a4, .ref a5, .ref a6, .ref a7, .ref a8, .ref a9, .ref a10, .int 0, .int 0, .long 0, .long 1])), (a1, .inl (cS, 6, .inr (.inr (.inr (.inr (va_up (va_up (va_up (va_up (va_up (fun _ => none) 0 (some a11)) 1 (some a12)) 2 (some a13)) 3 (some a14)) 4 (some a15))))))), (a2, .inl (cS, 4, .inr (.inr (.inr (.inr (fun _ => none)))))), (a5, .inl (cR, 3, .inr (.inr (.inr (.inr (fun _ => none))))))] ++ r12) ++ wX7 cI a16 40 u16) := hD
  refine W.widen (k := 46) (n := 754) (by omega) (by omega) ?_
  have hP := xj_mvP hP
  have hD := xj_mvD hD
  have hP : va_P D vwCl (([(h0, .inr (7, [.ref a1, .ref a2, .ref a3, .ref a4, .ref a5, .ref a6, .ref a7, .ref a8, .ref a9, .ref a10, .int 0, .int 0, .long 0, .long 1])), (a1, .inl (cS, 6, .inr (.inr (.inr (.inr (va_up (va_up (va_up (va_up (va_up (fun _ => none) 0 (some a11)) 1 (some a12)) 2 (some a13)) 3 (some a14)) 4 (some a15))))))), (a2, .inl (cS, 4, .inr (.inr (.inr (.inr (fun _ => none)))))), (a5, .inl (cR, 3, .inr (.inr (.inr (.inr (fun _ => none))))))] ++ wX7 cI a16 40 u16) ++ r12) H := hP
  have hD : va_D A (([(h0, .inr (7, [.ref a1, .ref a2, .ref a3, .ref a4, .ref a5, .ref a6, .ref a7, .ref a8, .ref a9, .ref a10, .int 0, .int 0, .long 0, .long 1])), (a1, .inl (cS, 6, .inr (.inr (.inr (.inr (va_up (va_up (va_up (va_up (va_up (fun _ => none) 0 (some a11)) 1 (some a12)) 2 (some a13)) 3 (some a14)) 4 (some a15))))))), (a2, .inl (cS, 4, .inr (.inr (.inr (.inr (fun _ => none)))))), (a5, .inl (cR, 3, .inr (.inr (.inr (.inr (fun _ => none))))))] ++ wX7 cI a16 40 u16) ++ r12) := hD
  refine va_astq (r := (RX7, TX7, 3)) hx hb hK hP hD hS 1 0 4 6 rfl rfl rfl rfl (by unfold vp_in; decide) ddX8_init_130 (fun H locs hP hD hS => ?_)
  have hP : va_P D vwCl (([(h0, .inr (7, [.ref a1, .ref a2, .ref a3, .ref a4, .ref a5, .ref a6, .ref a7, .ref a8, .ref a9, .ref a10, .int 0, .int 0, .long 0, .long 1])), (a1, .inl (cS, 6, .inr (.inr (.inr (.inr (va_up (va_up (va_up (va_up (va_up (va_up (fun _ => none) 0 (some a11)) 1 (some a12)) 2 (some a13)) 3 (some a14)) 4 (some a15)) 5 (some a16))))))), (a2, .inl (cS, 4, .inr (.inr (.inr (.inr (fun _ => none)))))), (a5, .inl (cR, 3, .inr (.inr (.inr (.inr (fun _ => none))))))] ++ wX7 cI a16 40 u16) ++ r12) H := hP
  have hD : va_D A (([(h0, .inr (7, [.ref a1, .ref a2, .ref a3, .ref a4, .ref a5, .ref a6, .ref a7, .ref a8, .ref a9, .ref a10, .int 0, .int 0, .long 0, .long 1])), (a1, .inl (cS, 6, .inr (.inr (.inr (.inr (va_up (va_up (va_up (va_up (va_up (va_up (fun _ => none) 0 (some a11)) 1 (some a12)) 2 (some a13)) 3 (some a14)) 4 (some a15)) 5 (some a16))))))), (a2, .inl (cS, 4, .inr (.inr (.inr (.inr (fun _ => none)))))), (a5, .inl (cR, 3, .inr (.inr (.inr (.inr (fun _ => none))))))] ++ wX7 cI a16 40 u16) ++ r12) := hD
  rw [List.append_assoc] at hP hD
  obtain ⟨r13, er13⟩ : ∃ z, z = wX7 cI a16 40 u16 ++ r12 := ⟨_, rfl⟩
  rw [← er13] at hP hD
  have hP : va_P D vwCl ([(h0, .inr (7, [.ref a1, .ref a2, .ref a3, .ref a4, .ref a5, .ref a6, .ref a7, .ref a8, .ref a9, .ref a10, .int 0, .int 0, .long 0, .long 1])), (a1, .inl (cS, 6, .inr (.inr (.inr (.inr (va_up (va_up (va_up (va_up (va_up (va_up (fun _ => none) 0 (some a11)) 1 (some a12)) 2 (some a13)) 3 (some a14)) 4 (some a15)) 5 (some a16))))))), (a2, .inl (cS, 4, .inr (.inr (.inr (.inr (fun _ => none)))))), (a5, .inl (cR, 3, .inr (.inr (.inr (.inr (fun _ => none))))))] ++ r13) H := hP
  have hD : va_D A ([(h0, .inr (7, [.ref a1, .ref a2, .ref a3, .ref a4, .ref a5, .ref a6, .ref a7, .ref a8, .ref a9, .ref a10, .int 0, .int 0, .long 0, .long 1])), (a1, .inl (cS, 6, .inr (.inr (.inr (.inr (va_up (va_up (va_up (va_up (va_up (va_up (fun _ => none) 0 (some a11)) 1 (some a12)) 2 (some a13)) 3 (some a14)) 4 (some a15)) 5 (some a16))))))), (a2, .inl (cS, 4, .inr (.inr (.inr (.inr (fun _ => none)))))), (a5, .inl (cR, 3, .inr (.inr (.inr (.inr (fun _ => none))))))] ++ r13) := hD
  refine lv_iinc (v := 6) (lv' := [(1, .int 6), (0, .ref h0)]) hx hb ddX8_init_131 hl (k := 0) rfl (by decide) (by decide) rfl (fun ls hl => ?_)
  refine lv_goto (tgt := 110) hx hb ddX8_init_134 (by decide) ?_
  refine lv_iload_n hx hb ddX8_init_110 rfl (lv_at hl 0 rfl) ?_
  refine lv_bipush (v := 6) hx hb ddX8_init_111 (by decide) ?_
  refine lv_icmp_ge (tgt := 137) hx hb ddX8_init_113 (by decide) (fun c9 => ?_) (fun c9 => absurd (by decide) c9)
  refine lv_iconst (v := 0) hx hb ddX8_init_137 (by decide) ?_
  refine lv_istore_n (lv' := [(1, .int 0), (0, .ref h0)]) hx hb ddX8_init_138 rfl hl (by decide) rfl (fun ls hl => ?_)
  refine lv_iload_n hx hb ddX8_init_139 rfl (lv_at hl 0 rfl) ?_
  refine lv_iconst (v := 4) hx hb ddX8_init_140 (by decide) ?_
  refine lv_icmp_ge (tgt := 165) hx hb ddX8_init_141 (by decide) (fun c9 => absurd c9 (by decide)) (fun c9 => ?_)
  refine lv_aload_n hx hb ddX8_init_144 rfl (lv_at hl 1 rfl) ?_
  refine va_get (D := D) (ci := 7) (v := .ref a2) (C := RX8) (T := TX8) (N := 14) hx hb hts xin_X8 hown hK hP 0 rfl rfl 1 (by decide) (hts _ (xw_in 239 (by decide +kernel) rfl)) (fun _ h9 => h9) rfl ddX8_init_145 ?_
  refine lv_iload_n hx hb ddX8_init_148 rfl (lv_at hl 0 rfl) ?_
  refine va_new (ci := 6) (fs := [.int 0, .int 0, .null]) (C := RX7) (T := TX7) (N := 3) hx hb hts xin_X7 tyX7 tyX7_ok hown (hts _ (xw_in 75 (by decide +kernel) rfl)) (hts _ (xw_in 216 (by decide +kernel) rfl)) (hts _ (xw_in 59 (by decide +kernel) rfl)) hK hP hD hS hA rfl df_X7 (Nat.le_of_ble_eq_true rfl) (Nat.le_of_ble_eq_true rfl) ddX8_init_149 (fun a17 H hP hD hS => ?_)
  have hP : va_P D vwCl (([(h0, .inr (7, [.ref a1, .ref a2, .ref a3, .ref a4, .ref a5, .ref a6, .ref a7, .ref a8, .ref a9, .ref a10, .int 0, .int 0, .long 0, .long 1])), (a1, .inl (cS, 6, .inr (.inr (.inr (.inr (va_up (va_up (va_up (va_up (va_up (va_up (fun _ => none) 0 (some a11)) 1 (some a12)) 2 (some a13)) 3 (some a14)) 4 (some a15)) 5 (some a16))))))), (a2, .inl (cS, 4, .inr (.inr (.inr (.inr (fun _ => none)))))), (a5, .inl (cR, 3, .inr (.inr (.inr (.inr (fun _ => none))))))] ++ r13) ++ [(a17, .inr (6, [.int 0, .int 0, .null]))]) H := hP
  have hD : va_D A (([(h0, .inr (7, [.ref a1, .ref a2, .ref a3, .ref a4, .ref a5, .ref a6, .ref a7, .ref a8, .ref a9, .ref a10, .int 0, .int 0, .long 0, .long 1])), (a1, .inl (cS, 6, .inr (.inr (.inr (.inr (va_up (va_up (va_up (va_up (va_up (va_up (fun _ => none) 0 (some a11)) 1 (some a12)) 2 (some a13)) 3 (some a14)) 4 (some a15)) 5 (some a16))))))), (a2, .inl (cS, 4, .inr (.inr (.inr (.inr (fun _ => none)))))), (a5, .inl (cR, 3, .inr (.inr (.inr (.inr (fun _ => none))))))] ++ r13) ++ [(a17, .inr (6, [.int 0, .int 0, .null]))]) := hD
  refine W.widen (k := 47) (n := 757) (by omega) (by omega) ?_
  refine lv_dup hx hb ddX8_init_152 rfl ?_
  refine lv_bipush (v := 60) hx hb ddX8_init_153 (by decide) ?_
  have hPc := xj_one hP
  have hDc := xj_oneD hD
  have hKc := hK.sub (tys' := []) [] rfl
  have hFc := xj_fr hD hS hA
  refine va_callv (va_runI (As := [.int 60]) (rest := [.ref a17, .int 0, .ref a2]) ⟨hx, hb, hml, hown, hts⟩ (ci_X7 l D a17 H.size 60 60 (by decide) (by decide) (by decide)) (cwI 1 hts (xi_good xw_good (xw_in 219 (by decide +kernel) rfl)) rfl rfl rfl (hts _ (xw_in 59 (by decide +kernel) rfl)) (hts _ (xw_in 217 (by decide +kernel) rfl)) (hts _ (xw_in 218 (by decide +kernel) rfl)) rfl (by decide +kernel) ⟨Nat.le_of_ble_eq_true rfl, Nat.le_of_ble_eq_true rfl⟩) ⟨fun a U g mk q => by obtain ⟨q0, q1, qP, qK, qD⟩ := q; exact ⟨q0, q1, qP, va_K.moved (u := U) (U := U.calling g mk a) (Vm.Alike.refl U.vm) qK, qD⟩, fun U hU hW => ⟨rfl, by rw [hU], by rw [hU]; exact hPc, va_K.moved hW.alike hKc, hDc.weaken (fun _ _ _ _ => trivial)⟩⟩ rfl rfl hl.1 rfl (lv_room (Nat.le_of_ble_eq_true rfl)) ddX8_init_155 ⟨Nat.le_of_ble_eq_true rfl, Nat.le_of_ble_eq_true rfl⟩) hS (fun q _ h => hFc q h) hFc (fun u17p t H1 locs ht hvm hw hB hz1 hk1 hS => ?_)
  obtain ⟨cA, u17⟩ := u17p
  obtain ⟨hP1, hK1, hD1⟩ := hB
  rw [ht] at hP1
  have hK1 := va_K.moved hvm.symm hK1
  obtain ⟨hP, hD⟩ := xj_join hP hD hk1 hFc hP1 hD1
  have hK := hK.app hK1
  generalize H1 = H at hP hS ⊢
  obtain rfl : cI = cA := xk_int hK (i := 1) (j := 3) rfl rfl
  have hK : va_K D vwCl [(cS, .object "CoatGoals$Strip"), (cI, .int), (cR, .object "CoatGoals$Republic")] s := hK.sub (tys' := [(cS, .object "CoatGoals$Strip"), (cI, .int), (cR, .object "CoatGoals$Republic")]) [0, 1, 2] rfl
  have hP : va_P D vwCl (([(h0, .inr (7, [.ref a1, .ref a2, .ref a3, .ref a4, .ref a5, .ref a6, .ref a7, .ref a8, .ref a9, .ref a10, .int 0, .int 0, .long 0, .long 1])), (a1, .inl (cS, 6, .inr (.inr (.inr (.inr (va_up (va_up (va_up (va_up (va_up (va_up (fun _ => none) 0 (some a11)) 1 (some a12)) 2 (some a13)) 3 (some a14)) 4 (some a15)) 5 (some a16))))))), (a2, .inl (cS, 4, .inr (.inr (.inr (.inr (fun _ => none)))))), (a5, .inl (cR, 3, .inr (.inr (.inr (.inr (fun _ => none))))))] ++ r13) ++ wX7 cI a17 60 u17) H := hP
  have hD : va_D A (([(h0, .inr (7, [.ref a1, .ref a2, .ref a3, .ref a4, .ref a5, .ref a6, .ref a7, .ref a8, .ref a9, .ref a10, .int 0, .int 0, .long 0, .long 1])), (a1, .inl (cS, 6, .inr (.inr (.inr (.inr (va_up (va_up (va_up (va_up (va_up (va_up (fun _ => none) 0 (some a11)) 1 (some a12)) 2 (some a13)) 3 (some a14)) 4 (some a15)) 5 (some a16))))))), (a2, .inl (cS, 4, .inr (.inr (.inr (.inr (fun _ => none)))))), (a5, .inl (cR, 3, .inr (.inr (.inr (.inr (fun _ => none))))))] ++ r13) ++ wX7 cI a17 60 u17) := hD
  refine W.widen (k := 48) (n := 817) (by omega) (by omega) ?_
  have hP := xj_mvP hP
  have hD := xj_mvD hD
  have hP : va_P D vwCl (([(h0, .inr (7, [.ref a1, .ref a2, .ref a3, .ref a4, .ref a5, .ref a6, .ref a7, .ref a8, .ref a9, .ref a10, .int 0, .int 0, .long 0, .long 1])), (a1, .inl (cS, 6, .inr (.inr (.inr (.inr (va_up (va_up (va_up (va_up (va_up (va_up (fun _ => none) 0 (some a11)) 1 (some a12)) 2 (some a13)) 3 (some a14)) 4 (some a15)) 5 (some a16))))))), (a2, .inl (cS, 4, .inr (.inr (.inr (.inr (fun _ => none)))))), (a5, .inl (cR, 3, .inr (.inr (.inr (.inr (fun _ => none))))))] ++ wX7 cI a17 60 u17) ++ r13) H := hP
  have hD : va_D A (([(h0, .inr (7, [.ref a1, .ref a2, .ref a3, .ref a4, .ref a5, .ref a6, .ref a7, .ref a8, .ref a9, .ref a10, .int 0, .int 0, .long 0, .long 1])), (a1, .inl (cS, 6, .inr (.inr (.inr (.inr (va_up (va_up (va_up (va_up (va_up (va_up (fun _ => none) 0 (some a11)) 1 (some a12)) 2 (some a13)) 3 (some a14)) 4 (some a15)) 5 (some a16))))))), (a2, .inl (cS, 4, .inr (.inr (.inr (.inr (fun _ => none)))))), (a5, .inl (cR, 3, .inr (.inr (.inr (.inr (fun _ => none))))))] ++ wX7 cI a17 60 u17) ++ r13) := hD
  refine va_astq (r := (RX7, TX7, 3)) hx hb hK hP hD hS 2 0 4 6 rfl rfl rfl rfl (by unfold vp_in; decide) ddX8_init_158 (fun H locs hP hD hS => ?_)
  have hP : va_P D vwCl (([(h0, .inr (7, [.ref a1, .ref a2, .ref a3, .ref a4, .ref a5, .ref a6, .ref a7, .ref a8, .ref a9, .ref a10, .int 0, .int 0, .long 0, .long 1])), (a1, .inl (cS, 6, .inr (.inr (.inr (.inr (va_up (va_up (va_up (va_up (va_up (va_up (fun _ => none) 0 (some a11)) 1 (some a12)) 2 (some a13)) 3 (some a14)) 4 (some a15)) 5 (some a16))))))), (a2, .inl (cS, 4, .inr (.inr (.inr (.inr (va_up (fun _ => none) 0 (some a17))))))), (a5, .inl (cR, 3, .inr (.inr (.inr (.inr (fun _ => none))))))] ++ wX7 cI a17 60 u17) ++ r13) H := hP
  have hD : va_D A (([(h0, .inr (7, [.ref a1, .ref a2, .ref a3, .ref a4, .ref a5, .ref a6, .ref a7, .ref a8, .ref a9, .ref a10, .int 0, .int 0, .long 0, .long 1])), (a1, .inl (cS, 6, .inr (.inr (.inr (.inr (va_up (va_up (va_up (va_up (va_up (va_up (fun _ => none) 0 (some a11)) 1 (some a12)) 2 (some a13)) 3 (some a14)) 4 (some a15)) 5 (some a16))))))), (a2, .inl (cS, 4, .inr (.inr (.inr (.inr (va_up (fun _ => none) 0 (some a17))))))), (a5, .inl (cR, 3, .inr (.inr (.inr (.inr (fun _ => none))))))] ++ wX7 cI a17 60 u17) ++ r13) := hD
  rw [List.append_assoc] at hP hD
  obtain ⟨r14, er14⟩ : ∃ z, z = wX7 cI a17 60 u17 ++ r13 := ⟨_, rfl⟩
  rw [← er14] at hP hD
  have hP : va_P D vwCl ([(h0, .inr (7, [.ref a1, .ref a2, .ref a3, .ref a4, .ref a5, .ref a6, .ref a7, .ref a8, .ref a9, .ref a10, .int 0, .int 0, .long 0, .long 1])), (a1, .inl (cS, 6, .inr (.inr (.inr (.inr (va_up (va_up (va_up (va_up (va_up (va_up (fun _ => none) 0 (some a11)) 1 (some a12)) 2 (some a13)) 3 (some a14)) 4 (some a15)) 5 (some a16))))))), (a2, .inl (cS, 4, .inr (.inr (.inr (.inr (va_up (fun _ => none) 0 (some a17))))))), (a5, .inl (cR, 3, .inr (.inr (.inr (.inr (fun _ => none))))))] ++ r14) H := hP
  have hD : va_D A ([(h0, .inr (7, [.ref a1, .ref a2, .ref a3, .ref a4, .ref a5, .ref a6, .ref a7, .ref a8, .ref a9, .ref a10, .int 0, .int 0, .long 0, .long 1])), (a1, .inl (cS, 6, .inr (.inr (.inr (.inr (va_up (va_up (va_up (va_up (va_up (va_up (fun _ => none) 0 (some a11)) 1 (some a12)) 2 (some a13)) 3 (some a14)) 4 (some a15)) 5 (some a16))))))), (a2, .inl (cS, 4, .inr (.inr (.inr (.inr (va_up (fun _ => none) 0 (some a17))))))), (a5, .inl (cR, 3, .inr (.inr (.inr (.inr (fun _ => none))))))] ++ r14) := hD
  refine lv_iinc (v := 1) (lv' := [(1, .int 1), (0, .ref h0)]) hx hb ddX8_init_159 hl (k := 0) rfl (by decide) (by decide) rfl (fun ls hl => ?_)
  refine lv_goto (tgt := 139) hx hb ddX8_init_162 (by decide) ?_
  refine lv_iload_n hx hb ddX8_init_139 rfl (lv_at hl 0 rfl) ?_
  refine lv_iconst (v := 4) hx hb ddX8_init_140 (by decide) ?_
  refine lv_icmp_ge (tgt := 165) hx hb ddX8_init_141 (by decide) (fun c9 => absurd c9 (by decide)) (fun c9 => ?_)
  refine lv_aload_n hx hb ddX8_init_144 rfl (lv_at hl 1 rfl) ?_
  refine va_get (D := D) (ci := 7) (v := .ref a2) (C := RX8) (T := TX8) (N := 14) hx hb hts xin_X8 hown hK hP 0 rfl rfl 1 (by decide) (hts _ (xw_in 239 (by decide +kernel) rfl)) (fun _ h9 => h9) rfl ddX8_init_145 ?_
  refine lv_iload_n hx hb ddX8_init_148 rfl (lv_at hl 0 rfl) ?_
  refine va_new (ci := 6) (fs := [.int 0, .int 0, .null]) (C := RX7) (T := TX7) (N := 3) hx hb hts xin_X7 tyX7 tyX7_ok hown (hts _ (xw_in 75 (by decide +kernel) rfl)) (hts _ (xw_in 216 (by decide +kernel) rfl)) (hts _ (xw_in 59 (by decide +kernel) rfl)) hK hP hD hS hA rfl df_X7 (Nat.le_of_ble_eq_true rfl) (Nat.le_of_ble_eq_true rfl) ddX8_init_149 (fun a18 H hP hD hS => ?_)
  have hP : va_P D vwCl (([(h0, .inr (7, [.ref a1, .ref a2, .ref a3, .ref a4, .ref a5, .ref a6, .ref a7, .ref a8, .ref a9, .ref a10, .int 0, .int 0, .long 0, .long 1])), (a1, .inl (cS, 6, .inr (.inr (.inr (.inr (va_up (va_up (va_up (va_up (va_up (va_up (fun _ => none) 0 (some a11)) 1 (some a12)) 2 (some a13)) 3 (some a14)) 4 (some a15)) 5 (some a16))))))), (a2, .inl (cS, 4, .inr (.inr (.inr (.inr (va_up (fun _ => none) 0 (some a17))))))), (a5, .inl (cR, 3, .inr (.inr (.inr (.inr (fun _ => none))))))] ++ r14) ++ [(a18, .inr (6, [.int 0, .int 0, .null]))]) H := hP
  have hD : va_D A (([(h0, .inr (7, [.ref a1, .ref a2, .ref a3, .ref a4, .ref a5, .ref a6, .ref a7, .ref a8, .ref a9, .ref a10, .int 0, .int 0, .long 0, .long 1])), (a1, .inl (cS, 6, .inr (.inr (.inr (.inr (va_up (va_up (va_up (va_up (va_up (va_up (fun _ => none) 0 (some a11)) 1 (some a12)) 2 (some a13)) 3 (some a14)) 4 (some a15)) 5 (some a16))))))), (a2, .inl (cS, 4, .inr (.inr (.inr (.inr (va_up (fun _ => none) 0 (some a17))))))), (a5, .inl (cR, 3, .inr (.inr (.inr (.inr (fun _ => none))))))] ++ r14) ++ [(a18, .inr (6, [.int 0, .int 0, .null]))]) := hD
  refine W.widen (k := 49) (n := 820) (by omega) (by omega) ?_
  refine lv_dup hx hb ddX8_init_152 rfl ?_
  refine lv_bipush (v := 60) hx hb ddX8_init_153 (by decide) ?_
  have hPc := xj_one hP
  have hDc := xj_oneD hD
  have hKc := hK.sub (tys' := []) [] rfl
  have hFc := xj_fr hD hS hA
  refine va_callv (va_runI (As := [.int 60]) (rest := [.ref a18, .int 1, .ref a2]) ⟨hx, hb, hml, hown, hts⟩ (ci_X7 l D a18 H.size 60 60 (by decide) (by decide) (by decide)) (cwI 1 hts (xi_good xw_good (xw_in 219 (by decide +kernel) rfl)) rfl rfl rfl (hts _ (xw_in 59 (by decide +kernel) rfl)) (hts _ (xw_in 217 (by decide +kernel) rfl)) (hts _ (xw_in 218 (by decide +kernel) rfl)) rfl (by decide +kernel) ⟨Nat.le_of_ble_eq_true rfl, Nat.le_of_ble_eq_true rfl⟩) ⟨fun a U g mk q => by obtain ⟨q0, q1, qP, qK, qD⟩ := q; exact ⟨q0, q1, qP, va_K.moved (u := U) (U := U.calling g mk a) (Vm.Alike.refl U.vm) qK, qD⟩, fun U hU hW => ⟨rfl, by rw [hU], by rw [hU]; exact hPc, va_K.moved hW.alike hKc, hDc.weaken (fun _ _ _ _ => trivial)⟩⟩ rfl rfl hl.1 rfl (lv_room (Nat.le_of_ble_eq_true rfl)) ddX8_init_155 ⟨Nat.le_of_ble_eq_true rfl, Nat.le_of_ble_eq_true rfl⟩) hS (fun q _ h => hFc q h) hFc (fun u18p t H1 locs ht hvm hw hB hz1 hk1 hS => ?_)
  obtain ⟨cA, u18⟩ := u18p
  obtain ⟨hP1, hK1, hD1⟩ := hB
  rw [ht] at hP1
  have hK1 := va_K.moved hvm.symm hK1
  obtain ⟨hP, hD⟩ := xj_join hP hD hk1 hFc hP1 hD1
  have hK := hK.app hK1
  generalize H1 = H at hP hS ⊢
  obtain rfl : cI = cA := xk_int hK (i := 1) (j := 3) rfl rfl
  have hK : va_K D vwCl [(cS, .object "CoatGoals$Strip"), (cI, .int), (cR, .object "CoatGoals$Republic")] s := hK.sub (tys' := [(cS, .object "CoatGoals$Strip"), (cI, .int), (cR, .object "CoatGoals$Republic")]) [0, 1, 2] rfl
  have hP : va_P D vwCl (([(h0, .inr (7, [.ref a1, .ref a2, .ref a3, .ref a4, .ref a5, .ref a6, .ref a7, .ref a8, .ref a9, .ref a10, .int 0, .int 0, .long 0, .long 1])), (a1, .inl (cS, 6, .inr (.inr (.inr (.inr (va_up (va_up (va_up (va_up (va_up (va_up (fun _ => none) 0 (some a11)) 1 (some a12)) 2 (some a13)) 3 (some a14)) 4 (some a15)) 5 (some a16))))))), (a2, .inl (cS, 4, .inr (.inr (.inr (.inr (va_up (fun _ => none) 0 (some a17))))))), (a5, .inl (cR, 3, .inr (.inr (.inr (.inr (fun _ => none))))))] ++ r14) ++ wX7 cI a18 60 u18) H := hP
  have hD : va_D A (([(h0, .inr (7, [.ref a1, .ref a2, .ref a3, .ref a4, .ref a5, .ref a6, .ref a7, .ref a8, .ref a9, .ref a10, .int 0, .int 0, .long 0, .long 1])), (a1, .inl (cS, 6, .inr (.inr (.inr (.inr (va_up (va_up (va_up (va_up (va_up (va_up (fun _ => none) 0 (some a11)) 1 (some a12)) 2 (some a13)) 3 (some a14)) 4 (some a15)) 5 (some a16))))))), (a2, .inl (cS, 4, .inr (.inr (.inr (.inr (va_up (fun _ => none) 0 (some a17))))))), (a5, .inl (cR, 3, .inr (.inr (.inr (.inr (fun _ => none))))))] ++ r14) ++ wX7 cI a18 60 u18) := hD
  refine W.widen (k := 50) (n := 880) (by omega) (by omega) ?_
  have hP := xj_mvP hP
  have hD := xj_mvD hD
  have hP : va_P D vwCl (([(h0, .inr (7, [.ref a1, .ref a2, .ref a3, .ref a4, .ref a5, .ref a6, .ref a7, .ref a8, .ref a9, .ref a10, .int 0, .int 0, .long 0, .long 1])), (a1, .inl (cS, 6, .inr (.inr (.inr (.inr (va_up (va_up (va_up (va_up (va_up (va_up (fun _ => none) 0 (some a11)) 1 (some a12)) 2 (some a13)) 3 (some a14)) 4 (some a15)) 5 (some a16))))))), (a2, .inl (cS, 4, .inr (.inr (.inr (.inr (va_up (fun _ => none) 0 (some a17))))))), (a5, .inl (cR, 3, .inr (.inr (.inr (.inr (fun _ => none))))))] ++ wX7 cI a18 60 u18) ++ r14) H := hP
  have hD : va_D A (([(h0, .inr (7, [.ref a1, .ref a2, .ref a3, .ref a4, .ref a5, .ref a6, .ref a7, .ref a8, .ref a9, .ref a10, .int 0, .int 0, .long 0, .long 1])), (a1, .inl (cS, 6, .inr (.inr (.inr (.inr (va_up (va_up (va_up (va_up (va_up (va_up (fun _ => none) 0 (some a11)) 1 (some a12)) 2 (some a13)) 3 (some a14)) 4 (some a15)) 5 (some a16))))))), (a2, .inl (cS, 4, .inr (.inr (.inr (.inr (va_up (fun _ => none) 0 (some a17))))))), (a5, .inl (cR, 3, .inr (.inr (.inr (.inr (fun _ => none))))))] ++ wX7 cI a18 60 u18) ++ r14) := hD
  refine va_astq (r := (RX7, TX7, 3)) hx hb hK hP hD hS 2 0 4 6 rfl rfl rfl rfl (by unfold vp_in; decide) ddX8_init_158 (fun H locs hP hD hS => ?_)
  have hP : va_P D vwCl (([(h0, .inr (7, [.ref a1, .ref a2, .ref a3, .ref a4, .ref a5, .ref a6, .ref a7, .ref a8, .ref a9, .ref a10, .int 0, .int 0, .long 0, .long 1])), (a1, .inl (cS, 6, .inr (.inr (.inr (.inr (va_up (va_up (va_up (va_up (va_up (va_up (fun _ => none) 0 (some a11)) 1 (some a12)) 2 (some a13)) 3 (some a14)) 4 (some a15)) 5 (some a16))))))), (a2, .inl (cS, 4, .inr (.inr (.inr (.inr (va_up (va_up (fun _ => none) 0 (some a17)) 1 (some a18))))))), (a5, .inl (cR, 3, .inr (.inr (.inr (.inr (fun _ => none))))))] ++ wX7 cI a18 60 u18) ++ r14) H := hP
  have hD : va_D A (([(h0, .inr (7, [.ref a1, .ref a2, .ref a3, .ref a4, .ref a5, .ref a6, .ref a7, .ref a8, .ref a9, .ref a10, .int 0, .int 0, .long 0, .long 1])), (a1, .inl (cS, 6, .inr (.inr (.inr (.inr (va_up (va_up (va_up (va_up (va_up (va_up (fun _ => none) 0 (some a11)) 1 (some a12)) 2 (some a13)) 3 (some a14)) 4 (some a15)) 5 (some a16))))))), (a2, .inl (cS, 4, .inr (.inr (.inr (.inr (va_up (va_up (fun _ => none) 0 (some a17)) 1 (some a18))))))), (a5, .inl (cR, 3, .inr (.inr (.inr (.inr (fun _ => none))))))] ++ wX7 cI a18 60 u18) ++ r14) := hD
  rw [List.append_assoc] at hP hD
  obtain ⟨r15, er15⟩ : ∃ z, z = wX7 cI a18 60 u18 ++ r14 := ⟨_, rfl⟩
  rw [← er15] at hP hD
  have hP : va_P D vwCl ([(h0, .inr (7, [.ref a1, .ref a2, .ref a3, .ref a4, .ref a5, .ref a6, .ref a7, .ref a8, .ref a9, .ref a10, .int 0, .int 0, .long 0, .long 1])), (a1, .inl (cS, 6, .inr (.inr (.inr (.inr (va_up (va_up (va_up (va_up (va_up (va_up (fun _ => none) 0 (some a11)) 1 (some a12)) 2 (some a13)) 3 (some a14)) 4 (some a15)) 5 (some a16))))))), (a2, .inl (cS, 4, .inr (.inr (.inr (.inr (va_up (va_up (fun _ => none) 0 (some a17)) 1 (some a18))))))), (a5, .inl (cR, 3, .inr (.inr (.inr (.inr (fun _ => none))))))] ++ r15) H := hP
  have hD : va_D A ([(h0, .inr (7, [.ref a1, .ref a2, .ref a3, .ref a4, .ref a5, .ref a6, .ref a7, .ref a8, .ref a9, .ref a10, .int 0, .int 0, .long 0, .long 1])), (a1, .inl (cS, 6, .inr (.inr (.inr (.inr (va_up (va_up (va_up (va_up (va_up (va_up (fun _ => none) 0 (some a11)) 1 (some a12)) 2 (some a13)) 3 (some a14)) 4 (some a15)) 5 (some a16))))))), (a2, .inl (cS, 4, .inr (.inr (.inr (.inr (va_up (va_up (fun _ => none) 0 (some a17)) 1 (some a18))))))), (a5, .inl (cR, 3, .inr (.inr (.inr (.inr (fun _ => none))))))] ++ r15) := hD
  refine lv_iinc (v := 2) (lv' := [(1, .int 2), (0, .ref h0)]) hx hb ddX8_init_159 hl (k := 0) rfl (by decide) (by decide) rfl (fun ls hl => ?_)
  refine lv_goto (tgt := 139) hx hb ddX8_init_162 (by decide) ?_
  refine lv_iload_n hx hb ddX8_init_139 rfl (lv_at hl 0 rfl) ?_
  refine lv_iconst (v := 4) hx hb ddX8_init_140 (by decide) ?_
  refine lv_icmp_ge (tgt := 165) hx hb ddX8_init_141 (by decide) (fun c9 => absurd c9 (by decide)) (fun c9 => ?_)
  refine lv_aload_n hx hb ddX8_init_144 rfl (lv_at hl 1 rfl) ?_
  refine va_get (D := D) (ci := 7) (v := .ref a2) (C := RX8) (T := TX8) (N := 14) hx hb hts xin_X8 hown hK hP 0 rfl rfl 1 (by decide) (hts _ (xw_in 239 (by decide +kernel) rfl)) (fun _ h9 => h9) rfl ddX8_init_145 ?_
  refine lv_iload_n hx hb ddX8_init_148 rfl (lv_at hl 0 rfl) ?_
  refine va_new (ci := 6) (fs := [.int 0, .int 0, .null]) (C := RX7) (T := TX7) (N := 3) hx hb hts xin_X7 tyX7 tyX7_ok hown (hts _ (xw_in 75 (by decide +kernel) rfl)) (hts _ (xw_in 216 (by decide +kernel) rfl)) (hts _ (xw_in 59 (by decide +kernel) rfl)) hK hP hD hS hA rfl df_X7 (Nat.le_of_ble_eq_true rfl) (Nat.le_of_ble_eq_true rfl) ddX8_init_149 (fun a19 H hP hD hS => ?_)
  have hP : va_P D vwCl (([(h0, .inr (7, [.ref a1, .ref a2, .ref a3, .ref a4, .ref a5, .ref a6, .ref a7, .ref a8, .ref a9, .ref a10, .int 0, .int 0, .long 0, .long 1])), (a1, .inl (cS, 6, .inr (.inr (.inr (.inr (va_up (va_up (va_up (va_up (va_up (va_up (fun _ => none) 0 (some a11)) 1 (some a12)) 2 (some a13)) 3 (some a14)) 4 (some a15)) 5 (some a16))))))), (a2, .inl (cS, 4, .inr (.inr (.inr (.inr (va_up (va_up (fun _ => none) 0 (some a17)) 1 (some a18))))))), (a5, .inl (cR, 3, .inr (.inr (.inr (.inr (fun _ => none))))))] ++ r15) ++ [(a19, .inr (6, [.int 0, .int 0, .null]))]) H := hP
  have hD : va_D A (([(h0, .inr (7, [.ref a1, .ref a2, .ref a3, .ref a4, .ref a5, .ref a6, .ref a7, .ref a8, .ref a9, .ref a10, .int 0, .int 0, .long 0, .long 1])), (a1, .inl (cS, 6, .inr (.inr (.inr (.inr (va_up (va_up (va_up (va_up (va_up (va_up (fun _ => none) 0 (some a11)) 1 (some a12)) 2 (some a13)) 3 (some a14)) 4 (some a15)) 5 (some a16))))))), (a2, .inl (cS, 4, .inr (.inr (.inr (.inr (va_up (va_up (fun _ => none) 0 (some a17)) 1 (some a18))))))), (a5, .inl (cR, 3, .inr (.inr (.inr (.inr (fun _ => none))))))] ++ r15) ++ [(a19, .inr (6, [.int 0, .int 0, .null]))]) := hD
  refine W.widen (k := 51) (n := 883) (by omega) (by omega) ?_
  refine lv_dup hx hb ddX8_init_152 rfl ?_
  refine lv_bipush (v := 60) hx hb ddX8_init_153 (by decide) ?_
  have hPc := xj_one hP
  have hDc := xj_oneD hD
  have hKc := hK.sub (tys' := []) [] rfl
  have hFc := xj_fr hD hS hA
  refine va_callv (va_runI (As := [.int 60]) (rest := [.ref a19, .int 2, .ref a2]) ⟨hx, hb, hml, hown, hts⟩ (ci_X7 l D a19 H.size 60 60 (by decide) (by decide) (by decide)) (cwI 1 hts (xi_good xw_good (xw_in 219 (by decide +kernel) rfl)) rfl rfl rfl (hts _ (xw_in 59 (by decide +kernel) rfl)) (hts _ (xw_in 217 (by decide +kernel) rfl)) (hts _ (xw_in 218 (by decide +kernel) rfl)) rfl (by decide +kernel) ⟨Nat.le_of_ble_eq_true rfl, Nat.le_of_ble_eq_true rfl⟩) ⟨fun a U g mk q => by obtain ⟨q0, q1, qP, qK, qD⟩ := q; exact ⟨q0, q1, qP, va_K.moved (u := U) (U := U.calling g mk a) (Vm.Alike.refl U.vm) qK, qD⟩, fun U hU hW => ⟨rfl, by rw [hU], by rw [hU]; exact hPc, va_K.moved hW.alike hKc, hDc.weaken (fun _ _ _ _ => trivial)⟩⟩ rfl rfl hl.1 rfl (lv_room (Nat.le_of_ble_eq_true rfl)) ddX8_init_155 ⟨Nat.le_of_ble_eq_true rfl, Nat.le_of_ble_eq_true rfl⟩) hS (fun q _ h => hFc q h) hFc (fun u19p t H1 locs ht hvm hw hB hz1 hk1 hS => ?_)
  obtain ⟨cA, u19⟩ := u19p
  obtain ⟨hP1, hK1, hD1⟩ := hB
  rw [ht] at hP1
  have hK1 := va_K.moved hvm.symm hK1
  obtain ⟨hP, hD⟩ := xj_join hP hD hk1 hFc hP1 hD1
  have hK := hK.app hK1
  generalize H1 = H at hP hS ⊢
  obtain rfl : cI = cA := xk_int hK (i := 1) (j := 3) rfl rfl
  have hK : va_K D vwCl [(cS, .object "CoatGoals$Strip"), (cI, .int), (cR, .object "CoatGoals$Republic")] s := hK.sub (tys' := [(cS, .object "CoatGoals$Strip"), (cI, .int), (cR, .object "CoatGoals$Republic")]) [0, 1, 2] rfl
  have hP : va_P D vwCl (([(h0, .inr (7, [.ref a1, .ref a2, .ref a3, .ref a4, .ref a5, .ref a6, .ref a7, .ref a8, .ref a9, .ref a10, .int 0, .int 0, .long 0, .long 1])), (a1, .inl (cS, 6, .inr (.inr (.inr (.inr (va_up (va_up (va_up (va_up (va_up (va_up (fun _ => none) 0 (some a11)) 1 (some a12)) 2 (some a13)) 3 (some a14)) 4 (some a15)) 5 (some a16))))))), (a2, .inl (cS, 4, .inr (.inr (.inr (.inr (va_up (va_up (fun _ => none) 0 (some a17)) 1 (some a18))))))), (a5, .inl (cR, 3, .inr (.inr (.inr (.inr (fun _ => none))))))] ++ r15) ++ wX7 cI a19 60 u19) H := hP
  have hD : va_D A (([(h0, .inr (7, [.ref a1, .ref a2, .ref a3, .ref a4, .ref a5, .ref a6, .ref a7, .ref a8, .ref a9, .ref a10, .int 0, .int 0, .long 0, .long 1])), (a1, .inl (cS, 6, .inr (.inr (.inr (.inr (va_up (va_up (va_up (va_up (va_up (va_up (fun _ => none) 0 (some a11)) 1 (some a12)) 2 (some a13)) 3 (some a14)) 4 (some a15)) 5 (some a16))))))), (a2, .inl (cS, 4, .inr (.inr (.inr (.inr (va_up (va_up (fun _ => none) 0 (some a17)) 1 (some a18))))))), (a5, .inl (cR, 3, .inr (.inr (.inr (.inr (fun _ => none))))))] ++ r15) ++ wX7 cI a19 60 u19) := hD
  refine W.widen (k := 52) (n := 943) (by omega) (by omega) ?_
  have hP := xj_mvP hP
  have hD := xj_mvD hD
  have hP : va_P D vwCl (([(h0, .inr (7, [.ref a1, .ref a2, .ref a3, .ref a4, .ref a5, .ref a6, .ref a7, .ref a8, .ref a9, .ref a10, .int 0, .int 0, .long 0, .long 1])), (a1, .inl (cS, 6, .inr (.inr (.inr (.inr (va_up (va_up (va_up (va_up (va_up (va_up (fun _ => none) 0 (some a11)) 1 (some a12)) 2 (some a13)) 3 (some a14)) 4 (some a15)) 5 (some a16))))))), (a2, .inl (cS, 4, .inr (.inr (.inr (.inr (va_up (va_up (fun _ => none) 0 (some a17)) 1 (some a18))))))), (a5, .inl (cR, 3, .inr (.inr (.inr (.inr (fun _ => none))))))] ++ wX7 cI a19 60 u19) ++ r15) H := hP
  have hD : va_D A (([(h0, .inr (7, [.ref a1, .ref a2, .ref a3, .ref a4, .ref a5, .ref a6, .ref a7, .ref a8, .ref a9, .ref a10, .int 0, .int 0, .long 0, .long 1])), (a1, .inl (cS, 6, .inr (.inr (.inr (.inr (va_up (va_up (va_up (va_up (va_up (va_up (fun _ => none) 0 (some a11)) 1 (some a12)) 2 (some a13)) 3 (some a14)) 4 (some a15)) 5 (some a16))))))), (a2, .inl (cS, 4, .inr (.inr (.inr (.inr (va_up (va_up (fun _ => none) 0 (some a17)) 1 (some a18))))))), (a5, .inl (cR, 3, .inr (.inr (.inr (.inr (fun _ => none))))))] ++ wX7 cI a19 60 u19) ++ r15) := hD
  refine va_astq (r := (RX7, TX7, 3)) hx hb hK hP hD hS 2 0 4 6 rfl rfl rfl rfl (by unfold vp_in; decide) ddX8_init_158 (fun H locs hP hD hS => ?_)
  have hP : va_P D vwCl (([(h0, .inr (7, [.ref a1, .ref a2, .ref a3, .ref a4, .ref a5, .ref a6, .ref a7, .ref a8, .ref a9, .ref a10, .int 0, .int 0, .long 0, .long 1])), (a1, .inl (cS, 6, .inr (.inr (.inr (.inr (va_up (va_up (va_up (va_up (va_up (va_up (fun _ => none) 0 (some a11)) 1 (some a12)) 2 (some a13)) 3 (some a14)) 4 (some a15)) 5 (some a16))))))), (a2, .inl (cS, 4, .inr (.inr (.inr (.inr (va_up (va_up (va_up (fun _ => none) 0 (some a17)) 1 (some a18)) 2 (some a19))))))), (a5, .inl (cR, 3, .inr (.inr (.inr (.inr (fun _ => none))))))] ++ wX7 cI a19 60 u19) ++ r15) H := hP
  have hD : va_D A (([(h0, .inr (7, [.ref a1, .ref a2, .ref a3, .ref a4, .ref a5, .ref a6, .ref a7, .ref a8, .ref a9, .ref a10, .int 0, .int 0, .long 0, .long 1])), (a1, .inl (cS, 6, .inr (.inr (.inr (.inr (va_up (va_up (va_up (va_up (va_up (va_up (fun _ => none) 0 (some a11)) 1 (some a12)) 2 (some a13)) 3 (some a14)) 4 (some a15)) 5 (some a16))))))), (a2, .inl (cS, 4, .inr (.inr (.inr (.inr (va_up (va_up (va_up (fun _ => none) 0 (some a17)) 1 (some a18)) 2 (some a19))))))), (a5, .inl (cR, 3, .inr (.inr (.inr (.inr (fun _ => none))))))] ++ wX7 cI a19 60 u19) ++ r15) := hD
  rw [List.append_assoc] at hP hD
  obtain ⟨r16, er16⟩ : ∃ z, z = wX7 cI a19 60 u19 ++ r15 := ⟨_, rfl⟩
  rw [← er16] at hP hD
  have hP : va_P D vwCl ([(h0, .inr (7, [.ref a1, .ref a2, .ref a3, .ref a4, .ref a5, .ref a6, .ref a7, .ref a8, .ref a9, .ref a10, .int 0, .int 0, .long 0, .long 1])), (a1, .inl (cS, 6, .inr (.inr (.inr (.inr (va_up (va_up (va_up (va_up (va_up (va_up (fun _ => none) 0 (some a11)) 1 (some a12)) 2 (some a13)) 3 (some a14)) 4 (some a15)) 5 (some a16))))))), (a2, .inl (cS, 4, .inr (.inr (.inr (.inr (va_up (va_up (va_up (fun _ => none) 0 (some a17)) 1 (some a18)) 2 (some a19))))))), (a5, .inl (cR, 3, .inr (.inr (.inr (.inr (fun _ => none))))))] ++ r16) H := hP
  have hD : va_D A ([(h0, .inr (7, [.ref a1, .ref a2, .ref a3, .ref a4, .ref a5, .ref a6, .ref a7, .ref a8, .ref a9, .ref a10, .int 0, .int 0, .long 0, .long 1])), (a1, .inl (cS, 6, .inr (.inr (.inr (.inr (va_up (va_up (va_up (va_up (va_up (va_up (fun _ => none) 0 (some a11)) 1 (some a12)) 2 (some a13)) 3 (some a14)) 4 (some a15)) 5 (some a16))))))), (a2, .inl (cS, 4, .inr (.inr (.inr (.inr (va_up (va_up (va_up (fun _ => none) 0 (some a17)) 1 (some a18)) 2 (some a19))))))), (a5, .inl (cR, 3, .inr (.inr (.inr (.inr (fun _ => none))))))] ++ r16) := hD
  refine lv_iinc (v := 3) (lv' := [(1, .int 3), (0, .ref h0)]) hx hb ddX8_init_159 hl (k := 0) rfl (by decide) (by decide) rfl (fun ls hl => ?_)
  refine lv_goto (tgt := 139) hx hb ddX8_init_162 (by decide) ?_
  refine lv_iload_n hx hb ddX8_init_139 rfl (lv_at hl 0 rfl) ?_
  refine lv_iconst (v := 4) hx hb ddX8_init_140 (by decide) ?_
  refine lv_icmp_ge (tgt := 165) hx hb ddX8_init_141 (by decide) (fun c9 => absurd c9 (by decide)) (fun c9 => ?_)
  refine lv_aload_n hx hb ddX8_init_144 rfl (lv_at hl 1 rfl) ?_
  refine va_get (D := D) (ci := 7) (v := .ref a2) (C := RX8) (T := TX8) (N := 14) hx hb hts xin_X8 hown hK hP 0 rfl rfl 1 (by decide) (hts _ (xw_in 239 (by decide +kernel) rfl)) (fun _ h9 => h9) rfl ddX8_init_145 ?_
  refine lv_iload_n hx hb ddX8_init_148 rfl (lv_at hl 0 rfl) ?_
  refine va_new (ci := 6) (fs := [.int 0, .int 0, .null]) (C := RX7) (T := TX7) (N := 3) hx hb hts xin_X7 tyX7 tyX7_ok hown (hts _ (xw_in 75 (by decide +kernel) rfl)) (hts _ (xw_in 216 (by decide +kernel) rfl)) (hts _ (xw_in 59 (by decide +kernel) rfl)) hK hP hD hS hA rfl df_X7 (Nat.le_of_ble_eq_true rfl) (Nat.le_of_ble_eq_true rfl) ddX8_init_149 (fun a20 H hP hD hS => ?_)
  have hP : va_P D vwCl (([(h0, .inr (7, [.ref a1, .ref a2, .ref a3, .ref a4, .ref a5, .ref a6, .ref a7, .ref a8, .ref a9, .ref a10, .int 0, .int 0, .long 0, .long 1])), (a1, .inl (cS, 6, .inr (.inr (.inr (.inr (va_up (va_up (va_up (va_up (va_up (va_up (fun _ => none) 0 (some a11)) 1 (some a12)) 2 (some a13)) 3 (some a14)) 4 (some a15)) 5 (some a16))))))), (a2, .inl (cS, 4, .inr (.inr (.inr (.inr (va_up (va_up (va_up (fun _ => none) 0 (some a17)) 1 (some a18)) 2 (some a19))))))), (a5, .inl (cR, 3, .inr (.inr (.inr (.inr (fun _ => none))))))] ++ r16) ++ [(a20, .inr (6, [.int 0, .int 0, .null]))]) H := hP
  have hD : va_D A (([(h0, .inr (7, [.ref a1, .ref a2, .ref a3, .ref a4, .ref a5, .ref a6, .ref a7, .ref a8, .ref a9, .ref a10, .int 0, .int 0, .long 0, .long 1])), (a1, .inl (cS, 6, .inr (.inr (.inr (.inr (va_up (va_up (va_up (va_up (va_up (va_up (fun _ => none) 0 (some a11)) 1 (some a12)) 2 (some a13)) 3 (some a14)) 4 (some a15)) 5 (some a16))))))), (a2, .inl (cS, 4, .inr (.inr (.inr (.inr (va_up (va_up (va_up (fun _ => none) 0 (some a17)) 1 (some a18)) 2 (some a19))))))), (a5, .inl (cR, 3, .inr (.inr (.inr (.inr (fun _ => none))))))] ++ r16) ++ [(a20, .inr (6, [.int 0, .int 0, .null]))]) := hD
  refine W.widen (k := 53) (n := 946) (by omega) (by omega) ?_
  refine lv_dup hx hb ddX8_init_152 rfl ?_
  refine lv_bipush (v := 60) hx hb ddX8_init_153 (by decide) ?_
  have hPc := xj_one hP
  have hDc := xj_oneD hD
  have hKc := hK.sub (tys' := []) [] rfl
  have hFc := xj_fr hD hS hA
  refine va_callv (va_runI (As := [.int 60]) (rest := [.ref a20, .int 3, .ref a2]) ⟨hx, hb, hml, hown, hts⟩ (ci_X7 l D a20 H.size 60 60 (by decide) (by decide) (by decide)) (cwI 1 hts (xi_good xw_good (xw_in 219 (by decide +kernel) rfl)) rfl rfl rfl (hts _ (xw_in 59 (by decide +kernel) rfl)) (hts _ (xw_in 217 (by decide +kernel) rfl)) (hts _ (xw_in 218 (by decide +kernel) rfl)) rfl (by decide +kernel) ⟨Nat.le_of_ble_eq_true rfl, Nat.le_of_ble_eq_true rfl⟩) ⟨fun a U g mk q => by obtain ⟨q0, q1, qP, qK, qD⟩ := q; exact ⟨q0, q1, qP, va_K.moved (u := U) (U := U.calling g mk a) (Vm.Alike.refl U.vm) qK, qD⟩, fun U hU hW => ⟨rfl, by rw [hU], by rw [hU]; exact hPc, va_K.moved hW.alike hKc, hDc.weaken (fun _ _ _ _ => trivial)⟩⟩ rfl rfl hl.1 rfl (lv_room (Nat.le_of_ble_eq_true rfl)) ddX8_init_155 ⟨Nat.le_of_ble_eq_true rfl, Nat.le_of_ble_eq_true rfl⟩) hS (fun q _ h => hFc q h) hFc (fun u20p t H1 locs ht hvm hw hB hz1 hk1 hS => ?_)
  obtain ⟨cA, u20⟩ := u20p
  obtain ⟨hP1, hK1, hD1⟩ := hB
  rw [ht] at hP1
  have hK1 := va_K.moved hvm.symm hK1
  obtain ⟨hP, hD⟩ := xj_join hP hD hk1 hFc hP1 hD1
  have hK := hK.app hK1
  generalize H1 = H at hP hS ⊢
  obtain rfl : cI = cA := xk_int hK (i := 1) (j := 3) rfl rfl
  have hK : va_K D vwCl [(cS, .object "CoatGoals$Strip"), (cI, .int), (cR, .object "CoatGoals$Republic")] s := hK.sub (tys' := [(cS, .object "CoatGoals$Strip"), (cI, .int), (cR, .object "CoatGoals$Republic")]) [0, 1, 2] rfl
  have hP : va_P D vwCl (([(h0, .inr (7, [.ref a1, .ref a2, .ref a3, .ref a4, .ref a5, .ref a6, .ref a7, .ref a8, .ref a9, .ref a10, .int 0, .int 0, .long 0, .long 1])), (a1, .inl (cS, 6, .inr (.inr (.inr (.inr (va_up (va_up (va_up (va_up (va_up (va_up (fun _ => none) 0 (some a11)) 1 (some a12)) 2 (some a13)) 3 (some a14)) 4 (some a15)) 5 (some a16))))))), (a2, .inl (cS, 4, .inr (.inr (.inr (.inr (va_up (va_up (va_up (fun _ => none) 0 (some a17)) 1 (some a18)) 2 (some a19))))))), (a5, .inl (cR, 3, .inr (.inr (.inr (.inr (fun _ => none))))))] ++ r16) ++ wX7 cI a20 60 u20) H := hP
  have hD : va_D A (([(h0, .inr (7, [.ref a1, .ref a2, .ref a3, .ref a4, .ref a5, .ref a6, .ref a7, .ref a8, .ref a9, .ref a10, .int 0, .int 0, .long 0, .long 1])), (a1, .inl (cS, 6, .inr (.inr (.inr (.inr (va_up (va_up (va_up (va_up (va_up (va_up (fun _ => none) 0 (some a11)) 1 (some a12)) 2 (some a13)) 3 (some a14)) 4 (some a15)) 5 (some a16))))))), (a2, .inl (cS, 4, .inr (.inr (.inr (.inr (va_up (va_up (va_up (fun _ => none) 0 (some a17)) 1 (some a18)) 2 (some a19))))))), (a5, .inl (cR, 3, .inr (.inr (.inr (.inr (fun _ => none))))))] ++ r16) ++ wX7 cI a20 60 u20) := hD
  refine W.widen (k := 54) (n := 1006) (by omega) (by omega) ?_
  have hP := xj_mvP hP
  have hD := xj_mvD hD
  have hP : va_P D vwCl (([(h0, .inr (7, [.ref a1, .ref a2, .ref a3, .ref a4, .ref a5, .ref a6, .ref a7, .ref a8, .ref a9, .ref a10, .int 0, .int 0, .long 0, .long 1])), (a1, .inl (cS, 6, .inr (.inr (.inr (.inr (va_up (va_up (va_up (va_up (va_up (va_up (fun _ => none) 0 (some a11)) 1 (some a12)) 2 (some a13)) 3 (some a14)) 4 (some a15)) 5 (some a16))))))), (a2, .inl (cS, 4, .inr (.inr (.inr (.inr (va_up (va_up (va_up (fun _ => none) 0 (some a17)) 1 (some a18)) 2 (some a19))))))), (a5, .inl (cR, 3, .inr (.inr (.inr (.inr (fun _ => none))))))] ++ wX7 cI a20 60 u20) ++ r16) H := hP
  have hD : va_D A (([(h0, .inr (7, [.ref a1, .ref a2, .ref a3, .ref a4, .ref a5, .ref a6, .ref a7, .ref a8, .ref a9, .ref a10, .int 0, .int 0, .long 0, .long 1])), (a1, .inl (cS, 6, .inr (.inr (.inr (.inr (va_up (va_up (va_up (va_up (va_up (va_up (fun _ => none) 0 (some a11)) 1 (some a12)) 2 (some a13)) 3 (some a14)) 4 (some a15)) 5 (some a16))))))), (a2, .inl (cS, 4, .inr (.inr (.inr (.inr (va_up (va_up (va_up (fun _ => none) 0 (some a17)) 1 (some a18)) 2 (some a19))))))), (a5, .inl (cR, 3, .inr (.inr (.inr (.inr (fun _ => none))))))] ++ wX7 cI a20 60 u20) ++ r16) := hD
  refine va_astq (r := (RX7, TX7, 3)) hx hb hK hP hD hS 2 0 4 6 rfl rfl rfl rfl (by unfold vp_in; decide) ddX8_init_158 (fun H locs hP hD hS => ?_)
  have hP : va_P D vwCl (([(h0, .inr (7, [.ref a1, .ref a2, .ref a3, .ref a4, .ref a5, .ref a6, .ref a7, .ref a8, .ref a9, .ref a10, .int 0, .int 0, .long 0, .long 1])), (a1, .inl (cS, 6, .inr (.inr (.inr (.inr (va_up (va_up (va_up (va_up (va_up (va_up (fun _ => none) 0 (some a11)) 1 (some a12)) 2 (some a13)) 3 (some a14)) 4 (some a15)) 5 (some a16))))))), (a2, .inl (cS, 4, .inr (.inr (.inr (.inr (va_up (va_up (va_up (va_up (fun _ => none) 0 (some a17)) 1 (some a18)) 2 (some a19)) 3 (some a20))))))), (a5, .inl (cR, 3, .inr (.inr (.inr (.inr (fun _ => none))))))] ++ wX7 cI a20 60 u20) ++ r16) H := hP
  have hD : va_D A (([(h0, .inr (7, [.ref a1, .ref a2, .ref a3, .ref a4, .ref a5, .ref a6, .ref a7, .ref a8, .ref a9, .ref a10, .int 0, .int 0, .long 0, .long 1])), (a1, .inl (cS, 6, .inr (.inr (.inr (.inr (va_up (va_up (va_up (va_up (va_up (va_up (fun _ => none) 0 (some a11)) 1 (some a12)) 2 (some a13)) 3 (some a14)) 4 (some a15)) 5 (some a16))))))), (a2, .inl (cS, 4, .inr (.inr (.inr (.inr (va_up (va_up (va_up (va_up (fun _ => none) 0 (some a17)) 1 (some a18)) 2 (some a19)) 3 (some a20))))))), (a5, .inl (cR, 3, .inr (.inr (.inr (.inr (fun _ => none))))))] ++ wX7 cI a20 60 u20) ++ r16) := hD
  rw [List.append_assoc] at hP hD
  obtain ⟨r17, er17⟩ : ∃ z, z = wX7 cI a20 60 u20 ++ r16 := ⟨_, rfl⟩
  rw [← er17] at hP hD
  have hP : va_P D vwCl ([(h0, .inr (7, [.ref a1, .ref a2, .ref a3, .ref a4, .ref a5, .ref a6, .ref a7, .ref a8, .ref a9, .ref a10, .int 0, .int 0, .long 0, .long 1])), (a1, .inl (cS, 6, .inr (.inr (.inr (.inr (va_up (va_up (va_up (va_up (va_up (va_up (fun _ => none) 0 (some a11)) 1 (some a12)) 2 (some a13)) 3 (some a14)) 4 (some a15)) 5 (some a16))))))), (a2, .inl (cS, 4, .inr (.inr (.inr (.inr (va_up (va_up (va_up (va_up (fun _ => none) 0 (some a17)) 1 (some a18)) 2 (some a19)) 3 (some a20))))))), (a5, .inl (cR, 3, .inr (.inr (.inr (.inr (fun _ => none))))))] ++ r17) H := hP
  have hD : va_D A ([(h0, .inr (7, [.ref a1, .ref a2, .ref a3, .ref a4, .ref a5, .ref a6, .ref a7, .ref a8, .ref a9, .ref a10, .int 0, .int 0, .long 0, .long 1])), (a1, .inl (cS, 6, .inr (.inr (.inr (.inr (va_up (va_up (va_up (va_up (va_up (va_up (fun _ => none) 0 (some a11)) 1 (some a12)) 2 (some a13)) 3 (some a14)) 4 (some a15)) 5 (some a16))))))), (a2, .inl (cS, 4, .inr (.inr (.inr (.inr (va_up (va_up (va_up (va_up (fun _ => none) 0 (some a17)) 1 (some a18)) 2 (some a19)) 3 (some a20))))))), (a5, .inl (cR, 3, .inr (.inr (.inr (.inr (fun _ => none))))))] ++ r17) := hD
  refine lv_iinc (v := 4) (lv' := [(1, .int 4), (0, .ref h0)]) hx hb ddX8_init_159 hl (k := 0) rfl (by decide) (by decide) rfl (fun ls hl => ?_)
  refine lv_goto (tgt := 139) hx hb ddX8_init_162 (by decide) ?_
  refine lv_iload_n hx hb ddX8_init_139 rfl (lv_at hl 0 rfl) ?_
  refine lv_iconst (v := 4) hx hb ddX8_init_140 (by decide) ?_
  refine lv_icmp_ge (tgt := 165) hx hb ddX8_init_141 (by decide) (fun c9 => ?_) (fun c9 => absurd (by decide) c9)
  refine lv_iconst (v := 0) hx hb ddX8_init_165 (by decide) ?_
  refine lv_istore_n (lv' := [(1, .int 0), (0, .ref h0)]) hx hb ddX8_init_166 rfl hl (by decide) rfl (fun ls hl => ?_)
  refine lv_iload_n hx hb ddX8_init_167 rfl (lv_at hl 0 rfl) ?_
  refine lv_iconst (v := 3) hx hb ddX8_init_168 (by decide) ?_
  refine lv_icmp_ge (tgt := 191) hx hb ddX8_init_169 (by decide) (fun c9 => absurd c9 (by decide)) (fun c9 => ?_)
  refine lv_aload_n hx hb ddX8_init_172 rfl (lv_at hl 1 rfl) ?_
  refine va_get (D := D) (ci := 7) (v := .ref a5) (C := RX8) (T := TX8) (N := 14) hx hb hts xin_X8 hown hK hP 0 rfl rfl 4 (by decide) (hts _ (xw_in 242 (by decide +kernel) rfl)) (fun _ h9 => h9) rfl ddX8_init_173 ?_
  refine lv_iload_n hx hb ddX8_init_176 rfl (lv_at hl 0 rfl) ?_
  refine va_new (ci := 5) (fs := [.int 0, .int 0, .int 0, .int 0, .int 0, .null, .null, .null, .null, .null, .null, .null, .null, .null]) (C := RX6) (T := TX6) (N := 14) hx hb hts xin_X6 tyX6 tyX6_ok hown (hts _ (xw_in 77 (by decide +kernel) rfl)) (hts _ (xw_in 78 (by decide +kernel) rfl)) (hts _ (xw_in 54 (by decide +kernel) rfl)) hK hP hD hS hA rfl df_X6 (Nat.le_of_ble_eq_true rfl) (Nat.le_of_ble_eq_true rfl) ddX8_init_177 (fun a21 H hP hD hS => ?_)
  have hP : va_P D vwCl (([(h0, .inr (7, [.ref a1, .ref a2, .ref a3, .ref a4, .ref a5, .ref a6, .ref a7, .ref a8, .ref a9, .ref a10, .int 0, .int 0, .long 0, .long 1])), (a1, .inl (cS, 6, .inr (.inr (.inr (.inr (va_up (va_up (va_up (va_up (va_up (va_up (fun _ => none) 0 (some a11)) 1 (some a12)) 2 (some a13)) 3 (some a14)) 4 (some a15)) 5 (some a16))))))), (a2, .inl (cS, 4, .inr (.inr (.inr (.inr (va_up (va_up (va_up (va_up (fun _ => none) 0 (some a17)) 1 (some a18)) 2 (some a19)) 3 (some a20))))))), (a5, .inl (cR, 3, .inr (.inr (.inr (.inr (fun _ => none))))))] ++ r17) ++ [(a21, .inr (5, [.int 0, .int 0, .int 0, .int 0, .int 0, .null, .null, .null, .null, .null, .null, .null, .null, .null]))]) H := hP
  have hD : va_D A (([(h0, .inr (7, [.ref a1, .ref a2, .ref a3, .ref a4, .ref a5, .ref a6, .ref a7, .ref a8, .ref a9, .ref a10, .int 0, .int 0, .long 0, .long 1])), (a1, .inl (cS, 6, .inr (.inr (.inr (.inr (va_up (va_up (va_up (va_up (va_up (va_up (fun _ => none) 0 (some a11)) 1 (some a12)) 2 (some a13)) 3 (some a14)) 4 (some a15)) 5 (some a16))))))), (a2, .inl (cS, 4, .inr (.inr (.inr (.inr (va_up (va_up (va_up (va_up (fun _ => none) 0 (some a17)) 1 (some a18)) 2 (some a19)) 3 (some a20))))))), (a5, .inl (cR, 3, .inr (.inr (.inr (.inr (fun _ => none))))))] ++ r17) ++ [(a21, .inr (5, [.int 0, .int 0, .int 0, .int 0, .int 0, .null, .null, .null, .null, .null, .null, .null, .null, .null]))]) := hD
  refine W.widen (k := 55) (n := 1020) (by omega) (by omega) ?_
  refine lv_dup hx hb ddX8_init_180 rfl ?_
  have hPc := xj_one hP
  have hDc := xj_oneD hD
  have hKc := hK.sub (tys' := []) [] rfl
  have hFc := xj_fr hD hS hA
  refine va_callv (va_runIN (As := []) (rest := [.ref a21, .int 0, .ref a5]) ⟨hx, hb, hml, hown, hts⟩ (ci_X6 l D a21 H.size) ⟨va_cnB (host := "CoatGoals") 0 hts (xi_good xw_good (xw_in 81 (by decide +kernel) rfl)) rfl rfl rfl (hH.1 _ (List.mem_of_getElem? (i := 0) rfl)) (hts _ (xw_in 54 (by decide +kernel) rfl)) (by decide +kernel) ⟨Nat.le_of_ble_eq_true rfl, Nat.le_of_ble_eq_true rfl⟩, rfl, (hts _ (xw_in 80 (by decide +kernel) rfl))⟩ ⟨fun a U g mk q => by obtain ⟨q0, q1, qP, qK, qD⟩ := q; exact ⟨q0, q1, qP, va_K.moved (u := U) (U := U.calling g mk a) (Vm.Alike.refl U.vm) qK, qD⟩, fun U hU hW => ⟨rfl, by rw [hU], by rw [hU]; exact hPc, va_K.moved hW.alike hKc, hDc.weaken (fun _ _ _ _ => trivial)⟩⟩ rfl rfl hl.1 rfl (lv_room (Nat.le_of_ble_eq_true rfl)) ddX8_init_181 ⟨Nat.le_of_ble_eq_true rfl, Nat.le_of_ble_eq_true rfl⟩) hS (fun q _ h => hFc q h) hFc (fun u21p t H1 locs ht hvm hw hB hz1 hk1 hS => ?_)
  obtain ⟨cA, u21⟩ := u21p
  obtain ⟨hP1, hK1, hD1⟩ := hB
  rw [ht] at hP1
  have hK1 := va_K.moved hvm.symm hK1
  obtain ⟨hP, hD⟩ := xj_join hP hD hk1 hFc hP1 hD1
  have hK := hK.app hK1
  generalize H1 = H at hP hS ⊢
  obtain rfl : cI = cA := xk_int hK (i := 1) (j := 3) rfl rfl
  have hK : va_K D vwCl [(cS, .object "CoatGoals$Strip"), (cI, .int), (cR, .object "CoatGoals$Republic")] s := hK.sub (tys' := [(cS, .object "CoatGoals$Strip"), (cI, .int), (cR, .object "CoatGoals$Republic")]) [0, 1, 2] rfl
  have hP : va_P D vwCl (([(h0, .inr (7, [.ref a1, .ref a2, .ref a3, .ref a4, .ref a5, .ref a6, .ref a7, .ref a8, .ref a9, .ref a10, .int 0, .int 0, .long 0, .long 1])), (a1, .inl (cS, 6, .inr (.inr (.inr (.inr (va_up (va_up (va_up (va_up (va_up (va_up (fun _ => none) 0 (some a11)) 1 (some a12)) 2 (some a13)) 3 (some a14)) 4 (some a15)) 5 (some a16))))))), (a2, .inl (cS, 4, .inr (.inr (.inr (.inr (va_up (va_up (va_up (va_up (fun _ => none) 0 (some a17)) 1 (some a18)) 2 (some a19)) 3 (some a20))))))), (a5, .inl (cR, 3, .inr (.inr (.inr (.inr (fun _ => none))))))] ++ r17) ++ wX6 cI a21 u21) H := hP
  have hD : va_D A (([(h0, .inr (7, [.ref a1, .ref a2, .ref a3, .ref a4, .ref a5, .ref a6, .ref a7, .ref a8, .ref a9, .ref a10, .int 0, .int 0, .long 0, .long 1])), (a1, .inl (cS, 6, .inr (.inr (.inr (.inr (va_up (va_up (va_up (va_up (va_up (va_up (fun _ => none) 0 (some a11)) 1 (some a12)) 2 (some a13)) 3 (some a14)) 4 (some a15)) 5 (some a16))))))), (a2, .inl (cS, 4, .inr (.inr (.inr (.inr (va_up (va_up (va_up (va_up (fun _ => none) 0 (some a17)) 1 (some a18)) 2 (some a19)) 3 (some a20))))))), (a5, .inl (cR, 3, .inr (.inr (.inr (.inr (fun _ => none))))))] ++ r17) ++ wX6 cI a21 u21) := hD
  refine W.widen (k := 64) (n := 1170) (by omega) (by omega) ?_
  have hP := xj_mvP hP
  have hD := xj_mvD hD
  have hP : va_P D vwCl (([(h0, .inr (7, [.ref a1, .ref a2, .ref a3, .ref a4, .ref a5, .ref a6, .ref a7, .ref a8, .ref a9, .ref a10, .int 0, .int 0, .long 0, .long 1])), (a1, .inl (cS, 6, .inr (.inr (.inr (.inr (va_up (va_up (va_up (va_up (va_up (va_up (fun _ => none) 0 (some a11)) 1 (some a12)) 2 (some a13)) 3 (some a14)) 4 (some a15)) 5 (some a16))))))), (a2, .inl (cS, 4, .inr (.inr (.inr (.inr (va_up (va_up (va_up (va_up (fun _ => none) 0 (some a17)) 1 (some a18)) 2 (some a19)) 3 (some a20))))))), (a5, .inl (cR, 3, .inr (.inr (.inr (.inr (fun _ => none))))))] ++ wX6 cI a21 u21) ++ r17) H := hP
  have hD : va_D A (([(h0, .inr (7, [.ref a1, .ref a2, .ref a3, .ref a4, .ref a5, .ref a6, .ref a7, .ref a8, .ref a9, .ref a10, .int 0, .int 0, .long 0, .long 1])), (a1, .inl (cS, 6, .inr (.inr (.inr (.inr (va_up (va_up (va_up (va_up (va_up (va_up (fun _ => none) 0 (some a11)) 1 (some a12)) 2 (some a13)) 3 (some a14)) 4 (some a15)) 5 (some a16))))))), (a2, .inl (cS, 4, .inr (.inr (.inr (.inr (va_up (va_up (va_up (va_up (fun _ => none) 0 (some a17)) 1 (some a18)) 2 (some a19)) 3 (some a20))))))), (a5, .inl (cR, 3, .inr (.inr (.inr (.inr (fun _ => none))))))] ++ wX6 cI a21 u21) ++ r17) := hD
  refine va_astq (r := (RX6, TX6, 14)) hx hb hK hP hD hS 3 2 4 5 rfl rfl rfl rfl (by unfold vp_in; decide) ddX8_init_184 (fun H locs hP hD hS => ?_)
  have hP : va_P D vwCl (([(h0, .inr (7, [.ref a1, .ref a2, .ref a3, .ref a4, .ref a5, .ref a6, .ref a7, .ref a8, .ref a9, .ref a10, .int 0, .int 0, .long 0, .long 1])), (a1, .inl (cS, 6, .inr (.inr (.inr (.inr (va_up (va_up (va_up (va_up (va_up (va_up (fun _ => none) 0 (some a11)) 1 (some a12)) 2 (some a13)) 3 (some a14)) 4 (some a15)) 5 (some a16))))))), (a2, .inl (cS, 4, .inr (.inr (.inr (.inr (va_up (va_up (va_up (va_up (fun _ => none) 0 (some a17)) 1 (some a18)) 2 (some a19)) 3 (some a20))))))), (a5, .inl (cR, 3, .inr (.inr (.inr (.inr (va_up (fun _ => none) 0 (some a21)))))))] ++ wX6 cI a21 u21) ++ r17) H := hP
  have hD : va_D A (([(h0, .inr (7, [.ref a1, .ref a2, .ref a3, .ref a4, .ref a5, .ref a6, .ref a7, .ref a8, .ref a9, .ref a10, .int 0, .int 0, .long 0, .long 1])), (a1, .inl (cS, 6, .inr (.inr (.inr (.inr (va_up (va_up (va_up (va_up (va_up (va_up (fun _ => none) 0 (some a11)) 1 (some a12)) 2 (some a13)) 3 (some a14)) 4 (some a15)) 5 (some a16))))))), (a2, .inl (cS, 4, .inr (.inr (.inr (.inr (va_up (va_up (va_up (va_up (fun _ => none) 0 (some a17)) 1 (some a18)) 2 (some a19)) 3 (some a20))))))), (a5, .inl (cR, 3, .inr (.inr (.inr (.inr (va_up (fun _ => none) 0 (some a21)))))))] ++ wX6 cI a21 u21) ++ r17) := hD
  rw [List.append_assoc] at hP hD
  obtain ⟨r18, er18⟩ : ∃ z, z = wX6 cI a21 u21 ++ r17 := ⟨_, rfl⟩
  rw [← er18] at hP hD
  have hP : va_P D vwCl ([(h0, .inr (7, [.ref a1, .ref a2, .ref a3, .ref a4, .ref a5, .ref a6, .ref a7, .ref a8, .ref a9, .ref a10, .int 0, .int 0, .long 0, .long 1])), (a1, .inl (cS, 6, .inr (.inr (.inr (.inr (va_up (va_up (va_up (va_up (va_up (va_up (fun _ => none) 0 (some a11)) 1 (some a12)) 2 (some a13)) 3 (some a14)) 4 (some a15)) 5 (some a16))))))), (a2, .inl (cS, 4, .inr (.inr (.inr (.inr (va_up (va_up (va_up (va_up (fun _ => none) 0 (some a17)) 1 (some a18)) 2 (some a19)) 3 (some a20))))))), (a5, .inl (cR, 3, .inr (.inr (.inr (.inr (va_up (fun _ => none) 0 (some a21)))))))] ++ r18) H := hP
  have hD : va_D A ([(h0, .inr (7, [.ref a1, .ref a2, .ref a3, .ref a4, .ref a5, .ref a6, .ref a7, .ref a8, .ref a9, .ref a10, .int 0, .int 0, .long 0, .long 1])), (a1, .inl (cS, 6, .inr (.inr (.inr (.inr (va_up (va_up (va_up (va_up (va_up (va_up (fun _ => none) 0 (some a11)) 1 (some a12)) 2 (some a13)) 3 (some a14)) 4 (some a15)) 5 (some a16))))))), (a2, .inl (cS, 4, .inr (.inr (.inr (.inr (va_up (va_up (va_up (va_up (fun _ => none) 0 (some a17)) 1 (some a18)) 2 (some a19)) 3 (some a20))))))), (a5, .inl (cR, 3, .inr (.inr (.inr (.inr (va_up (fun _ => none) 0 (some a21)))))))] ++ r18) := hD
  refine lv_iinc (v := 1) (lv' := [(1, .int 1), (0, .ref h0)]) hx hb ddX8_init_185 hl (k := 0) rfl (by decide) (by decide) rfl (fun ls hl => ?_)
  refine lv_goto (tgt := 167) hx hb ddX8_init_188 (by decide) ?_
  refine lv_iload_n hx hb ddX8_init_167 rfl (lv_at hl 0 rfl) ?_
  refine lv_iconst (v := 3) hx hb ddX8_init_168 (by decide) ?_
  refine lv_icmp_ge (tgt := 191) hx hb ddX8_init_169 (by decide) (fun c9 => absurd c9 (by decide)) (fun c9 => ?_)
  refine lv_aload_n hx hb ddX8_init_172 rfl (lv_at hl 1 rfl) ?_
  refine va_get (D := D) (ci := 7) (v := .ref a5) (C := RX8) (T := TX8) (N := 14) hx hb hts xin_X8 hown hK hP 0 rfl rfl 4 (by decide) (hts _ (xw_in 242 (by decide +kernel) rfl)) (fun _ h9 => h9) rfl ddX8_init_173 ?_
  refine lv_iload_n hx hb ddX8_init_176 rfl (lv_at hl 0 rfl) ?_
  refine va_new (ci := 5) (fs := [.int 0, .int 0, .int 0, .int 0, .int 0, .null, .null, .null, .null, .null, .null, .null, .null, .null]) (C := RX6) (T := TX6) (N := 14) hx hb hts xin_X6 tyX6 tyX6_ok hown (hts _ (xw_in 77 (by decide +kernel) rfl)) (hts _ (xw_in 78 (by decide +kernel) rfl)) (hts _ (xw_in 54 (by decide +kernel) rfl)) hK hP hD hS hA rfl df_X6 (Nat.le_of_ble_eq_true rfl) (Nat.le_of_ble_eq_true rfl) ddX8_init_177 (fun a22 H hP hD hS => ?_)
  have hP : va_P D vwCl (([(h0, .inr (7, [.ref a1, .ref a2, .ref a3, .ref a4, .ref a5, .ref a6, .ref a7, .ref a8, .ref a9, .ref a10, .int 0, .int 0, .long 0, .long 1])), (a1, .inl (cS, 6, .inr (.inr (.inr (.inr (va_up (va_up (va_up (va_up (va_up (va_up (fun _ => none) 0 (some a11)) 1 (some a12)) 2 (some a13)) 3 (some a14)) 4 (some a15)) 5 (some a16))))))), (a2, .inl (cS, 4, .inr (.inr (.inr (.inr (va_up (va_up (va_up (va_up (fun _ => none) 0 (some a17)) 1 (some a18)) 2 (some a19)) 3 (some a20))))))), (a5, .inl (cR, 3, .inr (.inr (.inr (.inr (va_up (fun _ => none) 0 (some a21)))))))] ++ r18) ++ [(a22, .inr (5, [.int 0, .int 0, .int 0, .int 0, .int 0, .null, .null, .null, .null, .null, .null, .null, .null, .null]))]) H := hP
  have hD : va_D A (([(h0, .inr (7, [.ref a1, .ref a2, .ref a3, .ref a4, .ref a5, .ref a6, .ref a7, .ref a8, .ref a9, .ref a10, .int 0, .int 0, .long 0, .long 1])), (a1, .inl (cS, 6, .inr (.inr (.inr (.inr (va_up (va_up (va_up (va_up (va_up (va_up (fun _ => none) 0 (some a11)) 1 (some a12)) 2 (some a13)) 3 (some a14)) 4 (some a15)) 5 (some a16))))))), (a2, .inl (cS, 4, .inr (.inr (.inr (.inr (va_up (va_up (va_up (va_up (fun _ => none) 0 (some a17)) 1 (some a18)) 2 (some a19)) 3 (some a20))))))), (a5, .inl (cR, 3, .inr (.inr (.inr (.inr (va_up (fun _ => none) 0 (some a21)))))))] ++ r18) ++ [(a22, .inr (5, [.int 0, .int 0, .int 0, .int 0, .int 0, .null, .null, .null, .null, .null, .null, .null, .null, .null]))]) := hD
  refine W.widen (k := 65) (n := 1184) (by omega) (by omega) ?_
  refine lv_dup hx hb ddX8_init_180 rfl ?_
  have hPc := xj_one hP
  have hDc := xj_oneD hD
  have hKc := hK.sub (tys' := []) [] rfl
  have hFc := xj_fr hD hS hA
  refine va_callv (va_runIN (As := []) (rest := [.ref a22, .int 1, .ref a5]) ⟨hx, hb, hml, hown, hts⟩ (ci_X6 l D a22 H.size) ⟨va_cnB (host := "CoatGoals") 0 hts (xi_good xw_good (xw_in 81 (by decide +kernel) rfl)) rfl rfl rfl (hH.1 _ (List.mem_of_getElem? (i := 0) rfl)) (hts _ (xw_in 54 (by decide +kernel) rfl)) (by decide +kernel) ⟨Nat.le_of_ble_eq_true rfl, Nat.le_of_ble_eq_true rfl⟩, rfl, (hts _ (xw_in 80 (by decide +kernel) rfl))⟩ ⟨fun a U g mk q => by obtain ⟨q0, q1, qP, qK, qD⟩ := q; exact ⟨q0, q1, qP, va_K.moved (u := U) (U := U.calling g mk a) (Vm.Alike.refl U.vm) qK, qD⟩, fun U hU hW => ⟨rfl, by rw [hU], by rw [hU]; exact hPc, va_K.moved hW.alike hKc, hDc.weaken (fun _ _ _ _ => trivial)⟩⟩ rfl rfl hl.1 rfl (lv_room (Nat.le_of_ble_eq_true rfl)) ddX8_init_181 ⟨Nat.le_of_ble_eq_true rfl, Nat.le_of_ble_eq_true rfl⟩) hS (fun q _ h => hFc q h) hFc (fun u22p t H1 locs ht hvm hw hB hz1 hk1 hS => ?_)
  obtain ⟨cA, u22⟩ := u22p
  obtain ⟨hP1, hK1, hD1⟩ := hB
  rw [ht] at hP1
  have hK1 := va_K.moved hvm.symm hK1
  obtain ⟨hP, hD⟩ := xj_join hP hD hk1 hFc hP1 hD1
  have hK := hK.app hK1
  generalize H1 = H at hP hS ⊢
  obtain rfl : cI = cA := xk_int hK (i := 1) (j := 3) rfl rfl
  have hK : va_K D vwCl [(cS, .object "CoatGoals$Strip"), (cI, .int), (cR, .object "CoatGoals$Republic")] s := hK.sub (tys' := [(cS, .object "CoatGoals$Strip"), (cI, .int), (cR, .object "CoatGoals$Republic")]) [0, 1, 2] rfl
  have hP : va_P D vwCl (([(h0, .inr (7, [.ref a1, .ref a2, .ref a3, .ref a4, .ref a5, .ref a6, .ref a7, .ref a8, .ref a9, .ref a10, .int 0, .int 0, .long 0, .long 1])), (a1, .inl (cS, 6, .inr (.inr (.inr (.inr (va_up (va_up (va_up (va_up (va_up (va_up (fun _ => none) 0 (some a11)) 1 (some a12)) 2 (some a13)) 3 (some a14)) 4 (some a15)) 5 (some a16))))))), (a2, .inl (cS, 4, .inr (.inr (.inr (.inr (va_up (va_up (va_up (va_up (fun _ => none) 0 (some a17)) 1 (some a18)) 2 (some a19)) 3 (some a20))))))), (a5, .inl (cR, 3, .inr (.inr (.inr (.inr (va_up (fun _ => none) 0 (some a21)))))))] ++ r18) ++ wX6 cI a22 u22) H := hP
  have hD : va_D A (([(h0, .inr (7, [.ref a1, .ref a2, .ref a3, .ref a4, .ref a5, .ref a6, .ref a7, .ref a8, .ref a9, .ref a10, .int 0, .int 0, .long 0, .long 1])), (a1, .inl (cS, 6, .inr (.inr (.inr (.inr (va_up (va_up (va_up (va_up (va_up (va_up (fun _ => none) 0 (some a11)) 1 (some a12)) 2 (some a13)) 3 (some a14)) 4 (some a15)) 5 (some a16))))))), (a2, .inl (cS, 4, .inr (.inr (.inr (.inr (va_up (va_up (va_up (va_up (fun _ => none) 0 (some a17)) 1 (some a18)) 2 (some a19)) 3 (some a20))))))), (a5, .inl (cR, 3, .inr (.inr (.inr (.inr (va_up (fun _ => none) 0 (some a21)))))))] ++ r18) ++ wX6 cI a22 u22) := hD
  refine W.widen (k := 74) (n := 1334) (by omega) (by omega) ?_
  have hP := xj_mvP hP
  have hD := xj_mvD hD
  have hP : va_P D vwCl (([(h0, .inr (7, [.ref a1, .ref a2, .ref a3, .ref a4, .ref a5, .ref a6, .ref a7, .ref a8, .ref a9, .ref a10, .int 0, .int 0, .long 0, .long 1])), (a1, .inl (cS, 6, .inr (.inr (.inr (.inr (va_up (va_up (va_up (va_up (va_up (va_up (fun _ => none) 0 (some a11)) 1 (some a12)) 2 (some a13)) 3 (some a14)) 4 (some a15)) 5 (some a16))))))), (a2, .inl (cS, 4, .inr (.inr (.inr (.inr (va_up (va_up (va_up (va_up (fun _ => none) 0 (some a17)) 1 (some a18)) 2 (some a19)) 3 (some a20))))))), (a5, .inl (cR, 3, .inr (.inr (.inr (.inr (va_up (fun _ => none) 0 (some a21)))))))] ++ wX6 cI a22 u22) ++ r18) H := hP
  have hD : va_D A (([(h0, .inr (7, [.ref a1, .ref a2, .ref a3, .ref a4, .ref a5, .ref a6, .ref a7, .ref a8, .ref a9, .ref a10, .int 0, .int 0, .long 0, .long 1])), (a1, .inl (cS, 6, .inr (.inr (.inr (.inr (va_up (va_up (va_up (va_up (va_up (va_up (fun _ => none) 0 (some a11)) 1 (some a12)) 2 (some a13)) 3 (some a14)) 4 (some a15)) 5 (some a16))))))), (a2, .inl (cS, 4, .inr (.inr (.inr (.inr (va_up (va_up (va_up (va_up (fun _ => none) 0 (some a17)) 1 (some a18)) 2 (some a19)) 3 (some a20))))))), (a5, .inl (cR, 3, .inr (.inr (.inr (.inr (va_up (fun _ => none) 0 (some a21)))))))] ++ wX6 cI a22 u22) ++ r18) := hD
  refine va_astq (r := (RX6, TX6, 14)) hx hb hK hP hD hS 3 2 4 5 rfl rfl rfl rfl (by unfold vp_in; decide) ddX8_init_184 (fun H locs hP hD hS => ?_)
  have hP : va_P D vwCl (([(h0, .inr (7, [.ref a1, .ref a2, .ref a3, .ref a4, .ref a5, .ref a6, .ref a7, .ref a8, .ref a9, .ref a10, .int 0, .int 0, .long 0, .long 1])), (a1, .inl (cS, 6, .inr (.inr (.inr (.inr (va_up (va_up (va_up (va_up (va_up (va_up (fun _ => none) 0 (some a11)) 1 (some a12)) 2 (some a13)) 3 (some a14)) 4 (some a15)) 5 (some a16))))))), (a2, .inl (cS, 4, .inr (.inr (.inr (.inr (va_up (va_up (va_up (va_up (fun _ => none) 0 (some a17)) 1 (some a18)) 2 (some a19)) 3 (some a20))))))), (a5, .inl (cR, 3, .inr (.inr (.inr (.inr (va_up (va_up (fun _ => none) 0 (some a21)) 1 (some a22)))))))] ++ wX6 cI a22 u22) ++ r18) H := hP
  have hD : va_D A (([(h0, .inr (7, [.ref a1, .ref a2, .ref a3, .ref a4, .ref a5, .ref a6, .ref a7, .ref a8, .ref a9, .ref a10, .int 0, .int 0, .long 0, .long 1])), (a1, .inl (cS, 6, .inr (.inr (.inr (.inr (va_up (va_up (va_up (va_up (va_up (va_up (fun _ => none) 0 (some a11)) 1 (some a12)) 2 (some a13)) 3 (some a14)) 4 (some a15)) 5 (some a16))))))), (a2, .inl (cS, 4, .inr (.inr (.inr (.inr (va_up (va_up (va_up (va_up (fun _ => none) 0 (some a17)) 1 (some a18)) 2 (some a19)) 3 (some a20))))))), (a5, .inl (cR, 3, .inr (.inr (.inr (.inr (va_up (va_up (fun _ => none) 0 (some a21)) 1 (some a22)))))))] ++ wX6 cI a22 u22) ++ r18) := hD
  rw [List.append_assoc] at hP hD
  obtain ⟨r19, er19⟩ : ∃ z, z = wX6 cI a22 u22 ++ r18 := ⟨_, rfl⟩
  rw [← er19] at hP hD
  have hP : va_P D vwCl ([(h0, .inr (7, [.ref a1, .ref a2, .ref a3, .ref a4, .ref a5, .ref a6, .ref a7, .ref a8, .ref a9, .ref a10, .int 0, .int 0, .long 0, .long 1])), (a1, .inl (cS, 6, .inr (.inr (.inr (.inr (va_up (va_up (va_up (va_up (va_up (va_up (fun _ => none) 0 (some a11)) 1 (some a12)) 2 (some a13)) 3 (some a14)) 4 (some a15)) 5 (some a16))))))), (a2, .inl (cS, 4, .inr (.inr (.inr (.inr (va_up (va_up (va_up (va_up (fun _ => none) 0 (some a17)) 1 (some a18)) 2 (some a19)) 3 (some a20))))))), (a5, .inl (cR, 3, .inr (.inr (.inr (.inr (va_up (va_up (fun _ => none) 0 (some a21)) 1 (some a22)))))))] ++ r19) H := hP
  have hD : va_D A ([(h0, .inr (7, [.ref a1, .ref a2, .ref a3, .ref a4, .ref a5, .ref a6, .ref a7, .ref a8, .ref a9, .ref a10, .int 0, .int 0, .long 0, .long 1])), (a1, .inl (cS, 6, .inr (.inr (.inr (.inr (va_up (va_up (va_up (va_up (va_up (va_up (fun _ => none) 0 (some a11)) 1 (some a12)) 2 (some a13)) 3 (some a14)) 4 (some a15)) 5 (some a16))))))), (a2, .inl (cS, 4, .inr (.inr (.inr (.inr (va_up (va_up (va_up (va_up (fun _ => none) 0 (some a17)) 1 (some a18)) 2 (some a19)) 3 (some a20))))))), (a5, .inl (cR, 3, .inr (.inr (.inr (.inr (va_up (va_up (fun _ => none) 0 (some a21)) 1 (some a22)))))))] ++ r19) := hD
  refine lv_iinc (v := 2) (lv' := [(1, .int 2), (0, .ref h0)]) hx hb ddX8_init_185 hl (k := 0) rfl (by decide) (by decide) rfl (fun ls hl => ?_)
  refine lv_goto (tgt := 167) hx hb ddX8_init_188 (by decide) ?_
  refine lv_iload_n hx hb ddX8_init_167 rfl (lv_at hl 0 rfl) ?_
  refine lv_iconst (v := 3) hx hb ddX8_init_168 (by decide) ?_
  refine lv_icmp_ge (tgt := 191) hx hb ddX8_init_169 (by decide) (fun c9 => absurd c9 (by decide)) (fun c9 => ?_)
  refine lv_aload_n hx hb ddX8_init_172 rfl (lv_at hl 1 rfl) ?_
  refine va_get (D := D) (ci := 7) (v := .ref a5) (C := RX8) (T := TX8) (N := 14) hx hb hts xin_X8 hown hK hP 0 rfl rfl 4 (by decide) (hts _ (xw_in 242 (by decide +kernel) rfl)) (fun _ h9 => h9) rfl ddX8_init_173 ?_
  refine lv_iload_n hx hb ddX8_init_176 rfl (lv_at hl 0 rfl) ?_
  refine va_new (ci := 5) (fs := [.int 0, .int 0, .int 0, .int 0, .int 0, .null, .null, .null, .null, .null, .null, .null, .null, .null]) (C := RX6) (T := TX6) (N := 14) hx hb hts xin_X6 tyX6 tyX6_ok hown (hts _ (xw_in 77 (by decide +kernel) rfl)) (hts _ (xw_in 78 (by decide +kernel) rfl)) (hts _ (xw_in 54 (by decide +kernel) rfl)) hK hP hD hS hA rfl df_X6 (Nat.le_of_ble_eq_true rfl) (Nat.le_of_ble_eq_true rfl) ddX8_init_177 (fun a23 H hP hD hS => ?_)
  have hP : va_P D vwCl (([(h0, .inr (7, [.ref a1, .ref a2, .ref a3, .ref a4, .ref a5, .ref a6, .ref a7, .ref a8, .ref a9, .ref a10, .int 0, .int 0, .long 0, .long 1])), (a1, .inl (cS, 6, .inr (.inr (.inr (.inr (va_up (va_up (va_up (va_up (va_up (va_up (fun _ => none) 0 (some a11)) 1 (some a12)) 2 (some a13)) 3 (some a14)) 4 (some a15)) 5 (some a16))))))), (a2, .inl (cS, 4, .inr (.inr (.inr (.inr (va_up (va_up (va_up (va_up (fun _ => none) 0 (some a17)) 1 (some a18)) 2 (some a19)) 3 (some a20))))))), (a5, .inl (cR, 3, .inr (.inr (.inr (.inr (va_up (va_up (fun _ => none) 0 (some a21)) 1 (some a22)))))))] ++ r19) ++ [(a23, .inr (5, [.int 0, .int 0, .int 0, .int 0, .int 0, .null, .null, .null, .null, .null, .null, .null, .null, .null]))]) H := hP
  have hD : va_D A (([(h0, .inr (7, [.ref a1, .ref a2, .ref a3, .ref a4, .ref a5, .ref a6, .ref a7, .ref a8, .ref a9, .ref a10, .int 0, .int 0, .long 0, .long 1])), (a1, .inl (cS, 6, .inr (.inr (.inr (.inr (va_up (va_up (va_up (va_up (va_up (va_up (fun _ => none) 0 (some a11)) 1 (some a12)) 2 (some a13)) 3 (some a14)) 4 (some a15)) 5 (some a16))))))), (a2, .inl (cS, 4, .inr (.inr (.inr (.inr (va_up (va_up (va_up (va_up (fun _ => none) 0 (some a17)) 1 (some a18)) 2 (some a19)) 3 (some a20))))))), (a5, .inl (cR, 3, .inr (.inr (.inr (.inr (va_up (va_up (fun _ => none) 0 (some a21)) 1 (some a22)))))))] ++ r19) ++ [(a23, .inr (5, [.int 0, .int 0, .int 0, .int 0, .int 0, .null, .null, .null, .null, .null, .null, .null, .null, .null]))]) := hD
  refine W.widen (k := 75) (n := 1348) (by omega) (by omega) ?_
  refine lv_dup hx hb ddX8_init_180 rfl ?_
  have hPc := xj_one hP
  have hDc := xj_oneD hD
  have hKc := hK.sub (tys' := []) [] rfl
  have hFc := xj_fr hD hS hA
  refine va_callv (va_runIN (As := []) (rest := [.ref a23, .int 2, .ref a5]) ⟨hx, hb, hml, hown, hts⟩ (ci_X6 l D a23 H.size) ⟨va_cnB (host := "CoatGoals") 0 hts (xi_good xw_good (xw_in 81 (by decide +kernel) rfl)) rfl rfl rfl (hH.1 _ (List.mem_of_getElem? (i := 0) rfl)) (hts _ (xw_in 54 (by decide +kernel) rfl)) (by decide +kernel) ⟨Nat.le_of_ble_eq_true rfl, Nat.le_of_ble_eq_true rfl⟩, rfl, (hts _ (xw_in 80 (by decide +kernel) rfl))⟩ ⟨fun a U g mk q => by obtain ⟨q0, q1, qP, qK, qD⟩ := q; exact ⟨q0, q1, qP, va_K.moved (u := U) (U := U.calling g mk a) (Vm.Alike.refl U.vm) qK, qD⟩, fun U hU hW => ⟨rfl, by rw [hU], by rw [hU]; exact hPc, va_K.moved hW.alike hKc, hDc.weaken (fun _ _ _ _ => trivial)⟩⟩ rfl rfl hl.1 rfl (lv_room (Nat.le_of_ble_eq_true rfl)) ddX8_init_181 ⟨Nat.le_of_ble_eq_true rfl, Nat.le_of_ble_eq_true rfl⟩) hS (fun q _ h => hFc q h) hFc (fun u23p t H1 locs ht hvm hw hB hz1 hk1 hS => ?_)
  obtain ⟨cA, u23⟩ := u23p
  obtain ⟨hP1, hK1, hD1⟩ := hB
  rw [ht] at hP1
  have hK1 := va_K.moved hvm.symm hK1
  obtain ⟨hP, hD⟩ := xj_join hP hD hk1 hFc hP1 hD1
  have hK := hK.app hK1
  generalize H1 = H at hP hS ⊢
  obtain rfl : cI = cA := xk_int hK (i := 1) (j := 3) rfl rfl
  have hK : va_K D vwCl [(cS, .object "CoatGoals$Strip"), (cI, .int), (cR, .object "CoatGoals$Republic")] s := hK.sub (tys' := [(cS, .object "CoatGoals$Strip"), (cI, .int), (cR, .object "CoatGoals$Republic")]) [0, 1, 2] rfl
  have hP : va_P D vwCl (([(h0, .inr (7, [.ref a1, .ref a2, .ref a3, .ref a4, .ref a5, .ref a6, .ref a7, .ref a8, .ref a9, .ref a10, .int 0, .int 0, .long 0, .long 1])), (a1, .inl (cS, 6, .inr (.inr (.inr (.inr (va_up (va_up (va_up (va_up (va_up (va_up (fun _ => none) 0 (some a11)) 1 (some a12)) 2 (some a13)) 3 (some a14)) 4 (some a15)) 5 (some a16))))))), (a2, .inl (cS, 4, .inr (.inr (.inr (.inr (va_up (va_up (va_up (va_up (fun _ => none) 0 (some a17)) 1 (some a18)) 2 (some a19)) 3 (some a20))))))), (a5, .inl (cR, 3, .inr (.inr (.inr (.inr (va_up (va_up (fun _ => none) 0 (some a21)) 1 (some a22)))))))] ++ r19) ++ wX6 cI a23 u23) H := hP
  have hD : va_D A (([(h0, .inr (7, [.ref a1, .ref a2, .ref a3, .ref a4, .ref a5, .ref a6, .ref a7, .ref a8, .ref a9, .ref a10, .int 0, .int 0, .long 0, .long 1])), (a1, .inl (cS, 6, .inr (.inr (.inr (.inr (va_up (va_up (va_up (va_up (va_up (va_up (fun _ => none) 0 (some a11)) 1 (some a12)) 2 (some a13)) 3 (some a14)) 4 (some a15)) 5 (some a16))))))), (a2, .inl (cS, 4, .inr (.inr (.inr (.inr (va_up (va_up (va_up (va_up (fun _ => none) 0 (some a17)) 1 (some a18)) 2 (some a19)) 3 (some a20))))))), (a5, .inl (cR, 3, .inr (.inr (.inr (.inr (va_up (va_up (fun _ => none) 0 (some a21)) 1 (some a22)))))))] ++ r19) ++ wX6 cI a23 u23) := hD
  refine W.widen (k := 84) (n := 1498) (by omega) (by omega) ?_
  have hP := xj_mvP hP
  have hD := xj_mvD hD
  have hP : va_P D vwCl (([(h0, .inr (7, [.ref a1, .ref a2, .ref a3, .ref a4, .ref a5, .ref a6, .ref a7, .ref a8, .ref a9, .ref a10, .int 0, .int 0, .long 0, .long 1])), (a1, .inl (cS, 6, .inr (.inr (.inr (.inr (va_up (va_up (va_up (va_up (va_up (va_up (fun _ => none) 0 (some a11)) 1 (some a12)) 2 (some a13)) 3 (some a14)) 4 (some a15)) 5 (some a16))))))), (a2, .inl (cS, 4, .inr (.inr (.inr (.inr (va_up (va_up (va_up (va_up (fun _ => none) 0 (some a17)) 1 (some a18)) 2 (some a19)) 3 (some a20))))))), (a5, .inl (cR, 3, .inr (.inr (.inr (.inr (va_up (va_up (fun _ => none) 0 (some a21)) 1 (some a22)))))))] ++ wX6 cI a23 u23) ++ r19) H := hP
  have hD : va_D A (([(h0, .inr (7, [.ref a1, .ref a2, .ref a3, .ref a4, .ref a5, .ref a6, .ref a7, .ref a8, .ref a9, .ref a10, .int 0, .int 0, .long 0, .long 1])), (a1, .inl (cS, 6, .inr (.inr (.inr (.inr (va_up (va_up (va_up (va_up (va_up (va_up (fun _ => none) 0 (some a11)) 1 (some a12)) 2 (some a13)) 3 (some a14)) 4 (some a15)) 5 (some a16))))))), (a2, .inl (cS, 4, .inr (.inr (.inr (.inr (va_up (va_up (va_up (va_up (fun _ => none) 0 (some a17)) 1 (some a18)) 2 (some a19)) 3 (some a20))))))), (a5, .inl (cR, 3, .inr (.inr (.inr (.inr (va_up (va_up (fun _ => none) 0 (some a21)) 1 (some a22)))))))] ++ wX6 cI a23 u23) ++ r19) := hD
  refine va_astq (r := (RX6, TX6, 14)) hx hb hK hP hD hS 3 2 4 5 rfl rfl rfl rfl (by unfold vp_in; decide) ddX8_init_184 (fun H locs hP hD hS => ?_)
  have hP : va_P D vwCl (([(h0, .inr (7, [.ref a1, .ref a2, .ref a3, .ref a4, .ref a5, .ref a6, .ref a7, .ref a8, .ref a9, .ref a10, .int 0, .int 0, .long 0, .long 1])), (a1, .inl (cS, 6, .inr (.inr (.inr (.inr (va_up (va_up (va_up (va_up (va_up (va_up (fun _ => none) 0 (some a11)) 1 (some a12)) 2 (some a13)) 3 (some a14)) 4 (some a15)) 5 (some a16))))))), (a2, .inl (cS, 4, .inr (.inr (.inr (.inr (va_up (va_up (va_up (va_up (fun _ => none) 0 (some a17)) 1 (some a18)) 2 (some a19)) 3 (some a20))))))), (a5, .inl (cR, 3, .inr (.inr (.inr (.inr (va_up (va_up (va_up (fun _ => none) 0 (some a21)) 1 (some a22)) 2 (some a23)))))))] ++ wX6 cI a23 u23) ++ r19) H := hP
  have hD : va_D A (([(h0, .inr (7, [.ref a1, .ref a2, .ref a3, .ref a4, .ref a5, .ref a6, .ref a7, .ref a8, .ref a9, .ref a10, .int 0, .int 0, .long 0, .long 1])), (a1, .inl (cS, 6, .inr (.inr (.inr (.inr (va_up (va_up (va_up (va_up (va_up (va_up (fun _ => none) 0 (some a11)) 1 (some a12)) 2 (some a13)) 3 (some a14)) 4 (some a15)) 5 (some a16))))))), (a2, .inl (cS, 4, .inr (.inr (.inr (.inr (va_up (va_up (va_up (va_up (fun _ => none) 0 (some a17)) 1 (some a18)) 2 (some a19)) 3 (some a20))))))), (a5, .inl (cR, 3, .inr (.inr (.inr (.inr (va_up (va_up (va_up (fun _ => none) 0 (some a21)) 1 (some a22)) 2 (some a23)))))))] ++ wX6 cI a23 u23) ++ r19) := hD
  rw [List.append_assoc] at hP hD
  obtain ⟨r20, er20⟩ : ∃ z, z = wX6 cI a23 u23 ++ r19 := ⟨_, rfl⟩
  rw [← er20] at hP hD
  have hP : va_P D vwCl ([(h0, .inr (7, [.ref a1, .ref a2, .ref a3, .ref a4, .ref a5, .ref a6, .ref a7, .ref a8, .ref a9, .ref a10, .int 0, .int 0, .long 0, .long 1])), (a1, .inl (cS, 6, .inr (.inr (.inr (.inr (va_up (va_up (va_up (va_up (va_up (va_up (fun _ => none) 0 (some a11)) 1 (some a12)) 2 (some a13)) 3 (some a14)) 4 (some a15)) 5 (some a16))))))), (a2, .inl (cS, 4, .inr (.inr (.inr (.inr (va_up (va_up (va_up (va_up (fun _ => none) 0 (some a17)) 1 (some a18)) 2 (some a19)) 3 (some a20))))))), (a5, .inl (cR, 3, .inr (.inr (.inr (.inr (va_up (va_up (va_up (fun _ => none) 0 (some a21)) 1 (some a22)) 2 (some a23)))))))] ++ r20) H := hP
  have hD : va_D A ([(h0, .inr (7, [.ref a1, .ref a2, .ref a3, .ref a4, .ref a5, .ref a6, .ref a7, .ref a8, .ref a9, .ref a10, .int 0, .int 0, .long 0, .long 1])), (a1, .inl (cS, 6, .inr (.inr (.inr (.inr (va_up (va_up (va_up (va_up (va_up (va_up (fun _ => none) 0 (some a11)) 1 (some a12)) 2 (some a13)) 3 (some a14)) 4 (some a15)) 5 (some a16))))))), (a2, .inl (cS, 4, .inr (.inr (.inr (.inr (va_up (va_up (va_up (va_up (fun _ => none) 0 (some a17)) 1 (some a18)) 2 (some a19)) 3 (some a20))))))), (a5, .inl (cR, 3, .inr (.inr (.inr (.inr (va_up (va_up (va_up (fun _ => none) 0 (some a21)) 1 (some a22)) 2 (some a23)))))))] ++ r20) := hD
  refine lv_iinc (v := 3) (lv' := [(1, .int 3), (0, .ref h0)]) hx hb ddX8_init_185 hl (k := 0) rfl (by decide) (by decide) rfl (fun ls hl => ?_)
  refine lv_goto (tgt := 167) hx hb ddX8_init_188 (by decide) ?_
  refine lv_iload_n hx hb ddX8_init_167 rfl (lv_at hl 0 rfl) ?_
  refine lv_iconst (v := 3) hx hb ddX8_init_168 (by decide) ?_
  refine lv_icmp_ge (tgt := 191) hx hb ddX8_init_169 (by decide) (fun c9 => ?_) (fun c9 => absurd (by decide) c9)
  subst er20 er19 er18 er17 er16 er15 er14 er13 er12 er11 er10 er9 er8 er7 er6 er5 er4 er3 er2 er1 er0
  obtain ⟨q, hq⟩ : ∃ q : Nat → Nat, q = fun a => ([h0, a1, a2, a5, a10, a6, (u6 1), (u6 2), (u6 3), a7, (u7 1), a8, (u8 1), a9, (u9 1), 0, 0, 0, 0, 0, 0, 0, 0, 0, 0, 0, 0, 0, 0, 0, a11, a12, a13, a14, a15, a16, a17, a18, a19, a20, (u11 1), (u12 1), (u13 1), (u14 1), (u15 1), (u16 1), (u17 1), (u18 1), (u19 1), (u20 1), a3, (u3 1), (u3 2), (u3 3), (u3 4), (u3 5), (u3 6), (u3 7), (u3 8), (u3 9), a4, (u4 1), (u4 2), (u4 3), (u4 4), (u4 5), (u4 6), (u4 7), (u4 8), (u4 9), a21, (u21 1), (u21 2), (u21 3), (u21 4), (u21 5), (u21 6), (u21 7), (u21 8), (u21 9), a22, (u22 1), (u22 2), (u22 3), (u22 4), (u22 5), (u22 6), (u22 7), (u22 8), (u22 9), a23, (u23 1), (u23 2), (u23 3), (u23 4), (u23 5), (u23 6), (u23 7), (u23 8), (u23 9)] : List Nat).getD a 0 := ⟨_, rfl⟩
  have hP9 := hP.sub (ws' := wX8 cI cS cR h0 (fun a => ([h0, a1, a2, a5, a10, a6, (u6 1), (u6 2), (u6 3), a7, (u7 1), a8, (u8 1), a9, (u9 1), 0, 0, 0, 0, 0, 0, 0, 0, 0, 0, 0, 0, 0, 0, 0, a11, a12, a13, a14, a15, a16, a17, a18, a19, a20, (u11 1), (u12 1), (u13 1), (u14 1), (u15 1), (u16 1), (u17 1), (u18 1), (u19 1), (u20 1), a3, (u3 1), (u3 2), (u3 3), (u3 4), (u3 5), (u3 6), (u3 7), (u3 8), (u3 9), a4, (u4 1), (u4 2), (u4 3), (u4 4), (u4 5), (u4 6), (u4 7), (u4 8), (u4 9), a21, (u21 1), (u21 2), (u21 3), (u21 4), (u21 5), (u21 6), (u21 7), (u21 8), (u21 9), a22, (u22 1), (u22 2), (u22 3), (u22 4), (u22 5), (u22 6), (u22 7), (u22 8), (u22 9), a23, (u23 1), (u23 2), (u23 3), (u23 4), (u23 5), (u23 6), (u23 7), (u23 8), (u23 9)] : List Nat).getD a 0)) [0, 1, 2, 3, 84, 74, 75, 76, 77, 78, 79, 80, 81, 82, 83, 52, 50, 48, 46, 44, 42, 40, 38, 36, 34, 53, 51, 49, 47, 45, 43, 41, 39, 37, 35, 54, 55, 56, 57, 58, 59, 60, 61, 62, 63, 64, 65, 66, 67, 68, 69, 70, 71, 72, 73, 24, 25, 26, 27, 28, 29, 30, 31, 32, 33, 14, 15, 16, 17, 18, 19, 20, 21, 22, 23, 4, 5, 6, 7, 8, 9, 10, 11, 12, 13] rfl
  have hD9 := hD.sub (ws' := wX8 cI cS cR h0 (fun a => ([h0, a1, a2, a5, a10, a6, (u6 1), (u6 2), (u6 3), a7, (u7 1), a8, (u8 1), a9, (u9 1), 0, 0, 0, 0, 0, 0, 0, 0, 0, 0, 0, 0, 0, 0, 0, a11, a12, a13, a14, a15, a16, a17, a18, a19, a20, (u11 1), (u12 1), (u13 1), (u14 1), (u15 1), (u16 1), (u17 1), (u18 1), (u19 1), (u20 1), a3, (u3 1), (u3 2), (u3 3), (u3 4), (u3 5), (u3 6), (u3 7), (u3 8), (u3 9), a4, (u4 1), (u4 2), (u4 3), (u4 4), (u4 5), (u4 6), (u4 7), (u4 8), (u4 9), a21, (u21 1), (u21 2), (u21 3), (u21 4), (u21 5), (u21 6), (u21 7), (u21 8), (u21 9), a22, (u22 1), (u22 2), (u22 3), (u22 4), (u22 5), (u22 6), (u22 7), (u22 8), (u22 9), a23, (u23 1), (u23 2), (u23 3), (u23 4), (u23 5), (u23 6), (u23 7), (u23 8), (u23 9)] : List Nat).getD a 0)) [0, 1, 2, 3, 84, 74, 75, 76, 77, 78, 79, 80, 81, 82, 83, 52, 50, 48, 46, 44, 42, 40, 38, 36, 34, 53, 51, 49, 47, 45, 43, 41, 39, 37, 35, 54, 55, 56, 57, 58, 59, 60, 61, 62, 63, 64, 65, 66, 67, 68, 69, 70, 71, 72, 73, 24, 25, 26, 27, 28, 29, 30, 31, 32, 33, 14, 15, 16, 17, 18, 19, 20, 21, 22, 23, 4, 5, 6, 7, 8, 9, 10, 11, 12, 13] (by decide +kernel) rfl
  rw [← hq] at hP9 hD9
  have hK9 : va_K D vwCl [(cI, .int), (cS, .object "CoatGoals$Strip"), (cR, .object "CoatGoals$Republic")] s := hK.sub (tys' := [(cI, .int), (cS, .object "CoatGoals$Strip"), (cR, .object "CoatGoals$Republic")]) [1, 0, 2] rfl
  exact W.vret hx hb hr (fun t ht hW => ⟨⟨((cI, cS, cR), q), rfl, trivial, by rw [ht]; exact hP9, va_K.moved hW.alike hK9, hD9⟩, hS.F ht⟩) hS.2.2 ddX8_init_191
