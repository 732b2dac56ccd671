/-! fault, republic: the machine, with a Reader that is made and left -/
theorem ddX5_init_0 : decode cX5_init 0 = .ok (.aload_n 0, 1) := by decide +kernel
theorem ddX5_init_1 : decode cX5_init 1 = .ok (.invokespecial 3, 3) := by decide +kernel
theorem ddX5_init_4 : decode cX5_init 4 = .ok (.aload_n 0, 1) := by decide +kernel
theorem ddX5_init_5 : decode cX5_init 5 = .ok (.bipush (-9), 2) := by decide +kernel
theorem ddX5_init_7 : decode cX5_init 7 = .ok (.putfield 9, 3) := by decide +kernel
theorem ddX5_init_10 : decode cX5_init 10 = .ok (.aload_n 0, 1) := by decide +kernel
theorem ddX5_init_11 : decode cX5_init 11 = .ok (.aload_n 1, 1) := by decide +kernel
theorem ddX5_init_12 : decode cX5_init 12 = .ok (.putfield 15, 3) := by decide +kernel
theorem ddX5_init_15 : decode cX5_init 15 = .ok (.return_, 1) := by decide +kernel
set_option maxHeartbeats 4000000 in
theorem ci_X5 (l : Launch) (D : va_G) (h0 sz tx : Nat) : Met l yX5_init (.code yX5_init cX5_init 2 none :: xTs) ({ frames := 1, cells := 0, slots := 0, locals := 12 }) (va_Pc [.ref h0, .ref tx] (fun U => U.heap.size = sz ∧ va_P D vwCl [(h0, .inr (4, [.null, .int 0, .int 0]))] U.heap ∧ va_K D vwCl [] U ∧ va_D (fun _ => True) [(h0, .inr (4, [.null, .int 0, .int 0]))])) (va_Qv (fun _ : Unit => True) (fun _ t => va_P D vwCl [(h0, .inr (4, [.ref tx, .int 0, .int (zi (-9))]))] t.heap ∧ va_D (va_A [(h0, .inr (4, [.null, .int 0, .int 0]))] sz) [(h0, .inr (4, [.ref tx, .int 0, .int (zi (-9))]))]) (va_A [(h0, .inr (4, [.null, .int 0, .int 0]))] sz)) 0 0 (va_A [(h0, .inr (4, [.null, .int 0, .int 0]))] sz) := by
  refine Met.ofW (cc := cX5_init) (maxL := 2) (ret := none) (by decide) rfl ?_
  intro p e s m args below meth c s₁ B hml hv
  obtain ⟨rfl, hsz, hP, hK, hD0⟩ := hv
  have hx := B.exec
  have hb := B.bytes
  have hr := B.returns
  have hts0 := atoms_spec (ws := .code yX5_init cX5_init 2 none :: xTs) B.pre
  have hts : ∀ w ∈ xTs, w.before _ s = true := fun w hw => hts0 w (List.mem_cons_of_mem _ hw)
  have hown : s.vm.findClass RX5 = some m.cls := findClass_of_methodNamed B.named
  have hlocks := B.notSynchronized
  have hin : meth.name = "<init>" := (name_of_methodNamed B.named B.method).1
  subst hsz
  have hD := hD0.self (sz := s.heap.size)
  generalize hAe : va_A [(h0, .inr (4, [.null, .int 0, .int 0]))] s.heap.size = A at hD ⊢
  have hS : va_S A s.heap s.heap [] := va_S.rf
  have hP : va_P D vwCl [(h0, .inr (4, [.null, .int 0, .int 0]))] s.heap := hP
  have hl := lv_entry ([.ref h0, .ref tx]) (n := 2) (Nat.le_of_ble_eq_true rfl)
  rw [lg_entry_eq]
  generalize (lg_sl ([.ref h0, .ref tx]) ++ List.replicate (2 - (lg_sl ([.ref h0, .ref tx])).length) Slot.unset).toArray = ls at hl ⊢
  have hl : lv_has ls 2 [(0, .ref h0), (1, .ref tx)] := hl
  refine lv_aload_n hx hb ddX5_init_0 rfl (lv_at hl 0 rfl) ?_
  refine W.objInit hx hb hown (hts _ (xw_in 359 (by decide +kernel) rfl)) (hts _ (xw_in 73 (by decide +kernel) rfl)) (hts _ (xw_in 74 (by decide +kernel) rfl)) rfl (by rw [hml]; exact hl.1) rfl ddX5_init_1 (Nat.le_of_ble_eq_true rfl) (Nat.le_of_ble_eq_true rfl) ?_
  refine W.eq (g2 := F0 m 4 ls []) rfl ?_
  refine lv_aload_n hx hb ddX5_init_4 rfl (lv_at hl 0 rfl) ?_
  refine lv_bipush (v := zi (-9)) hx hb ddX5_init_5 (by decide) ?_
  refine va_put (D := D) (ci := 4) (v := .int (zi (-9))) (ty := .int) (C := RX5) (T := TX5) (N := 3) hx hb hts xin_X5 tyX5 tyX5_ok nmX5 hown hK hP hD hS 0 rfl rfl 2 (by decide) (hts _ (xw_in 362 (by decide +kernel) rfl)) (fun _ h9 => h9) rfl (by decide +kernel) rfl rfl (Nat.le_of_ble_eq_true rfl) ddX5_init_7 (fun H locs hP hD hS => ?_)
  have hP : va_P D vwCl [(h0, .inr (4, [.null, .int 0, .int (zi (-9))]))] H := hP
  have hD : va_D A [(h0, .inr (4, [.null, .int 0, .int (zi (-9))]))] := hD
  refine lv_aload_n hx hb ddX5_init_10 rfl (lv_at hl 0 rfl) ?_
  refine lv_aload_n hx hb ddX5_init_11 rfl (lv_at hl 1 rfl) ?_
  refine va_putF (D := D) (ci := 4) (v := .ref tx) (ty := .object "CoatGoals$Strip") (C := RX5) (T := TX5) (N := 3) hx hb hts xin_X5 tyX5 tyX5_ok nmX5 hown hK hP hD hS 0 rfl rfl 0 (by decide) (hts _ (xw_in 360 (by decide +kernel) rfl)) (fun _ h9 => h9) rfl hin rfl (by decide +kernel) rfl rfl (Nat.le_of_ble_eq_true rfl) ddX5_init_12 (fun H locs hP hD hS => ?_)
  have hP : va_P D vwCl [(h0, .inr (4, [.ref tx, .int 0, .int (zi (-9))]))] H := hP
  have hD : va_D A [(h0, .inr (4, [.ref tx, .int 0, .int (zi (-9))]))] := hD
  exact W.vret hx hb hr (fun t ht hW => ⟨⟨(), rfl, trivial, by rw [ht]; exact hP, hD⟩, hS.F ht⟩) hS.2.2 ddX5_init_15
def xE1 (E : xi_E) (q : Nat) : xi_E := (fun a => if a = 100 then q else E.1 a, 101, E.2.2.1, E.2.2.2)
def xS1 (u : Nat) : xi_S := (fun a => if a = 100 then 7 else xS0.1 a, xS0.2.1, fun a k => if a = 100 then (if k = 0 then some (36 + u) else none) else xS0.2.2 a k)
def xm1 (m : xi_M) : xi_M := (fun a => if a = 100 then (fun k => if k = 2 then zi (-9) else 0) else m.1 a, m.2)
theorem xr0_b : xr0.all (fun r => r.all (fun x => x.all (fun b => decide (b < 100)))) = true := by decide +kernel
theorem xref0 {a k b : Nat} (h : xS0.2.2 a k = some b) : b < 100 := by
  have h' : (if a = 1 then (if k < 6 then some (30 + k) else none) else if a = 2 then (if k < 4 then some (36 + k) else none) else if a = 3 then (if k < 3 then some (70 + 10 * k) else none) else (xr0.getD a []).getD k none) = some b := h
  by_cases e1 : a = 1
  · rw [if_pos e1] at h'
    by_cases e2 : k < 6
    · rw [if_pos e2] at h'; cases h'; omega
    · rw [if_neg e2] at h'; cases h'
  · rw [if_neg e1] at h'
    by_cases e3 : a = 2
    · rw [if_pos e3] at h'
      by_cases e2 : k < 4
      · rw [if_pos e2] at h'; cases h'; omega
      · rw [if_neg e2] at h'; cases h'
    · rw [if_neg e3] at h'
      by_cases e4 : a = 3
      · rw [if_pos e4] at h'
        by_cases e2 : k < 3
        · rw [if_pos e2] at h'; cases h'; omega
        · rw [if_neg e2] at h'; cases h'
      · rw [if_neg e4] at h'
        rw [List.getD_eq_getElem?_getD, List.getD_eq_getElem?_getD] at h'
        cases hr : xr0[a]? with
        | none => rw [hr] at h'; simp at h'
        | some r =>
          rw [hr] at h'
          cases hk : r[k]? with
          | none => simp [hk] at h'
          | some x =>
            simp [hk] at h'
            have h1 := List.all_eq_true.mp xr0_b r (List.mem_of_getElem? hr)
            have h2 := List.all_eq_true.mp h1 x (List.mem_of_getElem? hk)
            rw [h'] at h2
            simpa using h2
theorem xcel1 {E : xi_E} {q u : Nat} {m : xi_M} {a : Nat} (ha : a ≠ 100) : xi_cel (xE1 E q) (xS1 u) m a = xi_cel E xS0 m a := by
  have e1 : (xS1 u).1 a = xS0.1 a := if_neg ha
  have e2 : ∀ k, ((xS1 u).2.2 a k).map (xE1 E q).1 = (xS0.2.2 a k).map E.1 := fun k => by
    show ((if a = 100 then (if k = 0 then some (36 + u) else none) else xS0.2.2 a k).map _) = _
    rw [if_neg ha]
    cases h : xS0.2.2 a k with
    | none => rfl
    | some b =>
      have := xref0 h
      show some (if b = 100 then q else E.1 b) = some (E.1 b)
      rw [if_neg (by omega)]
  have e3 : ∀ k t, xi_fv (xE1 E q) (xS1 u) m a k t = xi_fv E xS0 m a k t := fun k t => by
    unfold xi_fv
    rw [e2]
  unfold xi_cel xi_fs
  rw [e1]
  simp only [e2, e3]
  rfl
theorem xwld1 {E : xi_E} (hn : E.2.1 = 100) (hft : E.2.2.1 = xft) {q u : Nat} {m : xi_M} (hu : u < 4) : xi_wld (xE1 E q) (xS1 u) m = xi_wld E xS0 m ++ [(q, .inr (4, [.ref (E.1 (36 + u)), .int (m.1 100 1), .int (m.1 100 2)]))] := by
  unfold xi_wld
  rw [hn, show (xE1 E q).2.1 = 100 + 1 from rfl, List.range_succ, List.map_append]
  congr 1
  · refine List.map_congr_left fun a ha => ?_
    have : a < 100 := List.mem_range.mp ha
    rw [xcel1 (by omega)]
    show ((if a = 100 then q else E.1 a), _) = _
    rw [if_neg (by omega)]
  · show [((xE1 E q).1 100, xi_cel (xE1 E q) (xS1 u) m 100)] = _
    have e : xi_cel (xE1 E q) (xS1 u) m 100 = .inr (4, xi_fs (xE1 E q) (xS1 u) m 100 4) := xi_cel_obj (ci := 4) rfl
    rw [e]
    unfold xi_fs
    rw [show (xE1 E q).2.2.1 = xft from hft]
    show [(q, Sum.inr (4, [va_rf (((if (0 : Nat) = 0 then some (36 + u) else none) : Option Nat).map (xE1 E q).1), .int (m.1 100 1), .int (m.1 100 2)]))] = _
    rw [if_pos rfl]
    show [(q, Sum.inr (4, [Value.ref (if 36 + u = 100 then q else E.1 (36 + u)), .int (m.1 100 1), .int (m.1 100 2)]))] = _
    rw [if_neg (by omega)]
theorem xdrop {D : va_G} {E : xi_E} {H : Heap} {q u : Nat} {m : xi_M} (hn : E.2.1 = 100) (hft : E.2.2.1 = xft) (hu : u < 4) (h : va_P D vwCl (xi_wld (xE1 E q) (xS1 u) m) H) : va_P D vwCl (xi_wld E xS0 m) H := by
  rw [xwld1 hn hft hu] at h
  exact fun k x hx => h k x (by rw [List.getElem?_append_left (List.getElem?_eq_some_iff.mp hx).1]; exact hx)
set_option maxRecDepth 100000 in
theorem sh1 {u : Nat} (hu : u < 4) : Sh (xS1 u) := by
  rcases (show u = 0 ∨ u = 1 ∨ u = 2 ∨ u = 3 by omega) with rfl | rfl | rfl | rfl
  all_goals
    refine ⟨?_, ?_, ?_, fun j hj => ?_⟩
    · unfold ShT
      repeat' apply And.intro
      all_goals decide +kernel
    · unfold ShB
      repeat' apply And.intro
      all_goals decide +kernel
    · unfold ShX
      repeat' apply And.intro
      all_goals decide +kernel
    · rcases (show j = 0 ∨ j = 1 ∨ j = 2 ∨ j = 3 ∨ j = 4 by omega) with rfl | rfl | rfl | rfl | rfl
      all_goals
        unfold ShR
        repeat' apply And.intro
        all_goals decide +kernel
theorem xC1 {E : xi_E} {tys : List (ClassId × FieldType)} (hC : xCx E xS0 tys) (hn : E.2.1 = 100) {q u : Nat} (hq : ∀ a, a < 100 → E.1 a ≠ q) : xCx (xE1 E q) (xS1 u) tys := by
  obtain ⟨⟨h1, h2, h3, h4, h5⟩, hft⟩ := hC
  refine ⟨⟨fun a b ha hb he => ?_, fun a h => ?_, h3, h4, h5⟩, hft⟩
  · have ha' : a < 101 := ha
    have hb' : b < 101 := hb
    have he' : (if a = 100 then q else E.1 a) = (if b = 100 then q else E.1 b) := he
    by_cases a1 : a = 100
    · by_cases b1 : b = 100
      · omega
      · rw [if_pos a1, if_neg b1] at he'; exact absurd he'.symm (hq b (by omega))
    · by_cases b1 : b = 100
      · rw [if_neg a1, if_pos b1] at he'; exact absurd he' (hq a (by omega))
      · rw [if_neg a1, if_neg b1] at he'
        exact h1 a b (by omega) (by omega) he'
  · show a < 101
    by_cases a1 : a = 100
    · omega
    · have h' : (if a = 100 then 7 else xS0.1 a) < 12 := h
      rw [if_neg a1] at h'
      have := xk0_b h'
      omega
theorem ddX8_fault_0 : decode cX8_fault 0 = .ok (.iload_n 1, 1) := by decide +kernel
theorem ddX8_fault_1 : decode cX8_fault 1 = .ok (.iconst 3, 1) := by decide +kernel
theorem ddX8_fault_2 : decode cX8_fault 2 = .ok (.invokestatic 71, 3) := by decide +kernel
theorem ddX8_fault_5 : decode cX8_fault 5 = .ok (.ifCond .ne 5, 3) := by decide +kernel
theorem ddX8_fault_8 : decode cX8_fault 8 = .ok (.iconst (-1), 1) := by decide +kernel
theorem ddX8_fault_9 : decode cX8_fault 9 = .ok (.ireturn, 1) := by decide +kernel
theorem ddX8_fault_10 : decode cX8_fault 10 = .ok (.aload_n 0, 1) := by decide +kernel
theorem ddX8_fault_11 : decode cX8_fault 11 = .ok (.getfield 15, 3) := by decide +kernel
theorem ddX8_fault_14 : decode cX8_fault 14 = .ok (.iload_n 1, 1) := by decide +kernel
theorem ddX8_fault_15 : decode cX8_fault 15 = .ok (.aaload, 1) := by decide +kernel
theorem ddX8_fault_16 : decode cX8_fault 16 = .ok (.getfield 92, 3) := by decide +kernel
theorem ddX8_fault_19 : decode cX8_fault 19 = .ok (.ifCond .ne 9, 3) := by decide +kernel
theorem ddX8_fault_22 : decode cX8_fault 22 = .ok (.aload_n 0, 1) := by decide +kernel
theorem ddX8_fault_23 : decode cX8_fault 23 = .ok (.iconst 1, 1) := by decide +kernel
theorem ddX8_fault_24 : decode cX8_fault 24 = .ok (.invokevirtual 83, 3) := by decide +kernel
theorem ddX8_fault_27 : decode cX8_fault 27 = .ok (.ireturn, 1) := by decide +kernel
theorem ddX8_fault_28 : decode cX8_fault 28 = .ok (.new 113, 3) := by decide +kernel
theorem ddX8_fault_31 : decode cX8_fault 31 = .ok (.dup, 1) := by decide +kernel
theorem ddX8_fault_32 : decode cX8_fault 32 = .ok (.aload_n 0, 1) := by decide +kernel
theorem ddX8_fault_33 : decode cX8_fault 33 = .ok (.getfield 15, 3) := by decide +kernel
theorem ddX8_fault_36 : decode cX8_fault 36 = .ok (.iload_n 1, 1) := by decide +kernel
theorem ddX8_fault_37 : decode cX8_fault 37 = .ok (.aaload, 1) := by decide +kernel
theorem ddX8_fault_38 : decode cX8_fault 38 = .ok (.invokespecial 115, 3) := by decide +kernel
theorem ddX8_fault_41 : decode cX8_fault 41 = .ok (.aload_n 0, 1) := by decide +kernel
theorem ddX8_fault_42 : decode cX8_fault 42 = .ok (.getfield 25, 3) := by decide +kernel
theorem ddX8_fault_45 : decode cX8_fault 45 = .ok (.invokevirtual 118, 3) := by decide +kernel
theorem ddX8_fault_48 : decode cX8_fault 48 = .ok (.ireturn, 1) := by decide +kernel
theorem ddX8_republic_0 : decode cX8_republic 0 = .ok (.iload_n 1, 1) := by decide +kernel
theorem ddX8_republic_1 : decode cX8_republic 1 = .ok (.iconst 3, 1) := by decide +kernel
theorem ddX8_republic_2 : decode cX8_republic 2 = .ok (.invokestatic 71, 3) := by decide +kernel
theorem ddX8_republic_5 : decode cX8_republic 5 = .ok (.ifCond .ne 5, 3) := by decide +kernel
theorem ddX8_republic_8 : decode cX8_republic 8 = .ok (.iconst (-1), 1) := by decide +kernel
theorem ddX8_republic_9 : decode cX8_republic 9 = .ok (.ireturn, 1) := by decide +kernel
theorem ddX8_republic_10 : decode cX8_republic 10 = .ok (.aload_n 0, 1) := by decide +kernel
theorem ddX8_republic_11 : decode cX8_republic 11 = .ok (.getfield 15, 3) := by decide +kernel
theorem ddX8_republic_14 : decode cX8_republic 14 = .ok (.iload_n 1, 1) := by decide +kernel
theorem ddX8_republic_15 : decode cX8_republic 15 = .ok (.aaload, 1) := by decide +kernel
theorem ddX8_republic_16 : decode cX8_republic 16 = .ok (.getfield 92, 3) := by decide +kernel
theorem ddX8_republic_19 : decode cX8_republic 19 = .ok (.ifCond .ne 9, 3) := by decide +kernel
theorem ddX8_republic_22 : decode cX8_republic 22 = .ok (.aload_n 0, 1) := by decide +kernel
theorem ddX8_republic_23 : decode cX8_republic 23 = .ok (.iconst 1, 1) := by decide +kernel
theorem ddX8_republic_24 : decode cX8_republic 24 = .ok (.invokevirtual 83, 3) := by decide +kernel
theorem ddX8_republic_27 : decode cX8_republic 27 = .ok (.ireturn, 1) := by decide +kernel
theorem ddX8_republic_28 : decode cX8_republic 28 = .ok (.new 113, 3) := by decide +kernel
theorem ddX8_republic_31 : decode cX8_republic 31 = .ok (.dup, 1) := by decide +kernel
theorem ddX8_republic_32 : decode cX8_republic 32 = .ok (.aload_n 0, 1) := by decide +kernel
theorem ddX8_republic_33 : decode cX8_republic 33 = .ok (.getfield 15, 3) := by decide +kernel
theorem ddX8_republic_36 : decode cX8_republic 36 = .ok (.iload_n 1, 1) := by decide +kernel
theorem ddX8_republic_37 : decode cX8_republic 37 = .ok (.aaload, 1) := by decide +kernel
theorem ddX8_republic_38 : decode cX8_republic 38 = .ok (.invokespecial 115, 3) := by decide +kernel
theorem ddX8_republic_41 : decode cX8_republic 41 = .ok (.aload_n 0, 1) := by decide +kernel
theorem ddX8_republic_42 : decode cX8_republic 42 = .ok (.getfield 25, 3) := by decide +kernel
theorem ddX8_republic_45 : decode cX8_republic 45 = .ok (.invokevirtual 118, 3) := by decide +kernel
theorem ddX8_republic_48 : decode cX8_republic 48 = .ok (.bipush (-9), 2) := by decide +kernel
theorem ddX8_republic_50 : decode cX8_republic 50 = .ok (.if_icmp .eq 6, 3) := by decide +kernel
theorem ddX8_republic_53 : decode cX8_republic 53 = .ok (.bipush (-4), 2) := by decide +kernel
theorem ddX8_republic_55 : decode cX8_republic 55 = .ok (.ireturn, 1) := by decide +kernel
theorem ddX8_republic_56 : decode cX8_republic 56 = .ok (.aload_n 0, 1) := by decide +kernel
theorem ddX8_republic_57 : decode cX8_republic 57 = .ok (.getfield 21, 3) := by decide +kernel
theorem ddX8_republic_60 : decode cX8_republic 60 = .ok (.aload_n 0, 1) := by decide +kernel
theorem ddX8_republic_61 : decode cX8_republic 61 = .ok (.getfield 25, 3) := by decide +kernel
theorem ddX8_republic_64 : decode cX8_republic 64 = .ok (.invokevirtual 122, 3) := by decide +kernel
theorem ddX8_republic_67 : decode cX8_republic 67 = .ok (.iconst 0, 1) := by decide +kernel
theorem ddX8_republic_68 : decode cX8_republic 68 = .ok (.istore_n 2, 1) := by decide +kernel
theorem ddX8_republic_69 : decode cX8_republic 69 = .ok (.iload_n 2, 1) := by decide +kernel
theorem ddX8_republic_70 : decode cX8_republic 70 = .ok (.iconst 3, 1) := by decide +kernel
theorem ddX8_republic_71 : decode cX8_republic 71 = .ok (.if_icmp .ge 18, 3) := by decide +kernel
theorem ddX8_republic_74 : decode cX8_republic 74 = .ok (.aload_n 0, 1) := by decide +kernel
theorem ddX8_republic_75 : decode cX8_republic 75 = .ok (.getfield 28, 3) := by decide +kernel
theorem ddX8_republic_78 : decode cX8_republic 78 = .ok (.iload_n 2, 1) := by decide +kernel
theorem ddX8_republic_79 : decode cX8_republic 79 = .ok (.aaload, 1) := by decide +kernel
theorem ddX8_republic_80 : decode cX8_republic 80 = .ok (.invokevirtual 126, 3) := by decide +kernel
theorem ddX8_republic_83 : decode cX8_republic 83 = .ok (.iinc 2 1, 3) := by decide +kernel
theorem ddX8_republic_86 : decode cX8_republic 86 = .ok (.goto (-17), 3) := by decide +kernel
theorem ddX8_republic_89 : decode cX8_republic 89 = .ok (.aload_n 0, 1) := by decide +kernel
theorem ddX8_republic_90 : decode cX8_republic 90 = .ok (.getfield 21, 3) := by decide +kernel
theorem ddX8_republic_93 : decode cX8_republic 93 = .ok (.getfield 129, 3) := by decide +kernel
theorem ddX8_republic_96 : decode cX8_republic 96 = .ok (.ireturn, 1) := by decide +kernel
set_option maxHeartbeats 4000000 in
set_option maxRecDepth 100000 in
theorem f0_fault (l : Launch) (D : va_G) {E : xi_E} {tys : List (ClassId × FieldType)} (hC : xCx E xS0 tys) (hn : E.2.1 = 100) (sz : Nat) {m0 m2 : xi_M} {v : Int} (hm : m2 = m0) (hwi : F_X8_within xS0 [.int (zi v), .int (zi 3)] m0 = some (some (.int (zi 0)), m0)) : Met l yX8_fault (.code yX8_fault cX8_fault 2 (some .int) :: xTs) { frames := 8, cells := 1, slots := 3, locals := 100 * 8 } (va_Pc ((Value.ref 0 :: [.int (zi v)]).map (xi_cv E)) (fun U => U.heap.size = sz ∧ va_P D vwCl (xi_wld E xS0 m0) U.heap ∧ xi_Kn D vwCl tys xNs U)) (fun _ st o t => o = .returned ((some (.int (zi (-1))) : Option Value).map (xi_cv E)) ∧ va_P D vwCl (xi_wld E xS0 m2) t.heap ∧ va_F (fun q => xi_A E q ∨ sz ≤ q) st t) 1 3 (fun q => xi_A E q ∨ sz ≤ q) := by
  subst hm
  refine Met.ofW (cc := cX8_fault) (maxL := 2) (ret := some .int) (by decide) rfl ?_
  intro p e s m args below meth c s₁ B hml hv
  obtain ⟨rfl, hsz, hP, hK⟩ := hv
  have hx := B.exec
  have hb := B.bytes
  have hr := B.returns
  have hts0 := atoms_spec (ws := .code yX8_fault cX8_fault 2 (some .int) :: xTs) B.pre
  have hts : ∀ w ∈ xTs, w.before _ s = true := fun w hw => hts0 w (List.mem_cons_of_mem _ hw)
  have hown : s.vm.findClass RX8 = some m.cls := findClass_of_methodNamed B.named
  have hlocks := B.notSynchronized
  have hF := (⟨hx, hb, hml, hown, hts⟩ : CallFix p m c cX8_fault 2 s _ xTs RX8)
  subst hsz
  obtain ⟨A, hAe⟩ : ∃ A : Nat → Prop, A = fun z => xi_A E z ∨ s.heap.size ≤ z := ⟨_, rfl⟩
  rw [← hAe]
  have hAE : ∀ a, a < E.2.1 → A (E.1 a) := fun a ha => by rw [hAe]; exact Or.inl ⟨a, ha, rfl⟩
  have hA2 : ∀ q, s.heap.size ≤ q → A q := fun q h => by rw [hAe]; exact Or.inr h
  have hS : va_S A s.heap s.heap [] := va_S.rf
  have hE := hC.1
  have hft := hC.2
  have hl := lv_entry ((Value.ref 0 :: [.int (zi v)]).map (xi_cv E)) (n := 2) (Nat.le_of_ble_eq_true rfl)
  rw [lg_entry_eq]
  generalize (lg_sl ((Value.ref 0 :: [.int (zi v)]).map (xi_cv E)) ++ List.replicate (2 - (lg_sl ((Value.ref 0 :: [.int (zi v)]).map (xi_cv E))).length) Slot.unset).toArray = ls at hl ⊢
  have hl : lv_has ls 2 [(0, .ref (E.1 0)), (1, .int (zi v))] := hl
  refine lv_iload_n hx hb ddX8_fault_0 rfl (lv_at hl 1 rfl) ?_
  refine lv_iconst (v := zi 3) hx hb ddX8_fault_1 (by decide) ?_
  refine xl_callS (E := E) (S := xS0) (A := A) (As := [.int (zi v), .int (zi 3)]) (rest := []) hF hK (sn_X8_within hC _ _ _ _ hwi) (xw_in 287 (by decide +kernel) rfl) (xw_in 285 (by decide +kernel) rfl) (xw_in 286 (by decide +kernel) rfl) (xw_in 53 (by decide +kernel) rfl) ⟨by decide +kernel, by decide +kernel, by show _ = some 2; decide +kernel⟩ ⟨Nat.le_of_ble_eq_true rfl, Nat.le_of_ble_eq_true rfl⟩ hl.1 (Nat.le_of_ble_eq_true rfl) ddX8_fault_2 hP hS hAE ⟨Nat.zero_le _, Nat.zero_le _⟩ (fun H locs hP hS => ?_)
  refine lv_if_ne (x := zi 0) (tgt := 10) hx hb ddX8_fault_5 (by decide) (fun c9 => absurd (by decide) c9) (fun c9 => ?_)
  refine lv_iconst (v := zi (-1)) hx hb ddX8_fault_8 (by decide) ?_
  refine W.widen (k := 1) (n := 3) (by omega) (by omega) ?_
  exact W.iret (v := zi (-1)) hx hb hr (fun t ht hW => ⟨rfl, by rw [ht]; exact hP, hS.F ht⟩) hS.2.2 ddX8_fault_9
set_option maxHeartbeats 4000000 in
set_option maxRecDepth 100000 in
theorem f1_fault (l : Launch) (D : va_G) {E : xi_E} {tys : List (ClassId × FieldType)} (hC : xCx E xS0 tys) (hn : E.2.1 = 100) (sz : Nat) {m0 m2 : xi_M} {v : Int} (hwi : F_X8_within xS0 [.int (zi v), .int (zi 3)] m0 = some (some (.int (zi 1)), m0)) (u : Nat) (hu4 : u < 4) (hin2 : ¬ ((zi v) < 0 ∨ xS0.2.1 2 ≤ (zi v).toNatClampNeg)) (hrf2 : xS0.2.2 2 (zi v).toNatClampNeg = some (36 + u)) (hst9 : xS0.1 (36 + u) = 6 + 3) (hth : m0.1 (36 + u) 0 = zi 0) (hre : F_X8_refuse xS0 [.ref 0, .int (zi 1)] m0 = some (some (.int (zi (-3))), m2)) : Met l yX8_fault (.code yX8_fault cX8_fault 2 (some .int) :: xTs) { frames := 8, cells := 1, slots := 3, locals := 100 * 8 } (va_Pc ((Value.ref 0 :: [.int (zi v)]).map (xi_cv E)) (fun U => U.heap.size = sz ∧ va_P D vwCl (xi_wld E xS0 m0) U.heap ∧ xi_Kn D vwCl tys xNs U)) (fun _ st o t => o = .returned ((some (.int (zi (-3))) : Option Value).map (xi_cv E)) ∧ va_P D vwCl (xi_wld E xS0 m2) t.heap ∧ va_F (fun q => xi_A E q ∨ sz ≤ q) st t) 1 3 (fun q => xi_A E q ∨ sz ≤ q) := by
  refine Met.ofW (cc := cX8_fault) (maxL := 2) (ret := some .int) (by decide) rfl ?_
  intro p e s m args below meth c s₁ B hml hv
  obtain ⟨rfl, hsz, hP, hK⟩ := hv
  have hx := B.exec
  have hb := B.bytes
  have hr := B.returns
  have hts0 := atoms_spec (ws := .code yX8_fault cX8_fault 2 (some .int) :: xTs) B.pre
  have hts : ∀ w ∈ xTs, w.before _ s = true := fun w hw => hts0 w (List.mem_cons_of_mem _ hw)
  have hown : s.vm.findClass RX8 = some m.cls := findClass_of_methodNamed B.named
  have hlocks := B.notSynchronized
  have hF := (⟨hx, hb, hml, hown, hts⟩ : CallFix p m c cX8_fault 2 s _ xTs RX8)
  subst hsz
  obtain ⟨A, hAe⟩ : ∃ A : Nat → Prop, A = fun z => xi_A E z ∨ s.heap.size ≤ z := ⟨_, rfl⟩
  rw [← hAe]
  have hAE : ∀ a, a < E.2.1 → A (E.1 a) := fun a ha => by rw [hAe]; exact Or.inl ⟨a, ha, rfl⟩
  have hA2 : ∀ q, s.heap.size ≤ q → A q := fun q h => by rw [hAe]; exact Or.inr h
  have hS : va_S A s.heap s.heap [] := va_S.rf
  have hE := hC.1
  have hft := hC.2
  have hl := lv_entry ((Value.ref 0 :: [.int (zi v)]).map (xi_cv E)) (n := 2) (Nat.le_of_ble_eq_true rfl)
  rw [lg_entry_eq]
  generalize (lg_sl ((Value.ref 0 :: [.int (zi v)]).map (xi_cv E)) ++ List.replicate (2 - (lg_sl ((Value.ref 0 :: [.int (zi v)]).map (xi_cv E))).length) Slot.unset).toArray = ls at hl ⊢
  have hl : lv_has ls 2 [(0, .ref (E.1 0)), (1, .int (zi v))] := hl
  refine lv_iload_n hx hb ddX8_fault_0 rfl (lv_at hl 1 rfl) ?_
  refine lv_iconst (v := zi 3) hx hb ddX8_fault_1 (by decide) ?_
  refine xl_callS (E := E) (S := xS0) (A := A) (As := [.int (zi v), .int (zi 3)]) (rest := []) hF hK (sn_X8_within hC _ _ _ _ hwi) (xw_in 287 (by decide +kernel) rfl) (xw_in 285 (by decide +kernel) rfl) (xw_in 286 (by decide +kernel) rfl) (xw_in 53 (by decide +kernel) rfl) ⟨by decide +kernel, by decide +kernel, by show _ = some 2; decide +kernel⟩ ⟨Nat.le_of_ble_eq_true rfl, Nat.le_of_ble_eq_true rfl⟩ hl.1 (Nat.le_of_ble_eq_true rfl) ddX8_fault_2 hP hS hAE ⟨Nat.zero_le _, Nat.zero_le _⟩ (fun H locs hP hS => ?_)
  refine lv_if_ne (x := zi 1) (tgt := 10) hx hb ddX8_fault_5 (by decide) (fun c9 => ?_) (fun c9 => absurd c9 (by decide))
  refine lv_aload_n hx hb ddX8_fault_10 rfl (lv_at hl 0 rfl) ?_
  refine xl_get (E := E) (S := xS0) (a := 0) (v := .ref (E.1 2)) hx hb hts hown hft xf_X8_15 hK hE hP rfl rfl ddX8_fault_11 ?_
  refine lv_iload_n hx hb ddX8_fault_14 rfl (lv_at hl 1 rfl) ?_
  refine xl_ald (E := E) (S := xS0) (a := 2) (b := 36 + u) hx hb hK hE hP (Or.inl rfl) hin2 hrf2 ddX8_fault_15 ?_
  refine xl_get (E := E) (S := xS0) (a := 36 + u) (v := .int (m0.1 (36 + u) 0)) hx hb hts hown hft xf_X8_92 hK hE hP hst9 rfl ddX8_fault_16 ?_
  rw [hth]
  refine lv_if_ne (x := zi 0) (tgt := 28) hx hb ddX8_fault_19 (by decide) (fun c9 => absurd (by decide) c9) (fun c9 => ?_)
  refine lv_aload_n hx hb ddX8_fault_22 rfl (lv_at hl 0 rfl) ?_
  refine lv_iconst (v := zi 1) hx hb ddX8_fault_23 (by decide) ?_
  refine xl_callV (E := E) (S := xS0) (A := A) (b := 0) (ci := 7) (As := [.int (zi 1)]) (rest := []) hF hK hE rfl rfl (sn_X8_refuse hC _ _ _ _ hre) (xw_in 295 (by decide +kernel) rfl) (xw_in 292 (by decide +kernel) rfl) (xw_in 294 (by decide +kernel) rfl) (xw_in 1 (by decide +kernel) rfl) (xw_in 53 (by decide +kernel) rfl) ⟨by decide +kernel, by decide +kernel, by show _ = some 1; decide +kernel⟩ ⟨Nat.le_of_ble_eq_true rfl, Nat.le_of_ble_eq_true rfl⟩ hl.1 (Nat.le_of_ble_eq_true rfl) ddX8_fault_24 hP hS hAE ⟨Nat.le_of_ble_eq_true rfl, Nat.le_of_ble_eq_true rfl⟩ (fun H locs hP hS => ?_)
  refine W.widen (k := 1) (n := 3) (by omega) (by omega) ?_
  exact W.iret (v := zi (-3)) hx hb hr (fun t ht hW => ⟨rfl, by rw [ht]; exact hP, hS.F ht⟩) hS.2.2 ddX8_fault_27
set_option maxHeartbeats 4000000 in
set_option maxRecDepth 100000 in
theorem f2_fault (l : Launch) (D : va_G) {E : xi_E} {tys : List (ClassId × FieldType)} (hC : xCx E xS0 tys) (hn : E.2.1 = 100) (sz : Nat) {m0 m2 : xi_M} {v : Int} (x : Int32) (hwi : F_X8_within xS0 [.int (zi v), .int (zi 3)] m0 = some (some (.int (zi 1)), m0)) (u : Nat) (hu4 : u < 4) (hin2 : ¬ ((zi v) < 0 ∨ xS0.2.1 2 ≤ (zi v).toNatClampNeg)) (hrf2 : xS0.2.2 2 (zi v).toNatClampNeg = some (36 + u)) (hst9 : xS0.1 (36 + u) = 6 + 3) (hth : m0.1 (36 + u) 0 = zi 1) (hrd : F_X5_read (xS1 u) [.ref 100, .ref 60] (xm1 m0) = some (some (.int x), m2)) : Met l yX8_fault (.code yX8_fault cX8_fault 2 (some .int) :: xTs) { frames := 8, cells := 1, slots := 3, locals := 100 * 8 } (va_Pc ((Value.ref 0 :: [.int (zi v)]).map (xi_cv E)) (fun U => U.heap.size = sz ∧ va_P D vwCl (xi_wld E xS0 m0) U.heap ∧ xi_Kn D vwCl tys xNs U)) (fun _ st o t => o = .returned ((some (.int x) : Option Value).map (xi_cv E)) ∧ va_P D vwCl (xi_wld E xS0 m2) t.heap ∧ va_F (fun q => xi_A E q ∨ sz ≤ q) st t) 1 3 (fun q => xi_A E q ∨ sz ≤ q) := by
  refine Met.ofW (cc := cX8_fault) (maxL := 2) (ret := some .int) (by decide) rfl ?_
  intro p e s m args below meth c s₁ B hml hv
  obtain ⟨rfl, hsz, hP, hK⟩ := hv
  have hx := B.exec
  have hb := B.bytes
  have hr := B.returns
  have hts0 := atoms_spec (ws := .code yX8_fault cX8_fault 2 (some .int) :: xTs) B.pre
  have hts : ∀ w ∈ xTs, w.before _ s = true := fun w hw => hts0 w (List.mem_cons_of_mem _ hw)
  have hown : s.vm.findClass RX8 = some m.cls := findClass_of_methodNamed B.named
  have hlocks := B.notSynchronized
  have hF := (⟨hx, hb, hml, hown, hts⟩ : CallFix p m c cX8_fault 2 s _ xTs RX8)
  subst hsz
  obtain ⟨A, hAe⟩ : ∃ A : Nat → Prop, A = fun z => xi_A E z ∨ s.heap.size ≤ z := ⟨_, rfl⟩
  rw [← hAe]
  have hAE : ∀ a, a < E.2.1 → A (E.1 a) := fun a ha => by rw [hAe]; exact Or.inl ⟨a, ha, rfl⟩
  have hA2 : ∀ q, s.heap.size ≤ q → A q := fun q h => by rw [hAe]; exact Or.inr h
  have hS : va_S A s.heap s.heap [] := va_S.rf
  have hE := hC.1
  have hft := hC.2
  have hl := lv_entry ((Value.ref 0 :: [.int (zi v)]).map (xi_cv E)) (n := 2) (Nat.le_of_ble_eq_true rfl)
  rw [lg_entry_eq]
  generalize (lg_sl ((Value.ref 0 :: [.int (zi v)]).map (xi_cv E)) ++ List.replicate (2 - (lg_sl ((Value.ref 0 :: [.int (zi v)]).map (xi_cv E))).length) Slot.unset).toArray = ls at hl ⊢
  have hl : lv_has ls 2 [(0, .ref (E.1 0)), (1, .int (zi v))] := hl
  refine lv_iload_n hx hb ddX8_fault_0 rfl (lv_at hl 1 rfl) ?_
  refine lv_iconst (v := zi 3) hx hb ddX8_fault_1 (by decide) ?_
  refine xl_callS (E := E) (S := xS0) (A := A) (As := [.int (zi v), .int (zi 3)]) (rest := []) hF hK (sn_X8_within hC _ _ _ _ hwi) (xw_in 287 (by decide +kernel) rfl) (xw_in 285 (by decide +kernel) rfl) (xw_in 286 (by decide +kernel) rfl) (xw_in 53 (by decide +kernel) rfl) ⟨by decide +kernel, by decide +kernel, by show _ = some 2; decide +kernel⟩ ⟨Nat.le_of_ble_eq_true rfl, Nat.le_of_ble_eq_true rfl⟩ hl.1 (Nat.le_of_ble_eq_true rfl) ddX8_fault_2 hP hS hAE ⟨Nat.zero_le _, Nat.zero_le _⟩ (fun H locs hP hS => ?_)
  refine lv_if_ne (x := zi 1) (tgt := 10) hx hb ddX8_fault_5 (by decide) (fun c9 => ?_) (fun c9 => absurd c9 (by decide))
  refine lv_aload_n hx hb ddX8_fault_10 rfl (lv_at hl 0 rfl) ?_
  refine xl_get (E := E) (S := xS0) (a := 0) (v := .ref (E.1 2)) hx hb hts hown hft xf_X8_15 hK hE hP rfl rfl ddX8_fault_11 ?_
  refine lv_iload_n hx hb ddX8_fault_14 rfl (lv_at hl 1 rfl) ?_
  refine xl_ald (E := E) (S := xS0) (a := 2) (b := 36 + u) hx hb hK hE hP (Or.inl rfl) hin2 hrf2 ddX8_fault_15 ?_
  refine xl_get (E := E) (S := xS0) (a := 36 + u) (v := .int (m0.1 (36 + u) 0)) hx hb hts hown hft xf_X8_92 hK hE hP hst9 rfl ddX8_fault_16 ?_
  rw [hth]
  refine lv_if_ne (x := zi 1) (tgt := 28) hx hb ddX8_fault_19 (by decide) (fun c9 => ?_) (fun c9 => absurd c9 (by decide))
  have hD : va_D A (xi_wld E xS0 m0) := (xi_wld_D hE.1).weaken (fun k q _ h => by rw [hAe]; exact Or.inl h)
  refine va_new (ci := 4) (fs := [.null, .int 0, .int 0]) (C := RX5) (T := TX5) (N := 3) hx hb hts xin_X5 tyX5 tyX5_ok hown (hts _ (xw_in 354 (by decide +kernel) rfl)) (hts _ (xw_in 355 (by decide +kernel) rfl)) (hts _ (xw_in 63 (by decide +kernel) rfl)) hK.1 hP hD hS hA2 rfl df_X5 (Nat.le_of_ble_eq_true rfl) (Nat.le_of_ble_eq_true rfl) ddX8_fault_28 (fun q H hP hD hS => ?_)
  refine W.widen (k := 1) (n := 3) (by omega) (by omega) ?_
  refine lv_dup hx hb ddX8_fault_31 rfl ?_
  refine lv_aload_n hx hb ddX8_fault_32 rfl (lv_at hl 0 rfl) ?_
  have hP0 : va_P D vwCl (xi_wld E xS0 m0) H := fun k x hx2 => hP k x (by rw [List.getElem?_append_left (List.getElem?_eq_some_iff.mp hx2).1]; exact hx2)
  have hqn : ∀ a, a < 100 → E.1 a ≠ q := fun a ha e9 => by
    have g1 : (xi_wld E xS0 m0 ++ [(q, (.inr (4, [.null, .int 0, .int 0]) : va_E))])[a]? = some (E.1 a, xi_cel E xS0 m0 a) := by rw [List.getElem?_append_left (by unfold xi_wld; rw [List.length_map, List.length_range, hn]; exact ha)]; exact xi_wld_get (by rw [hn]; exact ha)
    have g2 : (xi_wld E xS0 m0 ++ [(q, (.inr (4, [.null, .int 0, .int 0]) : va_E))])[100]? = some (q, .inr (4, [.null, .int 0, .int 0])) := by rw [List.getElem?_append_right (by unfold xi_wld; rw [List.length_map, List.length_range, hn]; exact Nat.le_refl _), show (xi_wld E xS0 m0).length = 100 by unfold xi_wld; rw [List.length_map, List.length_range, hn]]; rfl
    have := hD.1 _ _ _ _ g1 g2 e9
    omega
  refine xl_get (E := E) (S := xS0) (a := 0) (v := .ref (E.1 2)) hx hb hts hown hft xf_X8_15 hK hE hP0 rfl rfl ddX8_fault_33 ?_
  refine lv_iload_n hx hb ddX8_fault_36 rfl (lv_at hl 1 rfl) ?_
  refine xl_ald (E := E) (S := xS0) (a := 2) (b := 36 + u) hx hb hK hE hP0 (Or.inl rfl) hin2 hrf2 ddX8_fault_37 ?_
  have hPc := xj_one hP
  have hDc := xj_oneD hD
  have hKc := hK.1.sub (tys' := []) [] rfl
  have hFc := xj_fr hD hS hA2
  refine va_callv (va_runI (As := [.ref (E.1 (36 + u))]) (rest := [.ref q]) ⟨hx, hb, hml, hown, hts⟩ (ci_X5 l D q H.size (E.1 (36 + u))) (cwI 1 hts (xi_good xw_good (xw_in 358 (by decide +kernel) rfl)) rfl rfl rfl (hts _ (xw_in 63 (by decide +kernel) rfl)) (hts _ (xw_in 356 (by decide +kernel) rfl)) (hts _ (xw_in 357 (by decide +kernel) rfl)) rfl (by decide +kernel) ⟨Nat.le_of_ble_eq_true rfl, Nat.le_of_ble_eq_true rfl⟩) ⟨fun a U g mk q => by obtain ⟨q0, q1, qP, qK, qD⟩ := q; exact ⟨q0, q1, qP, va_K.moved (u := U) (U := U.calling g mk a) (Vm.Alike.refl U.vm) qK, qD⟩, fun U hU hW => ⟨rfl, by rw [hU], by rw [hU]; exact hPc, va_K.moved hW.alike hKc, hDc.weaken (fun _ _ _ _ => trivial)⟩⟩ rfl rfl hl.1 rfl (lv_room (Nat.le_of_ble_eq_true rfl)) ddX8_fault_38 ⟨Nat.le_of_ble_eq_true rfl, Nat.le_of_ble_eq_true rfl⟩) hS (fun q _ h => hFc q h) hFc (fun up t H1 locs ht hvm hw hB hz1 hk1 hS => ?_)
  obtain ⟨hP1, hD1⟩ := hB
  rw [ht] at hP1
  obtain ⟨hP, hD⟩ := xj_join hP hD hk1 hFc hP1 hD1
  generalize H1 = H at hP hS ⊢
  have hP : va_P D vwCl (xi_wld (xE1 E q) (xS1 u) (xm1 m0)) H := by
    rw [xwld1 hn hft hu4, show xi_wld E xS0 (xm1 m0) = xi_wld E xS0 m0 from List.map_congr_left fun a ha => by
      have : a < 100 := by rw [hn] at ha; exact List.mem_range.mp ha
      rw [xi_cel_ne (E := E) (S := xS0) (m0 := m0) (m1 := xm1 m0) (b := a) (if_neg (by omega)) rfl]]
    exact hP
  have hC1 := xC1 (u := u) hC hn hqn
  have hqA : A q := hD.2 100 (q, .inr (4, [.ref (E.1 (36 + u)), .int 0, .int (zi (-9))])) (by rw [List.getElem?_append_right (by unfold xi_wld; rw [List.length_map, List.length_range, hn]; exact Nat.le_refl _), show (xi_wld E xS0 m0).length = 100 by unfold xi_wld; rw [List.length_map, List.length_range, hn]]; rfl)
  have hAE1 : ∀ a, a < (xE1 E q).2.1 → A ((xE1 E q).1 a) := fun a ha => by
    have ha' : a < 101 := ha
    show A (if a = 100 then q else E.1 a)
    by_cases a1 : a = 100
    · rw [if_pos a1]; exact hqA
    · rw [if_neg a1]; exact hAE a (by rw [hn]; omega)
  refine W.widen (k := 1) (n := 3) (by omega) (by omega) ?_
  refine lv_aload_n hx hb ddX8_fault_41 rfl (lv_at hl 0 rfl) ?_
  refine xl_get (E := xE1 E q) (S := xS1 u) (a := 0) (v := .ref ((xE1 E q).1 60)) hx hb hts hown hft xf_X8_25 hK hC1.1 hP rfl rfl ddX8_fault_42 ?_
  refine xl_callV (E := (xE1 E q)) (S := (xS1 u)) (A := A) (b := 100) (ci := 4) (As := [.ref 60]) (rest := []) hF hK hC1.1 rfl rfl (sn_X5_read hC1 _ _ _ _ hrd) (xw_in 373 (by decide +kernel) rfl) (xw_in 370 (by decide +kernel) rfl) (xw_in 371 (by decide +kernel) rfl) (xw_in 372 (by decide +kernel) rfl) (xw_in 63 (by decide +kernel) rfl) ⟨by decide +kernel, by decide +kernel, by show _ = some 1; decide +kernel⟩ ⟨Nat.le_of_ble_eq_true rfl, Nat.le_of_ble_eq_true rfl⟩ hl.1 (Nat.le_of_ble_eq_true rfl) ddX8_fault_45 hP hS hAE1 ⟨Nat.le_of_ble_eq_true rfl, Nat.le_of_ble_eq_true rfl⟩ (fun H locs hP hS => ?_)
  have hP := xdrop hn hft hu4 hP
  refine W.widen (k := 1) (n := 3) (by omega) (by omega) ?_
  exact W.iret (v := x) hx hb hr (fun t ht hW => ⟨rfl, by rw [ht]; exact hP, hS.F ht⟩) hS.2.2 ddX8_fault_48
set_option maxHeartbeats 4000000 in
set_option maxRecDepth 100000 in
theorem f0_republic (l : Launch) (D : va_G) {E : xi_E} {tys : List (ClassId × FieldType)} (hC : xCx E xS0 tys) (hn : E.2.1 = 100) (sz : Nat) {m0 m2 : xi_M} {v : Int} (hm : m2 = m0) (hwi : F_X8_within xS0 [.int (zi v), .int (zi 3)] m0 = some (some (.int (zi 0)), m0)) : Met l yX8_republic (.code yX8_republic cX8_republic 3 (some .int) :: xTs) { frames := 8, cells := 1, slots := 3, locals := 100 * 8 } (va_Pc ((Value.ref 0 :: [.int (zi v)]).map (xi_cv E)) (fun U => U.heap.size = sz ∧ va_P D vwCl (xi_wld E xS0 m0) U.heap ∧ xi_Kn D vwCl tys xNs U)) (fun _ st o t => o = .returned ((some (.int (zi (-1))) : Option Value).map (xi_cv E)) ∧ va_P D vwCl (xi_wld E xS0 m2) t.heap ∧ va_F (fun q => xi_A E q ∨ sz ≤ q) st t) 1 3 (fun q => xi_A E q ∨ sz ≤ q) := by
  subst hm
  refine Met.ofW (cc := cX8_republic) (maxL := 3) (ret := some .int) (by decide) rfl ?_
  intro p e s m args below meth c s₁ B hml hv
  obtain ⟨rfl, hsz, hP, hK⟩ := hv
  have hx := B.exec
  have hb := B.bytes
  have hr := B.returns
  have hts0 := atoms_spec (ws := .code yX8_republic cX8_republic 3 (some .int) :: xTs) B.pre
  have hts : ∀ w ∈ xTs, w.before _ s = true := fun w hw => hts0 w (List.mem_cons_of_mem _ hw)
  have hown : s.vm.findClass RX8 = some m.cls := findClass_of_methodNamed B.named
  have hlocks := B.notSynchronized
  have hF := (⟨hx, hb, hml, hown, hts⟩ : CallFix p m c cX8_republic 3 s _ xTs RX8)
  subst hsz
  obtain ⟨A, hAe⟩ : ∃ A : Nat → Prop, A = fun z => xi_A E z ∨ s.heap.size ≤ z := ⟨_, rfl⟩
  rw [← hAe]
  have hAE : ∀ a, a < E.2.1 → A (E.1 a) := fun a ha => by rw [hAe]; exact Or.inl ⟨a, ha, rfl⟩
  have hA2 : ∀ q, s.heap.size ≤ q → A q := fun q h => by rw [hAe]; exact Or.inr h
  have hS : va_S A s.heap s.heap [] := va_S.rf
  have hE := hC.1
  have hft := hC.2
  have hl := lv_entry ((Value.ref 0 :: [.int (zi v)]).map (xi_cv E)) (n := 3) (Nat.le_of_ble_eq_true rfl)
  rw [lg_entry_eq]
  generalize (lg_sl ((Value.ref 0 :: [.int (zi v)]).map (xi_cv E)) ++ List.replicate (3 - (lg_sl ((Value.ref 0 :: [.int (zi v)]).map (xi_cv E))).length) Slot.unset).toArray = ls at hl ⊢
  have hl : lv_has ls 3 [(0, .ref (E.1 0)), (1, .int (zi v))] := hl
  refine lv_iload_n hx hb ddX8_republic_0 rfl (lv_at hl 1 rfl) ?_
  refine lv_iconst (v := zi 3) hx hb ddX8_republic_1 (by decide) ?_
  refine xl_callS (E := E) (S := xS0) (A := A) (As := [.int (zi v), .int (zi 3)]) (rest := []) hF hK (sn_X8_within hC _ _ _ _ hwi) (xw_in 287 (by decide +kernel) rfl) (xw_in 285 (by decide +kernel) rfl) (xw_in 286 (by decide +kernel) rfl) (xw_in 53 (by decide +kernel) rfl) ⟨by decide +kernel, by decide +kernel, by show _ = some 2; decide +kernel⟩ ⟨Nat.le_of_ble_eq_true rfl, Nat.le_of_ble_eq_true rfl⟩ hl.1 (Nat.le_of_ble_eq_true rfl) ddX8_republic_2 hP hS hAE ⟨Nat.zero_le _, Nat.zero_le _⟩ (fun H locs hP hS => ?_)
  refine lv_if_ne (x := zi 0) (tgt := 10) hx hb ddX8_republic_5 (by decide) (fun c9 => absurd (by decide) c9) (fun c9 => ?_)
  refine lv_iconst (v := zi (-1)) hx hb ddX8_republic_8 (by decide) ?_
  refine W.widen (k := 1) (n := 3) (by omega) (by omega) ?_
  exact W.iret (v := zi (-1)) hx hb hr (fun t ht hW => ⟨rfl, by rw [ht]; exact hP, hS.F ht⟩) hS.2.2 ddX8_republic_9
set_option maxHeartbeats 4000000 in
set_option maxRecDepth 100000 in
theorem f1_republic (l : Launch) (D : va_G) {E : xi_E} {tys : List (ClassId × FieldType)} (hC : xCx E xS0 tys) (hn : E.2.1 = 100) (sz : Nat) {m0 m2 : xi_M} {v : Int} (hwi : F_X8_within xS0 [.int (zi v), .int (zi 3)] m0 = some (some (.int (zi 1)), m0)) (u : Nat) (hu4 : u < 4) (hin2 : ¬ ((zi v) < 0 ∨ xS0.2.1 2 ≤ (zi v).toNatClampNeg)) (hrf2 : xS0.2.2 2 (zi v).toNatClampNeg = some (36 + u)) (hst9 : xS0.1 (36 + u) = 6 + 3) (hth : m0.1 (36 + u) 0 = zi 0) (hre : F_X8_refuse xS0 [.ref 0, .int (zi 1)] m0 = some (some (.int (zi (-3))), m2)) : Met l yX8_republic (.code yX8_republic cX8_republic 3 (some .int) :: xTs) { frames := 8, cells := 1, slots := 3, locals := 100 * 8 } (va_Pc ((Value.ref 0 :: [.int (zi v)]).map (xi_cv E)) (fun U => U.heap.size = sz ∧ va_P D vwCl (xi_wld E xS0 m0) U.heap ∧ xi_Kn D vwCl tys xNs U)) (fun _ st o t => o = .returned ((some (.int (zi (-3))) : Option Value).map (xi_cv E)) ∧ va_P D vwCl (xi_wld E xS0 m2) t.heap ∧ va_F (fun q => xi_A E q ∨ sz ≤ q) st t) 1 3 (fun q => xi_A E q ∨ sz ≤ q) := by
  refine Met.ofW (cc := cX8_republic) (maxL := 3) (ret := some .int) (by decide) rfl ?_
  intro p e s m args below meth c s₁ B hml hv
  obtain ⟨rfl, hsz, hP, hK⟩ := hv
  have hx := B.exec
  have hb := B.bytes
  have hr := B.returns
  have hts0 := atoms_spec (ws := .code yX8_republic cX8_republic 3 (some .int) :: xTs) B.pre
  have hts : ∀ w ∈ xTs, w.before _ s = true := fun w hw => hts0 w (List.mem_cons_of_mem _ hw)
  have hown : s.vm.findClass RX8 = some m.cls := findClass_of_methodNamed B.named
  have hlocks := B.notSynchronized
  have hF := (⟨hx, hb, hml, hown, hts⟩ : CallFix p m c cX8_republic 3 s _ xTs RX8)
  subst hsz
  obtain ⟨A, hAe⟩ : ∃ A : Nat → Prop, A = fun z => xi_A E z ∨ s.heap.size ≤ z := ⟨_, rfl⟩
  rw [← hAe]
  have hAE : ∀ a, a < E.2.1 → A (E.1 a) := fun a ha => by rw [hAe]; exact Or.inl ⟨a, ha, rfl⟩
  have hA2 : ∀ q, s.heap.size ≤ q → A q := fun q h => by rw [hAe]; exact Or.inr h
  have hS : va_S A s.heap s.heap [] := va_S.rf
  have hE := hC.1
  have hft := hC.2
  have hl := lv_entry ((Value.ref 0 :: [.int (zi v)]).map (xi_cv E)) (n := 3) (Nat.le_of_ble_eq_true rfl)
  rw [lg_entry_eq]
  generalize (lg_sl ((Value.ref 0 :: [.int (zi v)]).map (xi_cv E)) ++ List.replicate (3 - (lg_sl ((Value.ref 0 :: [.int (zi v)]).map (xi_cv E))).length) Slot.unset).toArray = ls at hl ⊢
  have hl : lv_has ls 3 [(0, .ref (E.1 0)), (1, .int (zi v))] := hl
  refine lv_iload_n hx hb ddX8_republic_0 rfl (lv_at hl 1 rfl) ?_
  refine lv_iconst (v := zi 3) hx hb ddX8_republic_1 (by decide) ?_
  refine xl_callS (E := E) (S := xS0) (A := A) (As := [.int (zi v), .int (zi 3)]) (rest := []) hF hK (sn_X8_within hC _ _ _ _ hwi) (xw_in 287 (by decide +kernel) rfl) (xw_in 285 (by decide +kernel) rfl) (xw_in 286 (by decide +kernel) rfl) (xw_in 53 (by decide +kernel) rfl) ⟨by decide +kernel, by decide +kernel, by show _ = some 2; decide +kernel⟩ ⟨Nat.le_of_ble_eq_true rfl, Nat.le_of_ble_eq_true rfl⟩ hl.1 (Nat.le_of_ble_eq_true rfl) ddX8_republic_2 hP hS hAE ⟨Nat.zero_le _, Nat.zero_le _⟩ (fun H locs hP hS => ?_)
  refine lv_if_ne (x := zi 1) (tgt := 10) hx hb ddX8_republic_5 (by decide) (fun c9 => ?_) (fun c9 => absurd c9 (by decide))
  refine lv_aload_n hx hb ddX8_republic_10 rfl (lv_at hl 0 rfl) ?_
  refine xl_get (E := E) (S := xS0) (a := 0) (v := .ref (E.1 2)) hx hb hts hown hft xf_X8_15 hK hE hP rfl rfl ddX8_republic_11 ?_
  refine lv_iload_n hx hb ddX8_republic_14 rfl (lv_at hl 1 rfl) ?_
  refine xl_ald (E := E) (S := xS0) (a := 2) (b := 36 + u) hx hb hK hE hP (Or.inl rfl) hin2 hrf2 ddX8_republic_15 ?_
  refine xl_get (E := E) (S := xS0) (a := 36 + u) (v := .int (m0.1 (36 + u) 0)) hx hb hts hown hft xf_X8_92 hK hE hP hst9 rfl ddX8_republic_16 ?_
  rw [hth]
  refine lv_if_ne (x := zi 0) (tgt := 28) hx hb ddX8_republic_19 (by decide) (fun c9 => absurd (by decide) c9) (fun c9 => ?_)
  refine lv_aload_n hx hb ddX8_republic_22 rfl (lv_at hl 0 rfl) ?_
  refine lv_iconst (v := zi 1) hx hb ddX8_republic_23 (by decide) ?_
  refine xl_callV (E := E) (S := xS0) (A := A) (b := 0) (ci := 7) (As := [.int (zi 1)]) (rest := []) hF hK hE rfl rfl (sn_X8_refuse hC _ _ _ _ hre) (xw_in 295 (by decide +kernel) rfl) (xw_in 292 (by decide +kernel) rfl) (xw_in 294 (by decide +kernel) rfl) (xw_in 1 (by decide +kernel) rfl) (xw_in 53 (by decide +kernel) rfl) ⟨by decide +kernel, by decide +kernel, by show _ = some 1; decide +kernel⟩ ⟨Nat.le_of_ble_eq_true rfl, Nat.le_of_ble_eq_true rfl⟩ hl.1 (Nat.le_of_ble_eq_true rfl) ddX8_republic_24 hP hS hAE ⟨Nat.le_of_ble_eq_true rfl, Nat.le_of_ble_eq_true rfl⟩ (fun H locs hP hS => ?_)
  refine W.widen (k := 1) (n := 3) (by omega) (by omega) ?_
  exact W.iret (v := zi (-3)) hx hb hr (fun t ht hW => ⟨rfl, by rw [ht]; exact hP, hS.F ht⟩) hS.2.2 ddX8_republic_27
set_option maxHeartbeats 4000000 in
set_option maxRecDepth 100000 in
theorem f2_republic (l : Launch) (D : va_G) {E : xi_E} {tys : List (ClassId × FieldType)} (hC : xCx E xS0 tys) (hn : E.2.1 = 100) (sz : Nat) {m0 m2 : xi_M} {v : Int} (x : Int32) (hne : ¬ x = zi (-9)) (hwi : F_X8_within xS0 [.int (zi v), .int (zi 3)] m0 = some (some (.int (zi 1)), m0)) (u : Nat) (hu4 : u < 4) (hin2 : ¬ ((zi v) < 0 ∨ xS0.2.1 2 ≤ (zi v).toNatClampNeg)) (hrf2 : xS0.2.2 2 (zi v).toNatClampNeg = some (36 + u)) (hst9 : xS0.1 (36 + u) = 6 + 3) (hth : m0.1 (36 + u) 0 = zi 1) (hrd : F_X5_read (xS1 u) [.ref 100, .ref 60] (xm1 m0) = some (some (.int x), m2)) : Met l yX8_republic (.code yX8_republic cX8_republic 3 (some .int) :: xTs) { frames := 8, cells := 1, slots := 3, locals := 100 * 8 } (va_Pc ((Value.ref 0 :: [.int (zi v)]).map (xi_cv E)) (fun U => U.heap.size = sz ∧ va_P D vwCl (xi_wld E xS0 m0) U.heap ∧ xi_Kn D vwCl tys xNs U)) (fun _ st o t => o = .returned ((some (.int (zi (-4))) : Option Value).map (xi_cv E)) ∧ va_P D vwCl (xi_wld E xS0 m2) t.heap ∧ va_F (fun q => xi_A E q ∨ sz ≤ q) st t) 1 3 (fun q => xi_A E q ∨ sz ≤ q) := by
  refine Met.ofW (cc := cX8_republic) (maxL := 3) (ret := some .int) (by decide) rfl ?_
  intro p e s m args below meth c s₁ B hml hv
  obtain ⟨rfl, hsz, hP, hK⟩ := hv
  have hx := B.exec
  have hb := B.bytes
  have hr := B.returns
  have hts0 := atoms_spec (ws := .code yX8_republic cX8_republic 3 (some .int) :: xTs) B.pre
  have hts : ∀ w ∈ xTs, w.before _ s = true := fun w hw => hts0 w (List.mem_cons_of_mem _ hw)
  have hown : s.vm.findClass RX8 = some m.cls := findClass_of_methodNamed B.named
  have hlocks := B.notSynchronized
  have hF := (⟨hx, hb, hml, hown, hts⟩ : CallFix p m c cX8_republic 3 s _ xTs RX8)
  subst hsz
  obtain ⟨A, hAe⟩ : ∃ A : Nat → Prop, A = fun z => xi_A E z ∨ s.heap.size ≤ z := ⟨_, rfl⟩
  rw [← hAe]
  have hAE : ∀ a, a < E.2.1 → A (E.1 a) := fun a ha => by rw [hAe]; exact Or.inl ⟨a, ha, rfl⟩
  have hA2 : ∀ q, s.heap.size ≤ q → A q := fun q h => by rw [hAe]; exact Or.inr h
  have hS : va_S A s.heap s.heap [] := va_S.rf
  have hE := hC.1
  have hft := hC.2
  have hl := lv_entry ((Value.ref 0 :: [.int (zi v)]).map (xi_cv E)) (n := 3) (Nat.le_of_ble_eq_true rfl)
  rw [lg_entry_eq]
  generalize (lg_sl ((Value.ref 0 :: [.int (zi v)]).map (xi_cv E)) ++ List.replicate (3 - (lg_sl ((Value.ref 0 :: [.int (zi v)]).map (xi_cv E))).length) Slot.unset).toArray = ls at hl ⊢
  have hl : lv_has ls 3 [(0, .ref (E.1 0)), (1, .int (zi v))] := hl
  refine lv_iload_n hx hb ddX8_republic_0 rfl (lv_at hl 1 rfl) ?_
  refine lv_iconst (v := zi 3) hx hb ddX8_republic_1 (by decide) ?_
  refine xl_callS (E := E) (S := xS0) (A := A) (As := [.int (zi v), .int (zi 3)]) (rest := []) hF hK (sn_X8_within hC _ _ _ _ hwi) (xw_in 287 (by decide +kernel) rfl) (xw_in 285 (by decide +kernel) rfl) (xw_in 286 (by decide +kernel) rfl) (xw_in 53 (by decide +kernel) rfl) ⟨by decide +kernel, by decide +kernel, by show _ = some 2; decide +kernel⟩ ⟨Nat.le_of_ble_eq_true rfl, Nat.le_of_ble_eq_true rfl⟩ hl.1 (Nat.le_of_ble_eq_true rfl) ddX8_republic_2 hP hS hAE ⟨Nat.zero_le _, Nat.zero_le _⟩ (fun H locs hP hS => ?_)
  refine lv_if_ne (x := zi 1) (tgt := 10) hx hb ddX8_republic_5 (by decide) (fun c9 => ?_) (fun c9 => absurd c9 (by decide))
  refine lv_aload_n hx hb ddX8_republic_10 rfl (lv_at hl 0 rfl) ?_
  refine xl_get (E := E) (S := xS0) (a := 0) (v := .ref (E.1 2)) hx hb hts hown hft xf_X8_15 hK hE hP rfl rfl ddX8_republic_11 ?_
  refine lv_iload_n hx hb ddX8_republic_14 rfl (lv_at hl 1 rfl) ?_
  refine xl_ald (E := E) (S := xS0) (a := 2) (b := 36 + u) hx hb hK hE hP (Or.inl rfl) hin2 hrf2 ddX8_republic_15 ?_
  refine xl_get (E := E) (S := xS0) (a := 36 + u) (v := .int (m0.1 (36 + u) 0)) hx hb hts hown hft xf_X8_92 hK hE hP hst9 rfl ddX8_republic_16 ?_
  rw [hth]
  refine lv_if_ne (x := zi 1) (tgt := 28) hx hb ddX8_republic_19 (by decide) (fun c9 => ?_) (fun c9 => absurd c9 (by decide))
  have hD : va_D A (xi_wld E xS0 m0) := (xi_wld_D hE.1).weaken (fun k q _ h => by rw [hAe]; exact Or.inl h)
  refine va_new (ci := 4) (fs := [.null, .int 0, .int 0]) (C := RX5) (T := TX5) (N := 3) hx hb hts xin_X5 tyX5 tyX5_ok hown (hts _ (xw_in 354 (by decide +kernel) rfl)) (hts _ (xw_in 355 (by decide +kernel) rfl)) (hts _ (xw_in 63 (by decide +kernel) rfl)) hK.1 hP hD hS hA2 rfl df_X5 (Nat.le_of_ble_eq_true rfl) (Nat.le_of_ble_eq_true rfl) ddX8_republic_28 (fun q H hP hD hS => ?_)
  refine W.widen (k := 1) (n := 3) (by omega) (by omega) ?_
  refine lv_dup hx hb ddX8_republic_31 rfl ?_
  refine lv_aload_n hx hb ddX8_republic_32 rfl (lv_at hl 0 rfl) ?_
  have hP0 : va_P D vwCl (xi_wld E xS0 m0) H := fun k x hx2 => hP k x (by rw [List.getElem?_append_left (List.getElem?_eq_some_iff.mp hx2).1]; exact hx2)
  have hqn : ∀ a, a < 100 → E.1 a ≠ q := fun a ha e9 => by
    have g1 : (xi_wld E xS0 m0 ++ [(q, (.inr (4, [.null, .int 0, .int 0]) : va_E))])[a]? = some (E.1 a, xi_cel E xS0 m0 a) := by rw [List.getElem?_append_left (by unfold xi_wld; rw [List.length_map, List.length_range, hn]; exact ha)]; exact xi_wld_get (by rw [hn]; exact ha)
    have g2 : (xi_wld E xS0 m0 ++ [(q, (.inr (4, [.null, .int 0, .int 0]) : va_E))])[100]? = some (q, .inr (4, [.null, .int 0, .int 0])) := by rw [List.getElem?_append_right (by unfold xi_wld; rw [List.length_map, List.length_range, hn]; exact Nat.le_refl _), show (xi_wld E xS0 m0).length = 100 by unfold xi_wld; rw [List.length_map, List.length_range, hn]]; rfl
    have := hD.1 _ _ _ _ g1 g2 e9
    omega
  refine xl_get (E := E) (S := xS0) (a := 0) (v := .ref (E.1 2)) hx hb hts hown hft xf_X8_15 hK hE hP0 rfl rfl ddX8_republic_33 ?_
  refine lv_iload_n hx hb ddX8_republic_36 rfl (lv_at hl 1 rfl) ?_
  refine xl_ald (E := E) (S := xS0) (a := 2) (b := 36 + u) hx hb hK hE hP0 (Or.inl rfl) hin2 hrf2 ddX8_republic_37 ?_
  have hPc := xj_one hP
  have hDc := xj_oneD hD
  have hKc := hK.1.sub (tys' := []) [] rfl
  have hFc := xj_fr hD hS hA2
  refine va_callv (va_runI (As := [.ref (E.1 (36 + u))]) (rest := [.ref q]) ⟨hx, hb, hml, hown, hts⟩ (ci_X5 l D q H.size (E.1 (36 + u))) (cwI 1 hts (xi_good xw_good (xw_in 358 (by decide +kernel) rfl)) rfl rfl rfl (hts _ (xw_in 63 (by decide +kernel) rfl)) (hts _ (xw_in 356 (by decide +kernel) rfl)) (hts _ (xw_in 357 (by decide +kernel) rfl)) rfl (by decide +kernel) ⟨Nat.le_of_ble_eq_true rfl, Nat.le_of_ble_eq_true rfl⟩) ⟨fun a U g mk q => by obtain ⟨q0, q1, qP, qK, qD⟩ := q; exact ⟨q0, q1, qP, va_K.moved (u := U) (U := U.calling g mk a) (Vm.Alike.refl U.vm) qK, qD⟩, fun U hU hW => ⟨rfl, by rw [hU], by rw [hU]; exact hPc, va_K.moved hW.alike hKc, hDc.weaken (fun _ _ _ _ => trivial)⟩⟩ rfl rfl hl.1 rfl (lv_room (Nat.le_of_ble_eq_true rfl)) ddX8_republic_38 ⟨Nat.le_of_ble_eq_true rfl, Nat.le_of_ble_eq_true rfl⟩) hS (fun q _ h => hFc q h) hFc (fun up t H1 locs ht hvm hw hB hz1 hk1 hS => ?_)
  obtain ⟨hP1, hD1⟩ := hB
  rw [ht] at hP1
  obtain ⟨hP, hD⟩ := xj_join hP hD hk1 hFc hP1 hD1
  generalize H1 = H at hP hS ⊢
  have hP : va_P D vwCl (xi_wld (xE1 E q) (xS1 u) (xm1 m0)) H := by
    rw [xwld1 hn hft hu4, show xi_wld E xS0 (xm1 m0) = xi_wld E xS0 m0 from List.map_congr_left fun a ha => by
      have : a < 100 := by rw [hn] at ha; exact List.mem_range.mp ha
      rw [xi_cel_ne (E := E) (S := xS0) (m0 := m0) (m1 := xm1 m0) (b := a) (if_neg (by omega)) rfl]]
    exact hP
  have hC1 := xC1 (u := u) hC hn hqn
  have hqA : A q := hD.2 100 (q, .inr (4, [.ref (E.1 (36 + u)), .int 0, .int (zi (-9))])) (by rw [List.getElem?_append_right (by unfold xi_wld; rw [List.length_map, List.length_range, hn]; exact Nat.le_refl _), show (xi_wld E xS0 m0).length = 100 by unfold xi_wld; rw [List.length_map, List.length_range, hn]]; rfl)
  have hAE1 : ∀ a, a < (xE1 E q).2.1 → A ((xE1 E q).1 a) := fun a ha => by
    have ha' : a < 101 := ha
    show A (if a = 100 then q else E.1 a)
    by_cases a1 : a = 100
    · rw [if_pos a1]; exact hqA
    · rw [if_neg a1]; exact hAE a (by rw [hn]; omega)
  refine W.widen (k := 1) (n := 3) (by omega) (by omega) ?_
  refine lv_aload_n hx hb ddX8_republic_41 rfl (lv_at hl 0 rfl) ?_
  refine xl_get (E := xE1 E q) (S := xS1 u) (a := 0) (v := .ref ((xE1 E q).1 60)) hx hb hts hown hft xf_X8_25 hK hC1.1 hP rfl rfl ddX8_republic_42 ?_
  refine xl_callV (E := (xE1 E q)) (S := (xS1 u)) (A := A) (b := 100) (ci := 4) (As := [.ref 60]) (rest := []) hF hK hC1.1 rfl rfl (sn_X5_read hC1 _ _ _ _ hrd) (xw_in 373 (by decide +kernel) rfl) (xw_in 370 (by decide +kernel) rfl) (xw_in 371 (by decide +kernel) rfl) (xw_in 372 (by decide +kernel) rfl) (xw_in 63 (by decide +kernel) rfl) ⟨by decide +kernel, by decide +kernel, by show _ = some 1; decide +kernel⟩ ⟨Nat.le_of_ble_eq_true rfl, Nat.le_of_ble_eq_true rfl⟩ hl.1 (Nat.le_of_ble_eq_true rfl) ddX8_republic_45 hP hS hAE1 ⟨Nat.le_of_ble_eq_true rfl, Nat.le_of_ble_eq_true rfl⟩ (fun H locs hP hS => ?_)
  refine lv_bipush (v := zi (-9)) hx hb ddX8_republic_48 (by decide) ?_
  refine lv_icmp_eq (tgt := 56) hx hb ddX8_republic_50 (by decide) (fun c9 => absurd c9 hne) (fun c9 => ?_)
  refine lv_bipush (v := zi (-4)) hx hb ddX8_republic_53 (by decide) ?_
  have hP := xdrop hn hft hu4 hP
  refine W.widen (k := 1) (n := 3) (by omega) (by omega) ?_
  exact W.iret (v := zi (-4)) hx hb hr (fun t ht hW => ⟨rfl, by rw [ht]; exact hP, hS.F ht⟩) hS.2.2 ddX8_republic_55
set_option maxHeartbeats 4000000 in
set_option maxRecDepth 100000 in
theorem f3_republic (l : Launch) (D : va_G) {E : xi_E} {tys : List (ClassId × FieldType)} (hC : xCx E xS0 tys) (hn : E.2.1 = 100) (sz : Nat) {m0 m2 : xi_M} {v : Int} {m3 m4 m5 m6 : xi_M} (hwi : F_X8_within xS0 [.int (zi v), .int (zi 3)] m0 = some (some (.int (zi 1)), m0)) (u : Nat) (hu4 : u < 4) (hin2 : ¬ ((zi v) < 0 ∨ xS0.2.1 2 ≤ (zi v).toNatClampNeg)) (hrf2 : xS0.2.2 2 (zi v).toNatClampNeg = some (36 + u)) (hst9 : xS0.1 (36 + u) = 6 + 3) (hth : m0.1 (36 + u) 0 = zi 1) (hrd : F_X5_read (xS1 u) [.ref 100, .ref 60] (xm1 m0) = some (some (.int (zi (-9))), m3)) (htk : F_X6_take xS0 [.ref 50, .ref 60] m3 = some (none, m4)) (hcl0 : F_X6_clear xS0 [.ref 70] m4 = some (none, m5)) (hcl1 : F_X6_clear xS0 [.ref 80] m5 = some (none, m6)) (hcl2 : F_X6_clear xS0 [.ref 90] m6 = some (none, m2)) : Met l yX8_republic (.code yX8_republic cX8_republic 3 (some .int) :: xTs) { frames := 8, cells := 1, slots := 3, locals := 100 * 8 } (va_Pc ((Value.ref 0 :: [.int (zi v)]).map (xi_cv E)) (fun U => U.heap.size = sz ∧ va_P D vwCl (xi_wld E xS0 m0) U.heap ∧ xi_Kn D vwCl tys xNs U)) (fun _ st o t => o = .returned ((some (.int (m2.1 50 1)) : Option Value).map (xi_cv E)) ∧ va_P D vwCl (xi_wld E xS0 m2) t.heap ∧ va_F (fun q => xi_A E q ∨ sz ≤ q) st t) 1 3 (fun q => xi_A E q ∨ sz ≤ q) := by
  refine Met.ofW (cc := cX8_republic) (maxL := 3) (ret := some .int) (by decide) rfl ?_
  intro p e s m args below meth c s₁ B hml hv
  obtain ⟨rfl, hsz, hP, hK⟩ := hv
  have hx := B.exec
  have hb := B.bytes
  have hr := B.returns
  have hts0 := atoms_spec (ws := .code yX8_republic cX8_republic 3 (some .int) :: xTs) B.pre
  have hts : ∀ w ∈ xTs, w.before _ s = true := fun w hw => hts0 w (List.mem_cons_of_mem _ hw)
  have hown : s.vm.findClass RX8 = some m.cls := findClass_of_methodNamed B.named
  have hlocks := B.notSynchronized
  have hF := (⟨hx, hb, hml, hown, hts⟩ : CallFix p m c cX8_republic 3 s _ xTs RX8)
  subst hsz
  obtain ⟨A, hAe⟩ : ∃ A : Nat → Prop, A = fun z => xi_A E z ∨ s.heap.size ≤ z := ⟨_, rfl⟩
  rw [← hAe]
  have hAE : ∀ a, a < E.2.1 → A (E.1 a) := fun a ha => by rw [hAe]; exact Or.inl ⟨a, ha, rfl⟩
  have hA2 : ∀ q, s.heap.size ≤ q → A q := fun q h => by rw [hAe]; exact Or.inr h
  have hS : va_S A s.heap s.heap [] := va_S.rf
  have hE := hC.1
  have hft := hC.2
  have hl := lv_entry ((Value.ref 0 :: [.int (zi v)]).map (xi_cv E)) (n := 3) (Nat.le_of_ble_eq_true rfl)
  rw [lg_entry_eq]
  generalize (lg_sl ((Value.ref 0 :: [.int (zi v)]).map (xi_cv E)) ++ List.replicate (3 - (lg_sl ((Value.ref 0 :: [.int (zi v)]).map (xi_cv E))).length) Slot.unset).toArray = ls at hl ⊢
  have hl : lv_has ls 3 [(0, .ref (E.1 0)), (1, .int (zi v))] := hl
  refine lv_iload_n hx hb ddX8_republic_0 rfl (lv_at hl 1 rfl) ?_
  refine lv_iconst (v := zi 3) hx hb ddX8_republic_1 (by decide) ?_
  refine xl_callS (E := E) (S := xS0) (A := A) (As := [.int (zi v), .int (zi 3)]) (rest := []) hF hK (sn_X8_within hC _ _ _ _ hwi) (xw_in 287 (by decide +kernel) rfl) (xw_in 285 (by decide +kernel) rfl) (xw_in 286 (by decide +kernel) rfl) (xw_in 53 (by decide +kernel) rfl) ⟨by decide +kernel, by decide +kernel, by show _ = some 2; decide +kernel⟩ ⟨Nat.le_of_ble_eq_true rfl, Nat.le_of_ble_eq_true rfl⟩ hl.1 (Nat.le_of_ble_eq_true rfl) ddX8_republic_2 hP hS hAE ⟨Nat.zero_le _, Nat.zero_le _⟩ (fun H locs hP hS => ?_)
  refine lv_if_ne (x := zi 1) (tgt := 10) hx hb ddX8_republic_5 (by decide) (fun c9 => ?_) (fun c9 => absurd c9 (by decide))
  refine lv_aload_n hx hb ddX8_republic_10 rfl (lv_at hl 0 rfl) ?_
  refine xl_get (E := E) (S := xS0) (a := 0) (v := .ref (E.1 2)) hx hb hts hown hft xf_X8_15 hK hE hP rfl rfl ddX8_republic_11 ?_
  refine lv_iload_n hx hb ddX8_republic_14 rfl (lv_at hl 1 rfl) ?_
  refine xl_ald (E := E) (S := xS0) (a := 2) (b := 36 + u) hx hb hK hE hP (Or.inl rfl) hin2 hrf2 ddX8_republic_15 ?_
  refine xl_get (E := E) (S := xS0) (a := 36 + u) (v := .int (m0.1 (36 + u) 0)) hx hb hts hown hft xf_X8_92 hK hE hP hst9 rfl ddX8_republic_16 ?_
  rw [hth]
  refine lv_if_ne (x := zi 1) (tgt := 28) hx hb ddX8_republic_19 (by decide) (fun c9 => ?_) (fun c9 => absurd c9 (by decide))
  have hD : va_D A (xi_wld E xS0 m0) := (xi_wld_D hE.1).weaken (fun k q _ h => by rw [hAe]; exact Or.inl h)
  refine va_new (ci := 4) (fs := [.null, .int 0, .int 0]) (C := RX5) (T := TX5) (N := 3) hx hb hts xin_X5 tyX5 tyX5_ok hown (hts _ (xw_in 354 (by decide +kernel) rfl)) (hts _ (xw_in 355 (by decide +kernel) rfl)) (hts _ (xw_in 63 (by decide +kernel) rfl)) hK.1 hP hD hS hA2 rfl df_X5 (Nat.le_of_ble_eq_true rfl) (Nat.le_of_ble_eq_true rfl) ddX8_republic_28 (fun q H hP hD hS => ?_)
  refine W.widen (k := 1) (n := 3) (by omega) (by omega) ?_
  refine lv_dup hx hb ddX8_republic_31 rfl ?_
  refine lv_aload_n hx hb ddX8_republic_32 rfl (lv_at hl 0 rfl) ?_
  have hP0 : va_P D vwCl (xi_wld E xS0 m0) H := fun k x hx2 => hP k x (by rw [List.getElem?_append_left (List.getElem?_eq_some_iff.mp hx2).1]; exact hx2)
  have hqn : ∀ a, a < 100 → E.1 a ≠ q := fun a ha e9 => by
    have g1 : (xi_wld E xS0 m0 ++ [(q, (.inr (4, [.null, .int 0, .int 0]) : va_E))])[a]? = some (E.1 a, xi_cel E xS0 m0 a) := by rw [List.getElem?_append_left (by unfold xi_wld; rw [List.length_map, List.length_range, hn]; exact ha)]; exact xi_wld_get (by rw [hn]; exact ha)
    have g2 : (xi_wld E xS0 m0 ++ [(q, (.inr (4, [.null, .int 0, .int 0]) : va_E))])[100]? = some (q, .inr (4, [.null, .int 0, .int 0])) := by rw [List.getElem?_append_right (by unfold xi_wld; rw [List.length_map, List.length_range, hn]; exact Nat.le_refl _), show (xi_wld E xS0 m0).length = 100 by unfold xi_wld; rw [List.length_map, List.length_range, hn]]; rfl
    have := hD.1 _ _ _ _ g1 g2 e9
    omega
  refine xl_get (E := E) (S := xS0) (a := 0) (v := .ref (E.1 2)) hx hb hts hown hft xf_X8_15 hK hE hP0 rfl rfl ddX8_republic_33 ?_
  refine lv_iload_n hx hb ddX8_republic_36 rfl (lv_at hl 1 rfl) ?_
  refine xl_ald (E := E) (S := xS0) (a := 2) (b := 36 + u) hx hb hK hE hP0 (Or.inl rfl) hin2 hrf2 ddX8_republic_37 ?_
  have hPc := xj_one hP
  have hDc := xj_oneD hD
  have hKc := hK.1.sub (tys' := []) [] rfl
  have hFc := xj_fr hD hS hA2
  refine va_callv (va_runI (As := [.ref (E.1 (36 + u))]) (rest := [.ref q]) ⟨hx, hb, hml, hown, hts⟩ (ci_X5 l D q H.size (E.1 (36 + u))) (cwI 1 hts (xi_good xw_good (xw_in 358 (by decide +kernel) rfl)) rfl rfl rfl (hts _ (xw_in 63 (by decide +kernel) rfl)) (hts _ (xw_in 356 (by decide +kernel) rfl)) (hts _ (xw_in 357 (by decide +kernel) rfl)) rfl (by decide +kernel) ⟨Nat.le_of_ble_eq_true rfl, Nat.le_of_ble_eq_true rfl⟩) ⟨fun a U g mk q => by obtain ⟨q0, q1, qP, qK, qD⟩ := q; exact ⟨q0, q1, qP, va_K.moved (u := U) (U := U.calling g mk a) (Vm.Alike.refl U.vm) qK, qD⟩, fun U hU hW => ⟨rfl, by rw [hU], by rw [hU]; exact hPc, va_K.moved hW.alike hKc, hDc.weaken (fun _ _ _ _ => trivial)⟩⟩ rfl rfl hl.1 rfl (lv_room (Nat.le_of_ble_eq_true rfl)) ddX8_republic_38 ⟨Nat.le_of_ble_eq_true rfl, Nat.le_of_ble_eq_true rfl⟩) hS (fun q _ h => hFc q h) hFc (fun up t H1 locs ht hvm hw hB hz1 hk1 hS => ?_)
  obtain ⟨hP1, hD1⟩ := hB
  rw [ht] at hP1
  obtain ⟨hP, hD⟩ := xj_join hP hD hk1 hFc hP1 hD1
  generalize H1 = H at hP hS ⊢
  have hP : va_P D vwCl (xi_wld (xE1 E q) (xS1 u) (xm1 m0)) H := by
    rw [xwld1 hn hft hu4, show xi_wld E xS0 (xm1 m0) = xi_wld E xS0 m0 from List.map_congr_left fun a ha => by
      have : a < 100 := by rw [hn] at ha; exact List.mem_range.mp ha
      rw [xi_cel_ne (E := E) (S := xS0) (m0 := m0) (m1 := xm1 m0) (b := a) (if_neg (by omega)) rfl]]
    exact hP
  have hC1 := xC1 (u := u) hC hn hqn
  have hqA : A q := hD.2 100 (q, .inr (4, [.ref (E.1 (36 + u)), .int 0, .int (zi (-9))])) (by rw [List.getElem?_append_right (by unfold xi_wld; rw [List.length_map, List.length_range, hn]; exact Nat.le_refl _), show (xi_wld E xS0 m0).length = 100 by unfold xi_wld; rw [List.length_map, List.length_range, hn]]; rfl)
  have hAE1 : ∀ a, a < (xE1 E q).2.1 → A ((xE1 E q).1 a) := fun a ha => by
    have ha' : a < 101 := ha
    show A (if a = 100 then q else E.1 a)
    by_cases a1 : a = 100
    · rw [if_pos a1]; exact hqA
    · rw [if_neg a1]; exact hAE a (by rw [hn]; omega)
  refine W.widen (k := 1) (n := 3) (by omega) (by omega) ?_
  refine lv_aload_n hx hb ddX8_republic_41 rfl (lv_at hl 0 rfl) ?_
  refine xl_get (E := xE1 E q) (S := xS1 u) (a := 0) (v := .ref ((xE1 E q).1 60)) hx hb hts hown hft xf_X8_25 hK hC1.1 hP rfl rfl ddX8_republic_42 ?_
  refine xl_callV (E := (xE1 E q)) (S := (xS1 u)) (A := A) (b := 100) (ci := 4) (As := [.ref 60]) (rest := []) hF hK hC1.1 rfl rfl (sn_X5_read hC1 _ _ _ _ hrd) (xw_in 373 (by decide +kernel) rfl) (xw_in 370 (by decide +kernel) rfl) (xw_in 371 (by decide +kernel) rfl) (xw_in 372 (by decide +kernel) rfl) (xw_in 63 (by decide +kernel) rfl) ⟨by decide +kernel, by decide +kernel, by show _ = some 1; decide +kernel⟩ ⟨Nat.le_of_ble_eq_true rfl, Nat.le_of_ble_eq_true rfl⟩ hl.1 (Nat.le_of_ble_eq_true rfl) ddX8_republic_45 hP hS hAE1 ⟨Nat.le_of_ble_eq_true rfl, Nat.le_of_ble_eq_true rfl⟩ (fun H locs hP hS => ?_)
  refine lv_bipush (v := zi (-9)) hx hb ddX8_republic_48 (by decide) ?_
  refine lv_icmp_eq (tgt := 56) hx hb ddX8_republic_50 (by decide) (fun c9 => ?_) (fun c9 => absurd rfl c9)
  have hP := xdrop hn hft hu4 hP
  refine lv_aload_n hx hb ddX8_republic_56 rfl (lv_at hl 0 rfl) ?_
  refine xl_get (E := E) (S := xS0) (a := 0) (v := .ref (E.1 50)) hx hb hts hown hft xf_X8_21 hK hE hP rfl rfl ddX8_republic_57 ?_
  refine lv_aload_n hx hb ddX8_republic_60 rfl (lv_at hl 0 rfl) ?_
  refine xl_get (E := E) (S := xS0) (a := 0) (v := .ref (E.1 60)) hx hb hts hown hft xf_X8_25 hK hE hP rfl rfl ddX8_republic_61 ?_
  refine xl_callV (E := E) (S := xS0) (A := A) (b := 50) (ci := 5) (As := [.ref 60]) (rest := []) hF hK hE rfl rfl (sn_X6_take hC _ _ _ _ htk) (xw_in 417 (by decide +kernel) rfl) (xw_in 414 (by decide +kernel) rfl) (xw_in 415 (by decide +kernel) rfl) (xw_in 416 (by decide +kernel) rfl) (xw_in 54 (by decide +kernel) rfl) ⟨by decide +kernel, by decide +kernel, by show _ = some 1; decide +kernel⟩ ⟨Nat.le_of_ble_eq_true rfl, Nat.le_of_ble_eq_true rfl⟩ hl.1 (Nat.le_of_ble_eq_true rfl) ddX8_republic_64 hP hS hAE ⟨Nat.le_of_ble_eq_true rfl, Nat.le_of_ble_eq_true rfl⟩ (fun H locs hP hS => ?_)
  refine lv_iconst (v := 0) hx hb ddX8_republic_67 (by decide) ?_
  refine lv_istore_n (lv' := [(2, .int 0), (0, .ref (E.1 0)), (1, .int (zi v))]) hx hb ddX8_republic_68 rfl hl (by decide) rfl (fun ls hl => ?_)
  refine lv_iload_n hx hb ddX8_republic_69 rfl (lv_at hl 0 rfl) ?_
  refine lv_iconst (v := 3) hx hb ddX8_republic_70 (by decide) ?_
  refine lv_icmp_ge (tgt := 89) hx hb ddX8_republic_71 (by decide) (fun c9 => absurd c9 (by decide)) (fun c9 => ?_)
  refine lv_aload_n hx hb ddX8_republic_74 rfl (lv_at hl 1 rfl) ?_
  refine xl_get (E := E) (S := xS0) (a := 0) (v := .ref (E.1 3)) hx hb hts hown hft xf_X8_28 hK hE hP rfl rfl ddX8_republic_75 ?_
  refine lv_iload_n hx hb ddX8_republic_78 rfl (lv_at hl 0 rfl) ?_
  refine xl_ald (E := E) (S := xS0) (a := 3) (b := 70) hx hb hK hE hP (Or.inr rfl) (by decide) rfl ddX8_republic_79 ?_
  refine xl_callV (E := E) (S := xS0) (A := A) (b := 70) (ci := 5) (As := []) (rest := []) hF hK hE rfl rfl (sn_X6_clear hC _ _ _ _ hcl0) (xw_in 377 (by decide +kernel) rfl) (xw_in 419 (by decide +kernel) rfl) (xw_in 375 (by decide +kernel) rfl) (xw_in 376 (by decide +kernel) rfl) (xw_in 54 (by decide +kernel) rfl) ⟨by decide +kernel, by decide +kernel, by show _ = some 0; decide +kernel⟩ ⟨Nat.le_of_ble_eq_true rfl, Nat.le_of_ble_eq_true rfl⟩ hl.1 (Nat.le_of_ble_eq_true rfl) ddX8_republic_80 hP hS hAE ⟨Nat.le_of_ble_eq_true rfl, Nat.le_of_ble_eq_true rfl⟩ (fun H locs hP hS => ?_)
  refine lv_iinc (v := 1) (lv' := [(2, .int 1), (0, .ref (E.1 0)), (1, .int (zi v))]) hx hb ddX8_republic_83 hl (k := 0) rfl (by decide) (by decide) rfl (fun ls hl => ?_)
  refine lv_goto (tgt := 69) hx hb ddX8_republic_86 (by decide) ?_
  refine lv_iload_n hx hb ddX8_republic_69 rfl (lv_at hl 0 rfl) ?_
  refine lv_iconst (v := 3) hx hb ddX8_republic_70 (by decide) ?_
  refine lv_icmp_ge (tgt := 89) hx hb ddX8_republic_71 (by decide) (fun c9 => absurd c9 (by decide)) (fun c9 => ?_)
  refine lv_aload_n hx hb ddX8_republic_74 rfl (lv_at hl 1 rfl) ?_
  refine xl_get (E := E) (S := xS0) (a := 0) (v := .ref (E.1 3)) hx hb hts hown hft xf_X8_28 hK hE hP rfl rfl ddX8_republic_75 ?_
  refine lv_iload_n hx hb ddX8_republic_78 rfl (lv_at hl 0 rfl) ?_
  refine xl_ald (E := E) (S := xS0) (a := 3) (b := 80) hx hb hK hE hP (Or.inr rfl) (by decide) rfl ddX8_republic_79 ?_
  refine xl_callV (E := E) (S := xS0) (A := A) (b := 80) (ci := 5) (As := []) (rest := []) hF hK hE rfl rfl (sn_X6_clear hC _ _ _ _ hcl1) (xw_in 377 (by decide +kernel) rfl) (xw_in 419 (by decide +kernel) rfl) (xw_in 375 (by decide +kernel) rfl) (xw_in 376 (by decide +kernel) rfl) (xw_in 54 (by decide +kernel) rfl) ⟨by decide +kernel, by decide +kernel, by show _ = some 0; decide +kernel⟩ ⟨Nat.le_of_ble_eq_true rfl, Nat.le_of_ble_eq_true rfl⟩ hl.1 (Nat.le_of_ble_eq_true rfl) ddX8_republic_80 hP hS hAE ⟨Nat.le_of_ble_eq_true rfl, Nat.le_of_ble_eq_true rfl⟩ (fun H locs hP hS => ?_)
  refine lv_iinc (v := 2) (lv' := [(2, .int 2), (0, .ref (E.1 0)), (1, .int (zi v))]) hx hb ddX8_republic_83 hl (k := 0) rfl (by decide) (by decide) rfl (fun ls hl => ?_)
  refine lv_goto (tgt := 69) hx hb ddX8_republic_86 (by decide) ?_
  refine lv_iload_n hx hb ddX8_republic_69 rfl (lv_at hl 0 rfl) ?_
  refine lv_iconst (v := 3) hx hb ddX8_republic_70 (by decide) ?_
  refine lv_icmp_ge (tgt := 89) hx hb ddX8_republic_71 (by decide) (fun c9 => absurd c9 (by decide)) (fun c9 => ?_)
  refine lv_aload_n hx hb ddX8_republic_74 rfl (lv_at hl 1 rfl) ?_
  refine xl_get (E := E) (S := xS0) (a := 0) (v := .ref (E.1 3)) hx hb hts hown hft xf_X8_28 hK hE hP rfl rfl ddX8_republic_75 ?_
  refine lv_iload_n hx hb ddX8_republic_78 rfl (lv_at hl 0 rfl) ?_
  refine xl_ald (E := E) (S := xS0) (a := 3) (b := 90) hx hb hK hE hP (Or.inr rfl) (by decide) rfl ddX8_republic_79 ?_
  refine xl_callV (E := E) (S := xS0) (A := A) (b := 90) (ci := 5) (As := []) (rest := []) hF hK hE rfl rfl (sn_X6_clear hC _ _ _ _ hcl2) (xw_in 377 (by decide +kernel) rfl) (xw_in 419 (by decide +kernel) rfl) (xw_in 375 (by decide +kernel) rfl) (xw_in 376 (by decide +kernel) rfl) (xw_in 54 (by decide +kernel) rfl) ⟨by decide +kernel, by decide +kernel, by show _ = some 0; decide +kernel⟩ ⟨Nat.le_of_ble_eq_true rfl, Nat.le_of_ble_eq_true rfl⟩ hl.1 (Nat.le_of_ble_eq_true rfl) ddX8_republic_80 hP hS hAE ⟨Nat.le_of_ble_eq_true rfl, Nat.le_of_ble_eq_true rfl⟩ (fun H locs hP hS => ?_)
  refine lv_iinc (v := 3) (lv' := [(2, .int 3), (0, .ref (E.1 0)), (1, .int (zi v))]) hx hb ddX8_republic_83 hl (k := 0) rfl (by decide) (by decide) rfl (fun ls hl => ?_)
  refine lv_goto (tgt := 69) hx hb ddX8_republic_86 (by decide) ?_
  refine lv_iload_n hx hb ddX8_republic_69 rfl (lv_at hl 0 rfl) ?_
  refine lv_iconst (v := 3) hx hb ddX8_republic_70 (by decide) ?_
  refine lv_icmp_ge (tgt := 89) hx hb ddX8_republic_71 (by decide) (fun c9 => ?_) (fun c9 => absurd (by decide) c9)
  refine lv_aload_n hx hb ddX8_republic_89 rfl (lv_at hl 1 rfl) ?_
  refine xl_get (E := E) (S := xS0) (a := 0) (v := .ref (E.1 50)) hx hb hts hown hft xf_X8_21 hK hE hP rfl rfl ddX8_republic_90 ?_
  refine xl_get (E := E) (S := xS0) (a := 50) (v := .int (m2.1 50 1)) hx hb hts hown hft xf_X8_129 hK hE hP rfl rfl ddX8_republic_93 ?_
  refine W.widen (k := 1) (n := 3) (by omega) (by omega) ?_
  exact W.iret (v := m2.1 50 1) hx hb hr (fun t ht hW => ⟨rfl, by rw [ht]; exact hP, hS.F ht⟩) hS.2.2 ddX8_republic_96
