theorem i_X9_in0_0 : xi_dc cX9_in0 0 = some (.iload_n 0, 1) := by decide +kernel
theorem i_X9_in0_1 : xi_dc cX9_in0 1 = some (.iload_n 1, 1) := by decide +kernel
theorem i_X9_in0_2 : xi_dc cX9_in0 2 = some (.if_icmp .lt 12, 3) := by decide +kernel
theorem t_X9_in0_2 : ((2 : Nat) : Int) + 12 = ((14 : Nat) : Int) := by decide +kernel
theorem i_X9_in0_5 : xi_dc cX9_in0 5 = some (.iload_n 0, 1) := by decide +kernel
theorem i_X9_in0_6 : xi_dc cX9_in0 6 = some (.iload_n 2, 1) := by decide +kernel
theorem i_X9_in0_7 : xi_dc cX9_in0 7 = some (.if_icmp .gt 7, 3) := by decide +kernel
theorem t_X9_in0_7 : ((7 : Nat) : Int) + 7 = ((14 : Nat) : Int) := by decide +kernel
theorem i_X9_in0_10 : xi_dc cX9_in0 10 = some (.iconst 1, 1) := by decide +kernel
theorem i_X9_in0_11 : xi_dc cX9_in0 11 = some (.goto 4, 3) := by decide +kernel
theorem t_X9_in0_11 : ((11 : Nat) : Int) + 4 = ((15 : Nat) : Int) := by decide +kernel
theorem i_X9_in0_14 : xi_dc cX9_in0 14 = some (.iconst 0, 1) := by decide +kernel
theorem i_X9_in0_15 : xi_dc cX9_in0 15 = some (.ireturn, 1) := by decide +kernel
def P_X9_in0 (S : xi_S) : xi_P := (xi_dc cX9_in0, xi_tab xfl_X9, xi_tab xki_X9, xi_tab xkl_X9, xi_tab xcs_X9, xi_tab xcv_X9, xi_calls [], xi_calls [], 2)
def E_X9_in0 (S : xi_S) (v0 : Int32) (v1 : Int32) (v2 : Int32) (m : xi_M) : Option xi_R :=
  if v0 < v1 then
    if (Int32.ofInt 0) = 0 ∨ (Int32.ofInt 0) = 1 then some (some (.int (Int32.ofInt 0)), m) else none
  else
    if v2 < v0 then
      if (Int32.ofInt 0) = 0 ∨ (Int32.ofInt 0) = 1 then some (some (.int (Int32.ofInt 0)), m) else none
    else
      if (Int32.ofInt 1) = 0 ∨ (Int32.ofInt 1) = 1 then some (some (.int (Int32.ofInt 1)), m) else none
def F_X9_in0 (S : xi_S) : xi_F := fun As m => match As with
  | [.int v0, .int v1, .int v2] => E_X9_in0 S v0 v1 v2 m
  | _ => none
set_option maxRecDepth 100000 in
set_option maxHeartbeats 4000000 in
theorem xe_X9_in0 {S : xi_S} {res : xi_R} (v0 : Int32) (v1 : Int32) (v2 : Int32) (m : xi_M) (h : E_X9_in0 S v0 v1 v2 m = some res) : xi_X S (P_X9_in0 S) (0, [some (.int v0), some (.int v1), some (.int v2)], [], m) res := by
  unfold E_X9_in0 at h
  refine xr_iload_n i_X9_in0_0 rfl (q := 1) rfl ?_
  refine xr_iload_n i_X9_in0_1 rfl (q := 2) rfl ?_
  by_cases c2 : v0 < v1
  · replace h := (if_pos c2).symm.trans h
    refine xr_if_icmp_lt_p i_X9_in0_2 c2 (q := 14) t_X9_in0_2 (q2 := 5) rfl ?_
    refine xr_iconst i_X9_in0_14 (q := 15) rfl ?_
    exact xr_zreturn i_X9_in0_15 rfl h
  · replace h := (if_neg c2).symm.trans h
    refine xr_if_icmp_lt_n i_X9_in0_2 c2 (q := 14) t_X9_in0_2 (q2 := 5) rfl ?_
    refine xr_iload_n i_X9_in0_5 rfl (q := 6) rfl ?_
    refine xr_iload_n i_X9_in0_6 rfl (q := 7) rfl ?_
    by_cases c1 : v2 < v0
    · replace h := (if_pos c1).symm.trans h
      refine xr_if_icmp_gt_p i_X9_in0_7 c1 (q := 14) t_X9_in0_7 (q2 := 10) rfl ?_
      refine xr_iconst i_X9_in0_14 (q := 15) rfl ?_
      exact xr_zreturn i_X9_in0_15 rfl h
    · replace h := (if_neg c1).symm.trans h
      refine xr_if_icmp_gt_n i_X9_in0_7 c1 (q := 14) t_X9_in0_7 (q2 := 10) rfl ?_
      refine xr_iconst i_X9_in0_10 (q := 11) rfl ?_
      refine xr_goto i_X9_in0_11 (q := 15) t_X9_in0_11 ?_
      exact xr_zreturn i_X9_in0_15 rfl h
set_option maxRecDepth 100000 in
theorem po_X9_in0 {l : Launch} {E : xi_E} {S : xi_S} {D : va_G} {tys : List (ClassId × FieldType)} (hC : xCx E S tys) : xi_Pok l E S D vwCl tys xNs RX9 xTs cX9_in0 3 0 (P_X9_in0 S) := ⟨xi_dc_ok, by rw [hC.2]; exact xfo_X9, xkio_X9, xklo_X9, xi_calls_ok (ins := .invokestatic) (fun _ h => absurd h List.not_mem_nil), xi_calls_ok (ins := .invokevirtual) (fun _ h => absurd h List.not_mem_nil)⟩
theorem sn_X9_in0 {l : Launch} {E : xi_E} {S : xi_S} {D : va_G} {tys : List (ClassId × FieldType)} (hC : xCx E S tys) : ∀ As m1 r m2, F_X9_in0 S As m1 = some (r, m2) → xi_Sound l E S D vwCl tys xNs xTs yX9_in0 cX9_in0 3 (some .boolean) 0 As m1 r m2 := by
  intro As m1 r m2 h
  unfold F_X9_in0 at h
  split at h
  · exact xi_meth (P := P_X9_in0 S) (by decide) hC.1 (po_X9_in0 hC) (Nat.le_of_ble_eq_true rfl) rfl (xe_X9_in0 _ _ _ _ h)
  · exact xi_no h
theorem i_X9_has_0 : xi_dc cX9_has 0 = some (.iload_n 0, 1) := by decide +kernel
theorem i_X9_has_1 : xi_dc cX9_has 1 = some (.iload_n 1, 1) := by decide +kernel
theorem i_X9_has_2 : xi_dc cX9_has 2 = some (.ishr, 1) := by decide +kernel
theorem i_X9_has_3 : xi_dc cX9_has 3 = some (.iconst 1, 1) := by decide +kernel
theorem i_X9_has_4 : xi_dc cX9_has 4 = some (.iand, 1) := by decide +kernel
theorem i_X9_has_5 : xi_dc cX9_has 5 = some (.iconst 1, 1) := by decide +kernel
theorem i_X9_has_6 : xi_dc cX9_has 6 = some (.if_icmp .ne 7, 3) := by decide +kernel
theorem t_X9_has_6 : ((6 : Nat) : Int) + 7 = ((13 : Nat) : Int) := by decide +kernel
theorem i_X9_has_9 : xi_dc cX9_has 9 = some (.iconst 1, 1) := by decide +kernel
theorem i_X9_has_10 : xi_dc cX9_has 10 = some (.goto 4, 3) := by decide +kernel
theorem t_X9_has_10 : ((10 : Nat) : Int) + 4 = ((14 : Nat) : Int) := by decide +kernel
theorem i_X9_has_13 : xi_dc cX9_has 13 = some (.iconst 0, 1) := by decide +kernel
theorem i_X9_has_14 : xi_dc cX9_has 14 = some (.ireturn, 1) := by decide +kernel
def P_X9_has (S : xi_S) : xi_P := (xi_dc cX9_has, xi_tab xfl_X9, xi_tab xki_X9, xi_tab xkl_X9, xi_tab xcs_X9, xi_tab xcv_X9, xi_calls [], xi_calls [], 2)
def E_X9_has (S : xi_S) (v0 : Int32) (v1 : Int32) (m : xi_M) : Option xi_R :=
  if ((v0 >>> (v1 &&& 31)) &&& (Int32.ofInt 1)) = (Int32.ofInt 1) then
    if (Int32.ofInt 1) = 0 ∨ (Int32.ofInt 1) = 1 then some (some (.int (Int32.ofInt 1)), m) else none
  else
    if (Int32.ofInt 0) = 0 ∨ (Int32.ofInt 0) = 1 then some (some (.int (Int32.ofInt 0)), m) else none
def F_X9_has (S : xi_S) : xi_F := fun As m => match As with
  | [.int v0, .int v1] => E_X9_has S v0 v1 m
  | _ => none
set_option maxRecDepth 100000 in
set_option maxHeartbeats 4000000 in
theorem xe_X9_has {S : xi_S} {res : xi_R} (v0 : Int32) (v1 : Int32) (m : xi_M) (h : E_X9_has S v0 v1 m = some res) : xi_X S (P_X9_has S) (0, [some (.int v0), some (.int v1)], [], m) res := by
  unfold E_X9_has at h
  refine xr_iload_n i_X9_has_0 rfl (q := 1) rfl ?_
  refine xr_iload_n i_X9_has_1 rfl (q := 2) rfl ?_
  refine xr_ishr i_X9_has_2 (q := 3) rfl ?_
  refine xr_iconst i_X9_has_3 (q := 4) rfl ?_
  refine xr_iand i_X9_has_4 (q := 5) rfl ?_
  refine xr_iconst i_X9_has_5 (q := 6) rfl ?_
  by_cases c1 : ((v0 >>> (v1 &&& 31)) &&& (Int32.ofInt 1)) = (Int32.ofInt 1)
  · replace h := (if_pos c1).symm.trans h
    refine xr_if_icmp_ne_p i_X9_has_6 c1 (q := 13) t_X9_has_6 (q2 := 9) rfl ?_
    refine xr_iconst i_X9_has_9 (q := 10) rfl ?_
    refine xr_goto i_X9_has_10 (q := 14) t_X9_has_10 ?_
    exact xr_zreturn i_X9_has_14 rfl h
  · replace h := (if_neg c1).symm.trans h
    refine xr_if_icmp_ne_n i_X9_has_6 c1 (q := 13) t_X9_has_6 (q2 := 9) rfl ?_
    refine xr_iconst i_X9_has_13 (q := 14) rfl ?_
    exact xr_zreturn i_X9_has_14 rfl h
set_option maxRecDepth 100000 in
theorem po_X9_has {l : Launch} {E : xi_E} {S : xi_S} {D : va_G} {tys : List (ClassId × FieldType)} (hC : xCx E S tys) : xi_Pok l E S D vwCl tys xNs RX9 xTs cX9_has 2 0 (P_X9_has S) := ⟨xi_dc_ok, by rw [hC.2]; exact xfo_X9, xkio_X9, xklo_X9, xi_calls_ok (ins := .invokestatic) (fun _ h => absurd h List.not_mem_nil), xi_calls_ok (ins := .invokevirtual) (fun _ h => absurd h List.not_mem_nil)⟩
theorem sn_X9_has {l : Launch} {E : xi_E} {S : xi_S} {D : va_G} {tys : List (ClassId × FieldType)} (hC : xCx E S tys) : ∀ As m1 r m2, F_X9_has S As m1 = some (r, m2) → xi_Sound l E S D vwCl tys xNs xTs yX9_has cX9_has 2 (some .boolean) 0 As m1 r m2 := by
  intro As m1 r m2 h
  unfold F_X9_has at h
  split at h
  · exact xi_meth (P := P_X9_has S) (by decide) hC.1 (po_X9_has hC) (Nat.le_of_ble_eq_true rfl) rfl (xe_X9_has _ _ _ h)
  · exact xi_no h
theorem i_X9_apart_0 : xi_dc cX9_apart 0 = some (.iload_n 0, 1) := by decide +kernel
theorem i_X9_apart_1 : xi_dc cX9_apart 1 = some (.iload_n 1, 1) := by decide +kernel
theorem i_X9_apart_2 : xi_dc cX9_apart 2 = some (.if_icmp .ge 9, 3) := by decide +kernel
theorem t_X9_apart_2 : ((2 : Nat) : Int) + 9 = ((11 : Nat) : Int) := by decide +kernel
theorem i_X9_apart_5 : xi_dc cX9_apart 5 = some (.iload_n 1, 1) := by decide +kernel
theorem i_X9_apart_6 : xi_dc cX9_apart 6 = some (.iload_n 0, 1) := by decide +kernel
theorem i_X9_apart_7 : xi_dc cX9_apart 7 = some (.isub, 1) := by decide +kernel
theorem i_X9_apart_8 : xi_dc cX9_apart 8 = some (.goto 6, 3) := by decide +kernel
theorem t_X9_apart_8 : ((8 : Nat) : Int) + 6 = ((14 : Nat) : Int) := by decide +kernel
theorem i_X9_apart_11 : xi_dc cX9_apart 11 = some (.iload_n 0, 1) := by decide +kernel
theorem i_X9_apart_12 : xi_dc cX9_apart 12 = some (.iload_n 1, 1) := by decide +kernel
theorem i_X9_apart_13 : xi_dc cX9_apart 13 = some (.isub, 1) := by decide +kernel
theorem i_X9_apart_14 : xi_dc cX9_apart 14 = some (.ireturn, 1) := by decide +kernel
def P_X9_apart (S : xi_S) : xi_P := (xi_dc cX9_apart, xi_tab xfl_X9, xi_tab xki_X9, xi_tab xkl_X9, xi_tab xcs_X9, xi_tab xcv_X9, xi_calls [], xi_calls [], 1)
def E_X9_apart (S : xi_S) (v0 : Int32) (v1 : Int32) (m : xi_M) : Option xi_R :=
  if v1 ≤ v0 then
    some (some (.int (v0 - v1)), m)
  else
    some (some (.int (v1 - v0)), m)
def F_X9_apart (S : xi_S) : xi_F := fun As m => match As with
  | [.int v0, .int v1] => E_X9_apart S v0 v1 m
  | _ => none
set_option maxRecDepth 100000 in
set_option maxHeartbeats 4000000 in
theorem xe_X9_apart {S : xi_S} {res : xi_R} (v0 : Int32) (v1 : Int32) (m : xi_M) (h : E_X9_apart S v0 v1 m = some res) : xi_X S (P_X9_apart S) (0, [some (.int v0), some (.int v1)], [], m) res := by
  unfold E_X9_apart at h
  refine xr_iload_n i_X9_apart_0 rfl (q := 1) rfl ?_
  refine xr_iload_n i_X9_apart_1 rfl (q := 2) rfl ?_
  by_cases c1 : v1 ≤ v0
  · replace h := (if_pos c1).symm.trans h
    refine xr_if_icmp_ge_p i_X9_apart_2 c1 (q := 11) t_X9_apart_2 (q2 := 5) rfl ?_
    refine xr_iload_n i_X9_apart_11 rfl (q := 12) rfl ?_
    refine xr_iload_n i_X9_apart_12 rfl (q := 13) rfl ?_
    refine xr_isub i_X9_apart_13 (q := 14) rfl ?_
    exact xr_ireturn i_X9_apart_14 rfl h
  · replace h := (if_neg c1).symm.trans h
    refine xr_if_icmp_ge_n i_X9_apart_2 c1 (q := 11) t_X9_apart_2 (q2 := 5) rfl ?_
    refine xr_iload_n i_X9_apart_5 rfl (q := 6) rfl ?_
    refine xr_iload_n i_X9_apart_6 rfl (q := 7) rfl ?_
    refine xr_isub i_X9_apart_7 (q := 8) rfl ?_
    refine xr_goto i_X9_apart_8 (q := 14) t_X9_apart_8 ?_
    exact xr_ireturn i_X9_apart_14 rfl h
set_option maxRecDepth 100000 in
theorem po_X9_apart {l : Launch} {E : xi_E} {S : xi_S} {D : va_G} {tys : List (ClassId × FieldType)} (hC : xCx E S tys) : xi_Pok l E S D vwCl tys xNs RX9 xTs cX9_apart 2 0 (P_X9_apart S) := ⟨xi_dc_ok, by rw [hC.2]; exact xfo_X9, xkio_X9, xklo_X9, xi_calls_ok (ins := .invokestatic) (fun _ h => absurd h List.not_mem_nil), xi_calls_ok (ins := .invokevirtual) (fun _ h => absurd h List.not_mem_nil)⟩
theorem sn_X9_apart {l : Launch} {E : xi_E} {S : xi_S} {D : va_G} {tys : List (ClassId × FieldType)} (hC : xCx E S tys) : ∀ As m1 r m2, F_X9_apart S As m1 = some (r, m2) → xi_Sound l E S D vwCl tys xNs xTs yX9_apart cX9_apart 2 (some .int) 0 As m1 r m2 := by
  intro As m1 r m2 h
  unfold F_X9_apart at h
  split at h
  · exact xi_meth (P := P_X9_apart S) (by decide) hC.1 (po_X9_apart hC) (Nat.le_of_ble_eq_true rfl) rfl (xe_X9_apart _ _ _ h)
  · exact xi_no h
theorem i_X9_found_0 : xi_dc cX9_found 0 = some (.aload_n 0, 1) := by decide +kernel
theorem i_X9_found_1 : xi_dc cX9_found 1 = some (.iload_n 1, 1) := by decide +kernel
theorem i_X9_found_2 : xi_dc cX9_found 2 = some (.putfield 56, 3) := by decide +kernel
theorem i_X9_found_5 : xi_dc cX9_found 5 = some (.aload_n 0, 1) := by decide +kernel
theorem i_X9_found_6 : xi_dc cX9_found 6 = some (.getfield 46, 3) := by decide +kernel
theorem i_X9_found_9 : xi_dc cX9_found 9 = some (.iload_n 1, 1) := by decide +kernel
theorem i_X9_found_10 : xi_dc cX9_found 10 = some (.dup2, 1) := by decide +kernel
theorem i_X9_found_11 : xi_dc cX9_found 11 = some (.iaload, 1) := by decide +kernel
theorem i_X9_found_12 : xi_dc cX9_found 12 = some (.iconst 1, 1) := by decide +kernel
theorem i_X9_found_13 : xi_dc cX9_found 13 = some (.iadd, 1) := by decide +kernel
theorem i_X9_found_14 : xi_dc cX9_found 14 = some (.iastore, 1) := by decide +kernel
theorem i_X9_found_15 : xi_dc cX9_found 15 = some (.bipush (-3), 2) := by decide +kernel
theorem i_X9_found_17 : xi_dc cX9_found 17 = some (.ireturn, 1) := by decide +kernel
def P_X9_found (S : xi_S) : xi_P := (xi_dc cX9_found, xi_tab xfl_X9, xi_tab xki_X9, xi_tab xkl_X9, xi_tab xcs_X9, xi_tab xcv_X9, xi_calls [], xi_calls [], 1)
def E_X9_found (S : xi_S) (v0 : Nat) (v1 : Int32) (m : xi_M) : Option xi_R :=
  if S.1 v0 = 11 then
    if S.1 v0 = 11 then (S.2.2 v0 14).bind fun b3 =>
      if S.1 b3 = 0 ∧ ¬ (v1 < 0 ∨ S.2.1 b3 ≤ Int32.toNatClampNeg v1) then
        if S.1 b3 = 0 ∧ ¬ (v1 < 0 ∨ S.2.1 b3 ≤ Int32.toNatClampNeg v1) then
          some (some (.int ((Int8.ofInt (-3)).toInt32)), (xi_wI (xi_wI m v0 13 v1) b3 (Int32.toNatClampNeg v1) (((xi_wI m v0 13 v1).1 b3 (Int32.toNatClampNeg v1)) + (Int32.ofInt 1))))
        else none
      else none
    else none
  else none
def F_X9_found (S : xi_S) : xi_F := fun As m => match As with
  | [.ref v0, .int v1] => E_X9_found S v0 v1 m
  | _ => none
set_option maxRecDepth 100000 in
set_option maxHeartbeats 4000000 in
theorem xe_X9_found {S : xi_S} {res : xi_R} (v0 : Nat) (v1 : Int32) (m : xi_M) (h : E_X9_found S v0 v1 m = some res) : xi_X S (P_X9_found S) (0, [some (.ref v0), some (.int v1)], [], m) res := by
  unfold E_X9_found at h
  refine xr_aload_n i_X9_found_0 rfl (q := 1) rfl ?_
  refine xr_iload_n i_X9_found_1 rfl (q := 2) rfl ?_
  obtain ⟨c1, h⟩ := xi_if_some h
  refine xr_putI i_X9_found_2 xfe_X9_56 c1 (q := 5) rfl ?_
  refine xr_aload_n i_X9_found_5 rfl (q := 6) rfl ?_
  obtain ⟨c2, h⟩ := xi_if_some h
  obtain ⟨b3, eb3, h⟩ := xi_bind_some h
  refine xr_getR i_X9_found_6 xfe_X9_46 c2 eb3 (q := 9) rfl ?_
  refine xr_iload_n i_X9_found_9 rfl (q := 10) rfl ?_
  refine xr_dup2 i_X9_found_10 (q := 11) rfl ?_
  obtain ⟨c4, h⟩ := xi_if_some h
  refine xr_iaload i_X9_found_11 c4 (q := 12) rfl ?_
  refine xr_iconst i_X9_found_12 (q := 13) rfl ?_
  refine xr_iadd i_X9_found_13 (q := 14) rfl ?_
  obtain ⟨c5, h⟩ := xi_if_some h
  refine xr_iastore i_X9_found_14 c5 (q := 15) rfl ?_
  refine xr_bipush i_X9_found_15 (q := 17) rfl ?_
  exact xr_ireturn i_X9_found_17 rfl h
set_option maxRecDepth 100000 in
theorem po_X9_found {l : Launch} {E : xi_E} {S : xi_S} {D : va_G} {tys : List (ClassId × FieldType)} (hC : xCx E S tys) : xi_Pok l E S D vwCl tys xNs RX9 xTs cX9_found 2 0 (P_X9_found S) := ⟨xi_dc_ok, by rw [hC.2]; exact xfo_X9, xkio_X9, xklo_X9, xi_calls_ok (ins := .invokestatic) (fun _ h => absurd h List.not_mem_nil), xi_calls_ok (ins := .invokevirtual) (fun _ h => absurd h List.not_mem_nil)⟩
theorem sn_X9_found {l : Launch} {E : xi_E} {S : xi_S} {D : va_G} {tys : List (ClassId × FieldType)} (hC : xCx E S tys) : ∀ As m1 r m2, F_X9_found S As m1 = some (r, m2) → xi_Sound l E S D vwCl tys xNs xTs yX9_found cX9_found 2 (some .int) 0 As m1 r m2 := by
  intro As m1 r m2 h
  unfold F_X9_found at h
  split at h
  · exact xi_meth (P := P_X9_found S) (by decide) hC.1 (po_X9_found hC) (Nat.le_of_ble_eq_true rfl) rfl (xe_X9_found _ _ _ h)
  · exact xi_no h
theorem i_X9_tells_0 : xi_dc cX9_tells 0 = some (.aload_n 0, 1) := by decide +kernel
theorem i_X9_tells_1 : xi_dc cX9_tells 1 = some (.iload_n 1, 1) := by decide +kernel
theorem i_X9_tells_2 : xi_dc cX9_tells 2 = some (.putfield 60, 3) := by decide +kernel
theorem i_X9_tells_5 : xi_dc cX9_tells 5 = some (.iconst 1, 1) := by decide +kernel
theorem i_X9_tells_6 : xi_dc cX9_tells 6 = some (.ireturn, 1) := by decide +kernel
def P_X9_tells (S : xi_S) : xi_P := (xi_dc cX9_tells, xi_tab xfl_X9, xi_tab xki_X9, xi_tab xkl_X9, xi_tab xcs_X9, xi_tab xcv_X9, xi_calls [], xi_calls [], 1)
def E_X9_tells (S : xi_S) (v0 : Nat) (v1 : Int32) (m : xi_M) : Option xi_R :=
  if S.1 v0 = 11 then
    some (some (.int (Int32.ofInt 1)), (xi_wI m v0 15 v1))
  else none
def F_X9_tells (S : xi_S) : xi_F := fun As m => match As with
  | [.ref v0, .int v1] => E_X9_tells S v0 v1 m
  | _ => none
set_option maxRecDepth 100000 in
set_option maxHeartbeats 4000000 in
theorem xe_X9_tells {S : xi_S} {res : xi_R} (v0 : Nat) (v1 : Int32) (m : xi_M) (h : E_X9_tells S v0 v1 m = some res) : xi_X S (P_X9_tells S) (0, [some (.ref v0), some (.int v1)], [], m) res := by
  unfold E_X9_tells at h
  refine xr_aload_n i_X9_tells_0 rfl (q := 1) rfl ?_
  refine xr_iload_n i_X9_tells_1 rfl (q := 2) rfl ?_
  obtain ⟨c1, h⟩ := xi_if_some h
  refine xr_putI i_X9_tells_2 xfe_X9_60 c1 (q := 5) rfl ?_
  refine xr_iconst i_X9_tells_5 (q := 6) rfl ?_
  exact xr_ireturn i_X9_tells_6 rfl h
set_option maxRecDepth 100000 in
theorem po_X9_tells {l : Launch} {E : xi_E} {S : xi_S} {D : va_G} {tys : List (ClassId × FieldType)} (hC : xCx E S tys) : xi_Pok l E S D vwCl tys xNs RX9 xTs cX9_tells 2 0 (P_X9_tells S) := ⟨xi_dc_ok, by rw [hC.2]; exact xfo_X9, xkio_X9, xklo_X9, xi_calls_ok (ins := .invokestatic) (fun _ h => absurd h List.not_mem_nil), xi_calls_ok (ins := .invokevirtual) (fun _ h => absurd h List.not_mem_nil)⟩
theorem sn_X9_tells {l : Launch} {E : xi_E} {S : xi_S} {D : va_G} {tys : List (ClassId × FieldType)} (hC : xCx E S tys) : ∀ As m1 r m2, F_X9_tells S As m1 = some (r, m2) → xi_Sound l E S D vwCl tys xNs xTs yX9_tells cX9_tells 2 (some .int) 0 As m1 r m2 := by
  intro As m1 r m2 h
  unfold F_X9_tells at h
  split at h
  · exact xi_meth (P := P_X9_tells S) (by decide) hC.1 (po_X9_tells hC) (Nat.le_of_ble_eq_true rfl) rfl (xe_X9_tells _ _ _ h)
  · exact xi_no h
theorem i_X9_isRow_0 : xi_dc cX9_isRow 0 = some (.iload_n 0, 1) := by decide +kernel
theorem i_X9_isRow_1 : xi_dc cX9_isRow 1 = some (.iconst 0, 1) := by decide +kernel
theorem i_X9_isRow_2 : xi_dc cX9_isRow 2 = some (.iconst 5, 1) := by decide +kernel
theorem i_X9_isRow_3 : xi_dc cX9_isRow 3 = some (.invokestatic 63, 3) := by decide +kernel
theorem i_X9_isRow_6 : xi_dc cX9_isRow 6 = some (.ireturn, 1) := by decide +kernel
def P_X9_isRow (S : xi_S) : xi_P := (xi_dc cX9_isRow, xi_tab xfl_X9, xi_tab xki_X9, xi_tab xkl_X9, xi_tab xcs_X9, xi_tab xcv_X9, xi_calls [(63, xi_wS 3 (F_X9_in0 S))], xi_calls [], 2)
theorem cc_X9_isRow_63 (S : xi_S) (a0 : Int32) (a1 : Int32) (a2 : Int32) (m : xi_M) : (P_X9_isRow S).2.2.2.2.2.2.1 63 [.int a0, .int a1, .int a2] m = (E_X9_in0 S a0 a1 a2 m) := by
  show xi_calls [(63, xi_wS 3 (F_X9_in0 S))] 63 [.int a0, .int a1, .int a2] m = _
  refine Eq.trans (b := xi_wS 3 (F_X9_in0 S) [.int a0, .int a1, .int a2] m) (xi_calls_hit rfl) ?_
  exact xi_wS_eq rfl
def E_X9_isRow (S : xi_S) (v0 : Int32) (m : xi_M) : Option xi_R :=
  xi_bI (E_X9_in0 S v0 (Int32.ofInt 0) (Int32.ofInt 5) m) fun x2 m1 =>
  if x2 = 0 ∨ x2 = 1 then some (some (.int x2), m1) else none
def F_X9_isRow (S : xi_S) : xi_F := fun As m => match As with
  | [.int v0] => E_X9_isRow S v0 m
  | _ => none
set_option maxRecDepth 100000 in
set_option maxHeartbeats 4000000 in
theorem xe_X9_isRow {S : xi_S} {res : xi_R} (v0 : Int32) (m : xi_M) (h : E_X9_isRow S v0 m = some res) : xi_X S (P_X9_isRow S) (0, [some (.int v0)], [], m) res := by
  unfold E_X9_isRow at h
  refine xr_iload_n i_X9_isRow_0 rfl (q := 1) rfl ?_
  refine xr_iconst i_X9_isRow_1 (q := 2) rfl ?_
  refine xr_iconst i_X9_isRow_2 (q := 3) rfl ?_
  obtain ⟨x2, m1, em1, h⟩ := xi_bI_some h
  refine xr_SI i_X9_isRow_3 xcse_X9_63 rfl (As := [.int v0, .int (Int32.ofInt 0), .int (Int32.ofInt 5)]) rfl (rest := []) rfl ((cc_X9_isRow_63 S _ _ _ _).trans em1) (q := 6) rfl ?_
  exact xr_zreturn i_X9_isRow_6 rfl h
set_option maxRecDepth 100000 in
theorem po_X9_isRow {l : Launch} {E : xi_E} {S : xi_S} {D : va_G} {tys : List (ClassId × FieldType)} (hC : xCx E S tys) : xi_Pok l E S D vwCl tys xNs RX9 xTs cX9_isRow 1 1 (P_X9_isRow S) := ⟨xi_dc_ok, by rw [hC.2]; exact xfo_X9, xkio_X9, xklo_X9, xi_calls_ok (ins := .invokestatic) (List.forall_mem_cons.mpr ⟨(xc_X9_63 (sn_X9_in0 hC) (by decide)), fun _ h => absurd h List.not_mem_nil⟩), xi_calls_ok (ins := .invokevirtual) (fun _ h => absurd h List.not_mem_nil)⟩
theorem sn_X9_isRow {l : Launch} {E : xi_E} {S : xi_S} {D : va_G} {tys : List (ClassId × FieldType)} (hC : xCx E S tys) : ∀ As m1 r m2, F_X9_isRow S As m1 = some (r, m2) → xi_Sound l E S D vwCl tys xNs xTs yX9_isRow cX9_isRow 1 (some .boolean) 1 As m1 r m2 := by
  intro As m1 r m2 h
  unfold F_X9_isRow at h
  split at h
  · exact xi_meth (P := P_X9_isRow S) (by decide) hC.1 (po_X9_isRow hC) (Nat.le_of_ble_eq_true rfl) rfl (xe_X9_isRow _ _ h)
  · exact xi_no h
theorem i_X9_isText_0 : xi_dc cX9_isText 0 = some (.iload_n 0, 1) := by decide +kernel
theorem i_X9_isText_1 : xi_dc cX9_isText 1 = some (.iconst 0, 1) := by decide +kernel
theorem i_X9_isText_2 : xi_dc cX9_isText 2 = some (.iconst 3, 1) := by decide +kernel
theorem i_X9_isText_3 : xi_dc cX9_isText 3 = some (.invokestatic 63, 3) := by decide +kernel
theorem i_X9_isText_6 : xi_dc cX9_isText 6 = some (.ireturn, 1) := by decide +kernel
def P_X9_isText (S : xi_S) : xi_P := (xi_dc cX9_isText, xi_tab xfl_X9, xi_tab xki_X9, xi_tab xkl_X9, xi_tab xcs_X9, xi_tab xcv_X9, xi_calls [(63, xi_wS 3 (F_X9_in0 S))], xi_calls [], 2)
theorem cc_X9_isText_63 (S : xi_S) (a0 : Int32) (a1 : Int32) (a2 : Int32) (m : xi_M) : (P_X9_isText S).2.2.2.2.2.2.1 63 [.int a0, .int a1, .int a2] m = (E_X9_in0 S a0 a1 a2 m) := by
  show xi_calls [(63, xi_wS 3 (F_X9_in0 S))] 63 [.int a0, .int a1, .int a2] m = _
  refine Eq.trans (b := xi_wS 3 (F_X9_in0 S) [.int a0, .int a1, .int a2] m) (xi_calls_hit rfl) ?_
  exact xi_wS_eq rfl
def E_X9_isText (S : xi_S) (v0 : Int32) (m : xi_M) : Option xi_R :=
  xi_bI (E_X9_in0 S v0 (Int32.ofInt 0) (Int32.ofInt 3) m) fun x2 m1 =>
  if x2 = 0 ∨ x2 = 1 then some (some (.int x2), m1) else none
def F_X9_isText (S : xi_S) : xi_F := fun As m => match As with
  | [.int v0] => E_X9_isText S v0 m
  | _ => none
set_option maxRecDepth 100000 in
set_option maxHeartbeats 4000000 in
theorem xe_X9_isText {S : xi_S} {res : xi_R} (v0 : Int32) (m : xi_M) (h : E_X9_isText S v0 m = some res) : xi_X S (P_X9_isText S) (0, [some (.int v0)], [], m) res := by
  unfold E_X9_isText at h
  refine xr_iload_n i_X9_isText_0 rfl (q := 1) rfl ?_
  refine xr_iconst i_X9_isText_1 (q := 2) rfl ?_
  refine xr_iconst i_X9_isText_2 (q := 3) rfl ?_
  obtain ⟨x2, m1, em1, h⟩ := xi_bI_some h
  refine xr_SI i_X9_isText_3 xcse_X9_63 rfl (As := [.int v0, .int (Int32.ofInt 0), .int (Int32.ofInt 3)]) rfl (rest := []) rfl ((cc_X9_isText_63 S _ _ _ _).trans em1) (q := 6) rfl ?_
  exact xr_zreturn i_X9_isText_6 rfl h
set_option maxRecDepth 100000 in
theorem po_X9_isText {l : Launch} {E : xi_E} {S : xi_S} {D : va_G} {tys : List (ClassId × FieldType)} (hC : xCx E S tys) : xi_Pok l E S D vwCl tys xNs RX9 xTs cX9_isText 1 1 (P_X9_isText S) := ⟨xi_dc_ok, by rw [hC.2]; exact xfo_X9, xkio_X9, xklo_X9, xi_calls_ok (ins := .invokestatic) (List.forall_mem_cons.mpr ⟨(xc_X9_63 (sn_X9_in0 hC) (by decide)), fun _ h => absurd h List.not_mem_nil⟩), xi_calls_ok (ins := .invokevirtual) (fun _ h => absurd h List.not_mem_nil)⟩
theorem sn_X9_isText {l : Launch} {E : xi_E} {S : xi_S} {D : va_G} {tys : List (ClassId × FieldType)} (hC : xCx E S tys) : ∀ As m1 r m2, F_X9_isText S As m1 = some (r, m2) → xi_Sound l E S D vwCl tys xNs xTs yX9_isText cX9_isText 1 (some .boolean) 1 As m1 r m2 := by
  intro As m1 r m2 h
  unfold F_X9_isText at h
  split at h
  · exact xi_meth (P := P_X9_isText S) (by decide) hC.1 (po_X9_isText hC) (Nat.le_of_ble_eq_true rfl) rfl (xe_X9_isText _ _ h)
  · exact xi_no h
theorem i_X9_row_0 : xi_dc cX9_row 0 = some (.iload_n 1, 1) := by decide +kernel
theorem i_X9_row_1 : xi_dc cX9_row 1 = some (.invokestatic 67, 3) := by decide +kernel
theorem i_X9_row_4 : xi_dc cX9_row 4 = some (.ifCond .eq 9, 3) := by decide +kernel
theorem t_X9_row_4 : ((4 : Nat) : Int) + 9 = ((13 : Nat) : Int) := by decide +kernel
theorem i_X9_row_7 : xi_dc cX9_row 7 = some (.iload_n 2, 1) := by decide +kernel
theorem i_X9_row_8 : xi_dc cX9_row 8 = some (.bipush 40, 2) := by decide +kernel
theorem i_X9_row_10 : xi_dc cX9_row 10 = some (.if_icmp .le 5, 3) := by decide +kernel
theorem t_X9_row_10 : ((10 : Nat) : Int) + 5 = ((15 : Nat) : Int) := by decide +kernel
theorem i_X9_row_13 : xi_dc cX9_row 13 = some (.iconst (-1), 1) := by decide +kernel
theorem i_X9_row_14 : xi_dc cX9_row 14 = some (.ireturn, 1) := by decide +kernel
theorem i_X9_row_15 : xi_dc cX9_row 15 = some (.iload_n 2, 1) := by decide +kernel
theorem i_X9_row_16 : xi_dc cX9_row 16 = some (.ifCond .ge 9, 3) := by decide +kernel
theorem t_X9_row_16 : ((16 : Nat) : Int) + 9 = ((25 : Nat) : Int) := by decide +kernel
theorem i_X9_row_19 : xi_dc cX9_row 19 = some (.aload_n 0, 1) := by decide +kernel
theorem i_X9_row_20 : xi_dc cX9_row 20 = some (.iconst 5, 1) := by decide +kernel
theorem i_X9_row_21 : xi_dc cX9_row 21 = some (.invokevirtual 71, 3) := by decide +kernel
theorem i_X9_row_24 : xi_dc cX9_row 24 = some (.ireturn, 1) := by decide +kernel
theorem i_X9_row_25 : xi_dc cX9_row 25 = some (.aload_n 0, 1) := by decide +kernel
theorem i_X9_row_26 : xi_dc cX9_row 26 = some (.getfield 7, 3) := by decide +kernel
theorem i_X9_row_29 : xi_dc cX9_row 29 = some (.iload_n 1, 1) := by decide +kernel
theorem i_X9_row_30 : xi_dc cX9_row 30 = some (.iload_n 2, 1) := by decide +kernel
theorem i_X9_row_31 : xi_dc cX9_row 31 = some (.iastore, 1) := by decide +kernel
theorem i_X9_row_32 : xi_dc cX9_row 32 = some (.iconst 0, 1) := by decide +kernel
theorem i_X9_row_33 : xi_dc cX9_row 33 = some (.istore_n 3, 1) := by decide +kernel
theorem i_X9_row_34 : xi_dc cX9_row 34 = some (.iload_n 3, 1) := by decide +kernel
theorem i_X9_row_35 : xi_dc cX9_row 35 = some (.bipush 40, 2) := by decide +kernel
theorem i_X9_row_37 : xi_dc cX9_row 37 = some (.if_icmp .ge 21, 3) := by decide +kernel
theorem t_X9_row_37 : ((37 : Nat) : Int) + 21 = ((58 : Nat) : Int) := by decide +kernel
theorem i_X9_row_40 : xi_dc cX9_row 40 = some (.aload_n 0, 1) := by decide +kernel
theorem i_X9_row_41 : xi_dc cX9_row 41 = some (.getfield 13, 3) := by decide +kernel
theorem i_X9_row_44 : xi_dc cX9_row 44 = some (.bipush 40, 2) := by decide +kernel
theorem i_X9_row_46 : xi_dc cX9_row 46 = some (.iload_n 1, 1) := by decide +kernel
theorem i_X9_row_47 : xi_dc cX9_row 47 = some (.imul, 1) := by decide +kernel
theorem i_X9_row_48 : xi_dc cX9_row 48 = some (.iload_n 3, 1) := by decide +kernel
theorem i_X9_row_49 : xi_dc cX9_row 49 = some (.iadd, 1) := by decide +kernel
theorem i_X9_row_50 : xi_dc cX9_row 50 = some (.iconst 0, 1) := by decide +kernel
theorem i_X9_row_51 : xi_dc cX9_row 51 = some (.iastore, 1) := by decide +kernel
theorem i_X9_row_52 : xi_dc cX9_row 52 = some (.iinc 3 1, 3) := by decide +kernel
theorem i_X9_row_55 : xi_dc cX9_row 55 = some (.goto (-21), 3) := by decide +kernel
theorem t_X9_row_55 : ((55 : Nat) : Int) + (-21) = ((34 : Nat) : Int) := by decide +kernel
theorem i_X9_row_58 : xi_dc cX9_row 58 = some (.iload_n 2, 1) := by decide +kernel
theorem i_X9_row_59 : xi_dc cX9_row 59 = some (.ireturn, 1) := by decide +kernel
def P_X9_row (S : xi_S) : xi_P := (xi_dc cX9_row, xi_tab xfl_X9, xi_tab xki_X9, xi_tab xkl_X9, xi_tab xcs_X9, xi_tab xcv_X9, xi_calls [(67, xi_wS 1 (F_X9_isRow S))], xi_calls [(71, xi_wV S 11 1 (F_X9_found S))], 1)
theorem cc_X9_row_67 (S : xi_S) (a0 : Int32) (m : xi_M) : (P_X9_row S).2.2.2.2.2.2.1 67 [.int a0] m = (E_X9_isRow S a0 m) := by
  show xi_calls [(67, xi_wS 1 (F_X9_isRow S))] 67 [.int a0] m = _
  refine Eq.trans (b := xi_wS 1 (F_X9_isRow S) [.int a0] m) (xi_calls_hit rfl) ?_
  exact xi_wS_eq rfl
theorem cc_X9_row_71 (S : xi_S) (a0 : Nat) (a1 : Int32) (m : xi_M) : (P_X9_row S).2.2.2.2.2.2.2.1 71 [.ref a0, .int a1] m = (if S.1 a0 = 11 then E_X9_found S a0 a1 m else none) := by
  show xi_calls [(71, xi_wV S 11 1 (F_X9_found S))] 71 [.ref a0, .int a1] m = _
  refine Eq.trans (b := xi_wV S 11 1 (F_X9_found S) [.ref a0, .int a1] m) (xi_calls_hit rfl) ?_
  exact xi_wV_eq rfl
def G_X9_row_34 (S : xi_S) : Nat → Nat → Int32 → Int32 → Int32 → xi_M → Option xi_R
  | 0, _, _, _, _, _ => none
  | n + 1, v0, v1, v2, v3, m =>
    if ((Int8.ofInt 40).toInt32) ≤ v3 then
      some (some (.int v2), m)
    else
      if S.1 v0 = 11 then (S.2.2 v0 1).bind fun b2 =>
        if S.1 b2 = 0 ∧ ¬ (((((Int8.ofInt 40).toInt32) * v1) + v3) < 0 ∨ S.2.1 b2 ≤ Int32.toNatClampNeg ((((Int8.ofInt 40).toInt32) * v1) + v3)) then
          G_X9_row_34 S n v0 v1 v2 (v3 + Int32.ofInt 1) (xi_wI m b2 (Int32.toNatClampNeg ((((Int8.ofInt 40).toInt32) * v1) + v3)) (Int32.ofInt 0))
        else none
      else none
set_option maxRecDepth 100000 in
set_option maxHeartbeats 4000000 in
theorem xs_X9_row_34 {S : xi_S} {res : xi_R} : ∀ (n : Nat) (v0 : Nat) (v1 : Int32) (v2 : Int32) (v3 : Int32) (m : xi_M), G_X9_row_34 S n v0 v1 v2 v3 m = some res → xi_X S (P_X9_row S) (34, [some (.ref v0), some (.int v1), some (.int v2), some (.int v3)], [], m) res := by
  intro n
  induction n with
  | zero => intro v0 v1 v2 v3 m h; exact xi_no h
  | succ n ih =>
    intro v0 v1 v2 v3 m h
    unfold G_X9_row_34 at h
    refine xr_iload_n i_X9_row_34 rfl (q := 35) rfl ?_
    refine xr_bipush i_X9_row_35 (q := 37) rfl ?_
    by_cases c4 : ((Int8.ofInt 40).toInt32) ≤ v3
    · replace h := (if_pos c4).symm.trans h
      refine xr_if_icmp_ge_p i_X9_row_37 c4 (q := 58) t_X9_row_37 (q2 := 40) rfl ?_
      refine xr_iload_n i_X9_row_58 rfl (q := 59) rfl ?_
      exact xr_ireturn i_X9_row_59 rfl h
    · replace h := (if_neg c4).symm.trans h
      refine xr_if_icmp_ge_n i_X9_row_37 c4 (q := 58) t_X9_row_37 (q2 := 40) rfl ?_
      refine xr_aload_n i_X9_row_40 rfl (q := 41) rfl ?_
      obtain ⟨c1, h⟩ := xi_if_some h
      obtain ⟨b2, eb2, h⟩ := xi_bind_some h
      refine xr_getR i_X9_row_41 xfe_X9_13 c1 eb2 (q := 44) rfl ?_
      refine xr_bipush i_X9_row_44 (q := 46) rfl ?_
      refine xr_iload_n i_X9_row_46 rfl (q := 47) rfl ?_
      refine xr_imul i_X9_row_47 (q := 48) rfl ?_
      refine xr_iload_n i_X9_row_48 rfl (q := 49) rfl ?_
      refine xr_iadd i_X9_row_49 (q := 50) rfl ?_
      refine xr_iconst i_X9_row_50 (q := 51) rfl ?_
      obtain ⟨c3, h⟩ := xi_if_some h
      refine xr_iastore i_X9_row_51 c3 (q := 52) rfl ?_
      refine xr_iinc i_X9_row_52 rfl rfl (L2 := [some (.ref v0), some (.int v1), some (.int v2), some (.int (v3 + Int32.ofInt 1))]) rfl (q := 55) rfl ?_
      refine xr_goto i_X9_row_55 (q := 34) t_X9_row_55 ?_
      exact xi_X_le (xi_le_s (xi_le_s (xi_le_s (xi_le_s xi_le_z)))) (ih _ _ _ _ _ h)
def E_X9_row (S : xi_S) (v0 : Nat) (v1 : Int32) (v2 : Int32) (m : xi_M) : Option xi_R :=
  xi_bI (E_X9_isRow S v1 m) fun x2 m1 =>
  if x2 = 0 then
    some (some (.int (Int32.ofInt (-1))), m1)
  else
    if v2 ≤ ((Int8.ofInt 40).toInt32) then
      if 0 ≤ v2 then
        if S.1 v0 = 11 then (S.2.2 v0 0).bind fun b4 =>
          if S.1 b4 = 0 ∧ ¬ (v1 < 0 ∨ S.2.1 b4 ≤ Int32.toNatClampNeg v1) then
            G_X9_row_34 S 10000 v0 v1 v2 (Int32.ofInt 0) (xi_wI m1 b4 (Int32.toNatClampNeg v1) v2)
          else none
        else none
      else
        xi_bI (if S.1 v0 = 11 then E_X9_found S v0 (Int32.ofInt 5) m1 else none) fun x7 m6 =>
        some (some (.int x7), m6)
    else
      some (some (.int (Int32.ofInt (-1))), m1)
def F_X9_row (S : xi_S) : xi_F := fun As m => match As with
  | [.ref v0, .int v1, .int v2] => E_X9_row S v0 v1 v2 m
  | _ => none
set_option maxRecDepth 100000 in
set_option maxHeartbeats 4000000 in
theorem xe_X9_row {S : xi_S} {res : xi_R} (v0 : Nat) (v1 : Int32) (v2 : Int32) (m : xi_M) (h : E_X9_row S v0 v1 v2 m = some res) : xi_X S (P_X9_row S) (0, [some (.ref v0), some (.int v1), some (.int v2), none], [], m) res := by
  unfold E_X9_row at h
  refine xr_iload_n i_X9_row_0 rfl (q := 1) rfl ?_
  obtain ⟨x2, m1, em1, h⟩ := xi_bI_some h
  refine xr_SI i_X9_row_1 xcse_X9_67 rfl (As := [.int v1]) rfl (rest := []) rfl ((cc_X9_row_67 S _ _).trans em1) (q := 4) rfl ?_
  by_cases c10 : x2 = 0
  · replace h := (if_pos c10).symm.trans h
    refine xr_ifCond_eq_p i_X9_row_4 c10 (q := 13) t_X9_row_4 (q2 := 7) rfl ?_
    refine xr_iconst i_X9_row_13 (q := 14) rfl ?_
    exact xr_ireturn i_X9_row_14 rfl h
  · replace h := (if_neg c10).symm.trans h
    refine xr_ifCond_eq_n i_X9_row_4 c10 (q := 13) t_X9_row_4 (q2 := 7) rfl ?_
    refine xr_iload_n i_X9_row_7 rfl (q := 8) rfl ?_
    refine xr_bipush i_X9_row_8 (q := 10) rfl ?_
    by_cases c9 : v2 ≤ ((Int8.ofInt 40).toInt32)
    · replace h := (if_pos c9).symm.trans h
      refine xr_if_icmp_le_p i_X9_row_10 c9 (q := 15) t_X9_row_10 (q2 := 13) rfl ?_
      refine xr_iload_n i_X9_row_15 rfl (q := 16) rfl ?_
      by_cases c8 : 0 ≤ v2
      · replace h := (if_pos c8).symm.trans h
        refine xr_ifCond_ge_p i_X9_row_16 c8 (q := 25) t_X9_row_16 (q2 := 19) rfl ?_
        refine xr_aload_n i_X9_row_25 rfl (q := 26) rfl ?_
        obtain ⟨c3, h⟩ := xi_if_some h
        obtain ⟨b4, eb4, h⟩ := xi_bind_some h
        refine xr_getR i_X9_row_26 xfe_X9_7 c3 eb4 (q := 29) rfl ?_
        refine xr_iload_n i_X9_row_29 rfl (q := 30) rfl ?_
        refine xr_iload_n i_X9_row_30 rfl (q := 31) rfl ?_
        obtain ⟨c5, h⟩ := xi_if_some h
        refine xr_iastore i_X9_row_31 c5 (q := 32) rfl ?_
        refine xr_iconst i_X9_row_32 (q := 33) rfl ?_
        refine xr_istore_n i_X9_row_33 rfl (L2 := [some (.ref v0), some (.int v1), some (.int v2), some (.int (Int32.ofInt 0))]) rfl (q := 34) rfl ?_
        exact xi_X_le (xi_le_s (xi_le_s (xi_le_s (xi_le_s xi_le_z)))) (xs_X9_row_34 10000 _ _ _ _ _ h)
      · replace h := (if_neg c8).symm.trans h
        refine xr_ifCond_ge_n i_X9_row_16 c8 (q := 25) t_X9_row_16 (q2 := 19) rfl ?_
        refine xr_aload_n i_X9_row_19 rfl (q := 20) rfl ?_
        refine xr_iconst i_X9_row_20 (q := 21) rfl ?_
        obtain ⟨x7, m6, em6, h⟩ := xi_bI_some h
        refine xr_VI i_X9_row_21 xcve_X9_71 rfl (As := [.ref v0, .int (Int32.ofInt 5)]) rfl (rest := []) rfl ((cc_X9_row_71 S _ _ _).trans em6) (q := 24) rfl ?_
        exact xr_ireturn i_X9_row_24 rfl h
    · replace h := (if_neg c9).symm.trans h
      refine xr_if_icmp_le_n i_X9_row_10 c9 (q := 15) t_X9_row_10 (q2 := 13) rfl ?_
      refine xr_iconst i_X9_row_13 (q := 14) rfl ?_
      exact xr_ireturn i_X9_row_14 rfl h
set_option maxRecDepth 100000 in
theorem po_X9_row {l : Launch} {E : xi_E} {S : xi_S} {D : va_G} {tys : List (ClassId × FieldType)} (hC : xCx E S tys) : xi_Pok l E S D vwCl tys xNs RX9 xTs cX9_row 4 2 (P_X9_row S) := ⟨xi_dc_ok, by rw [hC.2]; exact xfo_X9, xkio_X9, xklo_X9, xi_calls_ok (ins := .invokestatic) (List.forall_mem_cons.mpr ⟨(xc_X9_67 (sn_X9_isRow hC) (by decide)), fun _ h => absurd h List.not_mem_nil⟩), xi_calls_ok (ins := .invokevirtual) (List.forall_mem_cons.mpr ⟨(xc_X9_71 hC.1 (sn_X9_found hC) (by decide)), fun _ h => absurd h List.not_mem_nil⟩)⟩
theorem sn_X9_row {l : Launch} {E : xi_E} {S : xi_S} {D : va_G} {tys : List (ClassId × FieldType)} (hC : xCx E S tys) : ∀ As m1 r m2, F_X9_row S As m1 = some (r, m2) → xi_Sound l E S D vwCl tys xNs xTs yX9_row cX9_row 4 (some .int) 2 As m1 r m2 := by
  intro As m1 r m2 h
  unfold F_X9_row at h
  split at h
  · exact xi_meth (P := P_X9_row S) (by decide) hC.1 (po_X9_row hC) (Nat.le_of_ble_eq_true rfl) rfl (xe_X9_row _ _ _ _ h)
  · exact xi_no h
theorem i_X9_lay_0 : xi_dc cX9_lay 0 = some (.iload_n 1, 1) := by decide +kernel
theorem i_X9_lay_1 : xi_dc cX9_lay 1 = some (.invokestatic 67, 3) := by decide +kernel
theorem i_X9_lay_4 : xi_dc cX9_lay 4 = some (.ifCond .ne 5, 3) := by decide +kernel
theorem t_X9_lay_4 : ((4 : Nat) : Int) + 5 = ((9 : Nat) : Int) := by decide +kernel
theorem i_X9_lay_7 : xi_dc cX9_lay 7 = some (.iconst (-1), 1) := by decide +kernel
theorem i_X9_lay_8 : xi_dc cX9_lay 8 = some (.ireturn, 1) := by decide +kernel
theorem i_X9_lay_9 : xi_dc cX9_lay 9 = some (.aload_n 0, 1) := by decide +kernel
theorem i_X9_lay_10 : xi_dc cX9_lay 10 = some (.getfield 7, 3) := by decide +kernel
theorem i_X9_lay_13 : xi_dc cX9_lay 13 = some (.iload_n 1, 1) := by decide +kernel
theorem i_X9_lay_14 : xi_dc cX9_lay 14 = some (.iaload, 1) := by decide +kernel
theorem i_X9_lay_15 : xi_dc cX9_lay 15 = some (.bipush (-9), 2) := by decide +kernel
theorem i_X9_lay_17 : xi_dc cX9_lay 17 = some (.if_icmp .ne 9, 3) := by decide +kernel
theorem t_X9_lay_17 : ((17 : Nat) : Int) + 9 = ((26 : Nat) : Int) := by decide +kernel
theorem i_X9_lay_20 : xi_dc cX9_lay 20 = some (.aload_n 0, 1) := by decide +kernel
theorem i_X9_lay_21 : xi_dc cX9_lay 21 = some (.iconst 1, 1) := by decide +kernel
theorem i_X9_lay_22 : xi_dc cX9_lay 22 = some (.invokevirtual 71, 3) := by decide +kernel
theorem i_X9_lay_25 : xi_dc cX9_lay 25 = some (.ireturn, 1) := by decide +kernel
theorem i_X9_lay_26 : xi_dc cX9_lay 26 = some (.iload_n 2, 1) := by decide +kernel
theorem i_X9_lay_27 : xi_dc cX9_lay 27 = some (.iconst 0, 1) := by decide +kernel
theorem i_X9_lay_28 : xi_dc cX9_lay 28 = some (.aload_n 0, 1) := by decide +kernel
theorem i_X9_lay_29 : xi_dc cX9_lay 29 = some (.getfield 7, 3) := by decide +kernel
theorem i_X9_lay_32 : xi_dc cX9_lay 32 = some (.iload_n 1, 1) := by decide +kernel
theorem i_X9_lay_33 : xi_dc cX9_lay 33 = some (.iaload, 1) := by decide +kernel
theorem i_X9_lay_34 : xi_dc cX9_lay 34 = some (.iconst 1, 1) := by decide +kernel
theorem i_X9_lay_35 : xi_dc cX9_lay 35 = some (.isub, 1) := by decide +kernel
theorem i_X9_lay_36 : xi_dc cX9_lay 36 = some (.invokestatic 63, 3) := by decide +kernel
theorem i_X9_lay_39 : xi_dc cX9_lay 39 = some (.ifCond .ne 9, 3) := by decide +kernel
theorem t_X9_lay_39 : ((39 : Nat) : Int) + 9 = ((48 : Nat) : Int) := by decide +kernel
theorem i_X9_lay_42 : xi_dc cX9_lay 42 = some (.aload_n 0, 1) := by decide +kernel
theorem i_X9_lay_43 : xi_dc cX9_lay 43 = some (.iconst 2, 1) := by decide +kernel
theorem i_X9_lay_44 : xi_dc cX9_lay 44 = some (.invokevirtual 71, 3) := by decide +kernel
theorem i_X9_lay_47 : xi_dc cX9_lay 47 = some (.ireturn, 1) := by decide +kernel
theorem i_X9_lay_48 : xi_dc cX9_lay 48 = some (.aload_n 0, 1) := by decide +kernel
theorem i_X9_lay_49 : xi_dc cX9_lay 49 = some (.getfield 13, 3) := by decide +kernel
theorem i_X9_lay_52 : xi_dc cX9_lay 52 = some (.bipush 40, 2) := by decide +kernel
theorem i_X9_lay_54 : xi_dc cX9_lay 54 = some (.iload_n 1, 1) := by decide +kernel
theorem i_X9_lay_55 : xi_dc cX9_lay 55 = some (.imul, 1) := by decide +kernel
theorem i_X9_lay_56 : xi_dc cX9_lay 56 = some (.iload_n 2, 1) := by decide +kernel
theorem i_X9_lay_57 : xi_dc cX9_lay 57 = some (.iadd, 1) := by decide +kernel
theorem i_X9_lay_58 : xi_dc cX9_lay 58 = some (.iaload, 1) := by decide +kernel
theorem i_X9_lay_59 : xi_dc cX9_lay 59 = some (.istore 4, 2) := by decide +kernel
theorem i_X9_lay_61 : xi_dc cX9_lay 61 = some (.aload_n 0, 1) := by decide +kernel
theorem i_X9_lay_62 : xi_dc cX9_lay 62 = some (.getfield 13, 3) := by decide +kernel
theorem i_X9_lay_65 : xi_dc cX9_lay 65 = some (.bipush 40, 2) := by decide +kernel
theorem i_X9_lay_67 : xi_dc cX9_lay 67 = some (.iload_n 1, 1) := by decide +kernel
theorem i_X9_lay_68 : xi_dc cX9_lay 68 = some (.imul, 1) := by decide +kernel
theorem i_X9_lay_69 : xi_dc cX9_lay 69 = some (.iload_n 2, 1) := by decide +kernel
theorem i_X9_lay_70 : xi_dc cX9_lay 70 = some (.iadd, 1) := by decide +kernel
theorem i_X9_lay_71 : xi_dc cX9_lay 71 = some (.iload_n 3, 1) := by decide +kernel
theorem i_X9_lay_72 : xi_dc cX9_lay 72 = some (.iastore, 1) := by decide +kernel
theorem i_X9_lay_73 : xi_dc cX9_lay 73 = some (.aload_n 0, 1) := by decide +kernel
theorem i_X9_lay_74 : xi_dc cX9_lay 74 = some (.iload 4, 2) := by decide +kernel
theorem i_X9_lay_76 : xi_dc cX9_lay 76 = some (.invokevirtual 75, 3) := by decide +kernel
theorem i_X9_lay_79 : xi_dc cX9_lay 79 = some (.ireturn, 1) := by decide +kernel
def P_X9_lay (S : xi_S) : xi_P := (xi_dc cX9_lay, xi_tab xfl_X9, xi_tab xki_X9, xi_tab xkl_X9, xi_tab xcs_X9, xi_tab xcv_X9, xi_calls [(63, xi_wS 3 (F_X9_in0 S)), (67, xi_wS 1 (F_X9_isRow S))], xi_calls [(71, xi_wV S 11 1 (F_X9_found S)), (75, xi_wV S 11 1 (F_X9_tells S))], 1)
theorem cc_X9_lay_63 (S : xi_S) (a0 : Int32) (a1 : Int32) (a2 : Int32) (m : xi_M) : (P_X9_lay S).2.2.2.2.2.2.1 63 [.int a0, .int a1, .int a2] m = (E_X9_in0 S a0 a1 a2 m) := by
  show xi_calls [(63, xi_wS 3 (F_X9_in0 S)), (67, xi_wS 1 (F_X9_isRow S))] 63 [.int a0, .int a1, .int a2] m = _
  refine Eq.trans (b := xi_wS 3 (F_X9_in0 S) [.int a0, .int a1, .int a2] m) (xi_calls_hit rfl) ?_
  exact xi_wS_eq rfl
theorem cc_X9_lay_67 (S : xi_S) (a0 : Int32) (m : xi_M) : (P_X9_lay S).2.2.2.2.2.2.1 67 [.int a0] m = (E_X9_isRow S a0 m) := by
  show xi_calls [(63, xi_wS 3 (F_X9_in0 S)), (67, xi_wS 1 (F_X9_isRow S))] 67 [.int a0] m = _
  refine Eq.trans (b := xi_calls [(67, xi_wS 1 (F_X9_isRow S))] 67 [.int a0] m) (xi_calls_miss rfl) ?_
  refine Eq.trans (b := xi_wS 1 (F_X9_isRow S) [.int a0] m) (xi_calls_hit rfl) ?_
  exact xi_wS_eq rfl
theorem cc_X9_lay_71 (S : xi_S) (a0 : Nat) (a1 : Int32) (m : xi_M) : (P_X9_lay S).2.2.2.2.2.2.2.1 71 [.ref a0, .int a1] m = (if S.1 a0 = 11 then E_X9_found S a0 a1 m else none) := by
  show xi_calls [(71, xi_wV S 11 1 (F_X9_found S)), (75, xi_wV S 11 1 (F_X9_tells S))] 71 [.ref a0, .int a1] m = _
  refine Eq.trans (b := xi_wV S 11 1 (F_X9_found S) [.ref a0, .int a1] m) (xi_calls_hit rfl) ?_
  exact xi_wV_eq rfl
theorem cc_X9_lay_75 (S : xi_S) (a0 : Nat) (a1 : Int32) (m : xi_M) : (P_X9_lay S).2.2.2.2.2.2.2.1 75 [.ref a0, .int a1] m = (if S.1 a0 = 11 then E_X9_tells S a0 a1 m else none) := by
  show xi_calls [(71, xi_wV S 11 1 (F_X9_found S)), (75, xi_wV S 11 1 (F_X9_tells S))] 75 [.ref a0, .int a1] m = _
  refine Eq.trans (b := xi_calls [(75, xi_wV S 11 1 (F_X9_tells S))] 75 [.ref a0, .int a1] m) (xi_calls_miss rfl) ?_
  refine Eq.trans (b := xi_wV S 11 1 (F_X9_tells S) [.ref a0, .int a1] m) (xi_calls_hit rfl) ?_
  exact xi_wV_eq rfl
def E_X9_lay (S : xi_S) (v0 : Nat) (v1 : Int32) (v2 : Int32) (v3 : Int32) (m : xi_M) : Option xi_R :=
  xi_bI (E_X9_isRow S v1 m) fun x2 m1 =>
  if x2 = 0 then
    some (some (.int (Int32.ofInt (-1))), m1)
  else
    if S.1 v0 = 11 then (S.2.2 v0 0).bind fun b4 =>
      if S.1 b4 = 0 ∧ ¬ (v1 < 0 ∨ S.2.1 b4 ≤ Int32.toNatClampNeg v1) then
        if (m1.1 b4 (Int32.toNatClampNeg v1)) = ((Int8.ofInt (-9)).toInt32) then
          xi_bI (if S.1 v0 = 11 then E_X9_found S v0 (Int32.ofInt 1) m1 else none) fun x23 m22 =>
          some (some (.int x23), m22)
        else
          if S.1 v0 = 11 then (S.2.2 v0 0).bind fun b7 =>
            if S.1 b7 = 0 ∧ ¬ (v1 < 0 ∨ S.2.1 b7 ≤ Int32.toNatClampNeg v1) then
              xi_bI (E_X9_in0 S v2 (Int32.ofInt 0) ((m1.1 b7 (Int32.toNatClampNeg v1)) - (Int32.ofInt 1)) m1) fun x10 m9 =>
              if x10 = 0 then
                xi_bI (if S.1 v0 = 11 then E_X9_found S v0 (Int32.ofInt 2) m9 else none) fun x20 m19 =>
                some (some (.int x20), m19)
              else
                if S.1 v0 = 11 then (S.2.2 v0 1).bind fun b12 =>
                  if S.1 b12 = 0 ∧ ¬ (((((Int8.ofInt 40).toInt32) * v1) + v2) < 0 ∨ S.2.1 b12 ≤ Int32.toNatClampNeg ((((Int8.ofInt 40).toInt32) * v1) + v2)) then
                    if S.1 v0 = 11 then (S.2.2 v0 1).bind fun b15 =>
                      if S.1 b15 = 0 ∧ ¬ (((((Int8.ofInt 40).toInt32) * v1) + v2) < 0 ∨ S.2.1 b15 ≤ Int32.toNatClampNeg ((((Int8.ofInt 40).toInt32) * v1) + v2)) then
                        xi_bI (if S.1 v0 = 11 then E_X9_tells S v0 (m9.1 b12 (Int32.toNatClampNeg ((((Int8.ofInt 40).toInt32) * v1) + v2))) (xi_wI m9 b15 (Int32.toNatClampNeg ((((Int8.ofInt 40).toInt32) * v1) + v2)) v3) else none) fun x18 m17 =>
                        some (some (.int x18), m17)
                      else none
                    else none
                  else none
                else none
            else none
          else none
      else none
    else none
def F_X9_lay (S : xi_S) : xi_F := fun As m => match As with
  | [.ref v0, .int v1, .int v2, .int v3] => E_X9_lay S v0 v1 v2 v3 m
  | _ => none
set_option maxRecDepth 100000 in
set_option maxHeartbeats 4000000 in
theorem xe_X9_lay {S : xi_S} {res : xi_R} (v0 : Nat) (v1 : Int32) (v2 : Int32) (v3 : Int32) (m : xi_M) (h : E_X9_lay S v0 v1 v2 v3 m = some res) : xi_X S (P_X9_lay S) (0, [some (.ref v0), some (.int v1), some (.int v2), some (.int v3), none], [], m) res := by
  unfold E_X9_lay at h
  refine xr_iload_n i_X9_lay_0 rfl (q := 1) rfl ?_
  obtain ⟨x2, m1, em1, h⟩ := xi_bI_some h
  refine xr_SI i_X9_lay_1 xcse_X9_67 rfl (As := [.int v1]) rfl (rest := []) rfl ((cc_X9_lay_67 S _ _).trans em1) (q := 4) rfl ?_
  by_cases c25 : x2 = 0
  · replace h := (if_pos c25).symm.trans h
    refine xr_ifCond_ne_p i_X9_lay_4 c25 (q := 9) t_X9_lay_4 (q2 := 7) rfl ?_
    refine xr_iconst i_X9_lay_7 (q := 8) rfl ?_
    exact xr_ireturn i_X9_lay_8 rfl h
  · replace h := (if_neg c25).symm.trans h
    refine xr_ifCond_ne_n i_X9_lay_4 c25 (q := 9) t_X9_lay_4 (q2 := 7) rfl ?_
    refine xr_aload_n i_X9_lay_9 rfl (q := 10) rfl ?_
    obtain ⟨c3, h⟩ := xi_if_some h
    obtain ⟨b4, eb4, h⟩ := xi_bind_some h
    refine xr_getR i_X9_lay_10 xfe_X9_7 c3 eb4 (q := 13) rfl ?_
    refine xr_iload_n i_X9_lay_13 rfl (q := 14) rfl ?_
    obtain ⟨c5, h⟩ := xi_if_some h
    refine xr_iaload i_X9_lay_14 c5 (q := 15) rfl ?_
    refine xr_bipush i_X9_lay_15 (q := 17) rfl ?_
    by_cases c24 : (m1.1 b4 (Int32.toNatClampNeg v1)) = ((Int8.ofInt (-9)).toInt32)
    · replace h := (if_pos c24).symm.trans h
      refine xr_if_icmp_ne_p i_X9_lay_17 c24 (q := 26) t_X9_lay_17 (q2 := 20) rfl ?_
      refine xr_aload_n i_X9_lay_20 rfl (q := 21) rfl ?_
      refine xr_iconst i_X9_lay_21 (q := 22) rfl ?_
      obtain ⟨x23, m22, em22, h⟩ := xi_bI_some h
      refine xr_VI i_X9_lay_22 xcve_X9_71 rfl (As := [.ref v0, .int (Int32.ofInt 1)]) rfl (rest := []) rfl ((cc_X9_lay_71 S _ _ _).trans em22) (q := 25) rfl ?_
      exact xr_ireturn i_X9_lay_25 rfl h
    · replace h := (if_neg c24).symm.trans h
      refine xr_if_icmp_ne_n i_X9_lay_17 c24 (q := 26) t_X9_lay_17 (q2 := 20) rfl ?_
      refine xr_iload_n i_X9_lay_26 rfl (q := 27) rfl ?_
      refine xr_iconst i_X9_lay_27 (q := 28) rfl ?_
      refine xr_aload_n i_X9_lay_28 rfl (q := 29) rfl ?_
      obtain ⟨c6, h⟩ := xi_if_some h
      obtain ⟨b7, eb7, h⟩ := xi_bind_some h
      refine xr_getR i_X9_lay_29 xfe_X9_7 c6 eb7 (q := 32) rfl ?_
      refine xr_iload_n i_X9_lay_32 rfl (q := 33) rfl ?_
      obtain ⟨c8, h⟩ := xi_if_some h
      refine xr_iaload i_X9_lay_33 c8 (q := 34) rfl ?_
      refine xr_iconst i_X9_lay_34 (q := 35) rfl ?_
      refine xr_isub i_X9_lay_35 (q := 36) rfl ?_
      obtain ⟨x10, m9, em9, h⟩ := xi_bI_some h
      refine xr_SI i_X9_lay_36 xcse_X9_63 rfl (As := [.int v2, .int (Int32.ofInt 0), .int ((m1.1 b7 (Int32.toNatClampNeg v1)) - (Int32.ofInt 1))]) rfl (rest := []) rfl ((cc_X9_lay_63 S _ _ _ _).trans em9) (q := 39) rfl ?_
      by_cases c21 : x10 = 0
      · replace h := (if_pos c21).symm.trans h
        refine xr_ifCond_ne_p i_X9_lay_39 c21 (q := 48) t_X9_lay_39 (q2 := 42) rfl ?_
        refine xr_aload_n i_X9_lay_42 rfl (q := 43) rfl ?_
        refine xr_iconst i_X9_lay_43 (q := 44) rfl ?_
        obtain ⟨x20, m19, em19, h⟩ := xi_bI_some h
        refine xr_VI i_X9_lay_44 xcve_X9_71 rfl (As := [.ref v0, .int (Int32.ofInt 2)]) rfl (rest := []) rfl ((cc_X9_lay_71 S _ _ _).trans em19) (q := 47) rfl ?_
        exact xr_ireturn i_X9_lay_47 rfl h
      · replace h := (if_neg c21).symm.trans h
        refine xr_ifCond_ne_n i_X9_lay_39 c21 (q := 48) t_X9_lay_39 (q2 := 42) rfl ?_
        refine xr_aload_n i_X9_lay_48 rfl (q := 49) rfl ?_
        obtain ⟨c11, h⟩ := xi_if_some h
        obtain ⟨b12, eb12, h⟩ := xi_bind_some h
        refine xr_getR i_X9_lay_49 xfe_X9_13 c11 eb12 (q := 52) rfl ?_
        refine xr_bipush i_X9_lay_52 (q := 54) rfl ?_
        refine xr_iload_n i_X9_lay_54 rfl (q := 55) rfl ?_
        refine xr_imul i_X9_lay_55 (q := 56) rfl ?_
        refine xr_iload_n i_X9_lay_56 rfl (q := 57) rfl ?_
        refine xr_iadd i_X9_lay_57 (q := 58) rfl ?_
        obtain ⟨c13, h⟩ := xi_if_some h
        refine xr_iaload i_X9_lay_58 c13 (q := 59) rfl ?_
        refine xr_istore i_X9_lay_59 rfl (L2 := [some (.ref v0), some (.int v1), some (.int v2), some (.int v3), some (.int (m9.1 b12 (Int32.toNatClampNeg ((((Int8.ofInt 40).toInt32) * v1) + v2))))]) rfl (q := 61) rfl ?_
        refine xr_aload_n i_X9_lay_61 rfl (q := 62) rfl ?_
        obtain ⟨c14, h⟩ := xi_if_some h
        obtain ⟨b15, eb15, h⟩ := xi_bind_some h
        refine xr_getR i_X9_lay_62 xfe_X9_13 c14 eb15 (q := 65) rfl ?_
        refine xr_bipush i_X9_lay_65 (q := 67) rfl ?_
        refine xr_iload_n i_X9_lay_67 rfl (q := 68) rfl ?_
        refine xr_imul i_X9_lay_68 (q := 69) rfl ?_
        refine xr_iload_n i_X9_lay_69 rfl (q := 70) rfl ?_
        refine xr_iadd i_X9_lay_70 (q := 71) rfl ?_
        refine xr_iload_n i_X9_lay_71 rfl (q := 72) rfl ?_
        obtain ⟨c16, h⟩ := xi_if_some h
        refine xr_iastore i_X9_lay_72 c16 (q := 73) rfl ?_
        refine xr_aload_n i_X9_lay_73 rfl (q := 74) rfl ?_
        refine xr_iload i_X9_lay_74 rfl (q := 76) rfl ?_
        obtain ⟨x18, m17, em17, h⟩ := xi_bI_some h
        refine xr_VI i_X9_lay_76 xcve_X9_75 rfl (As := [.ref v0, .int (m9.1 b12 (Int32.toNatClampNeg ((((Int8.ofInt 40).toInt32) * v1) + v2)))]) rfl (rest := []) rfl ((cc_X9_lay_75 S _ _ _).trans em17) (q := 79) rfl ?_
        exact xr_ireturn i_X9_lay_79 rfl h
set_option maxRecDepth 100000 in
theorem po_X9_lay {l : Launch} {E : xi_E} {S : xi_S} {D : va_G} {tys : List (ClassId × FieldType)} (hC : xCx E S tys) : xi_Pok l E S D vwCl tys xNs RX9 xTs cX9_lay 5 2 (P_X9_lay S) := ⟨xi_dc_ok, by rw [hC.2]; exact xfo_X9, xkio_X9, xklo_X9, xi_calls_ok (ins := .invokestatic) (List.forall_mem_cons.mpr ⟨(xc_X9_63 (sn_X9_in0 hC) (by decide)), List.forall_mem_cons.mpr ⟨(xc_X9_67 (sn_X9_isRow hC) (by decide)), fun _ h => absurd h List.not_mem_nil⟩⟩), xi_calls_ok (ins := .invokevirtual) (List.forall_mem_cons.mpr ⟨(xc_X9_71 hC.1 (sn_X9_found hC) (by decide)), List.forall_mem_cons.mpr ⟨(xc_X9_75 hC.1 (sn_X9_tells hC) (by decide)), fun _ h => absurd h List.not_mem_nil⟩⟩)⟩
theorem sn_X9_lay {l : Launch} {E : xi_E} {S : xi_S} {D : va_G} {tys : List (ClassId × FieldType)} (hC : xCx E S tys) : ∀ As m1 r m2, F_X9_lay S As m1 = some (r, m2) → xi_Sound l E S D vwCl tys xNs xTs yX9_lay cX9_lay 5 (some .int) 2 As m1 r m2 := by
  intro As m1 r m2 h
  unfold F_X9_lay at h
  split at h
  · exact xi_meth (P := P_X9_lay S) (by decide) hC.1 (po_X9_lay hC) (Nat.le_of_ble_eq_true rfl) rfl (xe_X9_lay _ _ _ _ _ h)
  · exact xi_no h
theorem i_X9_at_0 : xi_dc cX9_at 0 = some (.iload_n 1, 1) := by decide +kernel
theorem i_X9_at_1 : xi_dc cX9_at 1 = some (.invokestatic 67, 3) := by decide +kernel
theorem i_X9_at_4 : xi_dc cX9_at 4 = some (.ifCond .ne 5, 3) := by decide +kernel
theorem t_X9_at_4 : ((4 : Nat) : Int) + 5 = ((9 : Nat) : Int) := by decide +kernel
theorem i_X9_at_7 : xi_dc cX9_at 7 = some (.iconst (-1), 1) := by decide +kernel
theorem i_X9_at_8 : xi_dc cX9_at 8 = some (.ireturn, 1) := by decide +kernel
theorem i_X9_at_9 : xi_dc cX9_at 9 = some (.aload_n 0, 1) := by decide +kernel
theorem i_X9_at_10 : xi_dc cX9_at 10 = some (.getfield 7, 3) := by decide +kernel
theorem i_X9_at_13 : xi_dc cX9_at 13 = some (.iload_n 1, 1) := by decide +kernel
theorem i_X9_at_14 : xi_dc cX9_at 14 = some (.iaload, 1) := by decide +kernel
theorem i_X9_at_15 : xi_dc cX9_at 15 = some (.bipush (-9), 2) := by decide +kernel
theorem i_X9_at_17 : xi_dc cX9_at 17 = some (.if_icmp .ne 9, 3) := by decide +kernel
theorem t_X9_at_17 : ((17 : Nat) : Int) + 9 = ((26 : Nat) : Int) := by decide +kernel
theorem i_X9_at_20 : xi_dc cX9_at 20 = some (.aload_n 0, 1) := by decide +kernel
theorem i_X9_at_21 : xi_dc cX9_at 21 = some (.iconst 1, 1) := by decide +kernel
theorem i_X9_at_22 : xi_dc cX9_at 22 = some (.invokevirtual 71, 3) := by decide +kernel
theorem i_X9_at_25 : xi_dc cX9_at 25 = some (.ireturn, 1) := by decide +kernel
theorem i_X9_at_26 : xi_dc cX9_at 26 = some (.iload_n 2, 1) := by decide +kernel
theorem i_X9_at_27 : xi_dc cX9_at 27 = some (.iconst 0, 1) := by decide +kernel
theorem i_X9_at_28 : xi_dc cX9_at 28 = some (.aload_n 0, 1) := by decide +kernel
theorem i_X9_at_29 : xi_dc cX9_at 29 = some (.getfield 7, 3) := by decide +kernel
theorem i_X9_at_32 : xi_dc cX9_at 32 = some (.iload_n 1, 1) := by decide +kernel
theorem i_X9_at_33 : xi_dc cX9_at 33 = some (.iaload, 1) := by decide +kernel
theorem i_X9_at_34 : xi_dc cX9_at 34 = some (.iconst 1, 1) := by decide +kernel
theorem i_X9_at_35 : xi_dc cX9_at 35 = some (.isub, 1) := by decide +kernel
theorem i_X9_at_36 : xi_dc cX9_at 36 = some (.invokestatic 63, 3) := by decide +kernel
theorem i_X9_at_39 : xi_dc cX9_at 39 = some (.ifCond .ne 9, 3) := by decide +kernel
theorem t_X9_at_39 : ((39 : Nat) : Int) + 9 = ((48 : Nat) : Int) := by decide +kernel
theorem i_X9_at_42 : xi_dc cX9_at 42 = some (.aload_n 0, 1) := by decide +kernel
theorem i_X9_at_43 : xi_dc cX9_at 43 = some (.iconst 2, 1) := by decide +kernel
theorem i_X9_at_44 : xi_dc cX9_at 44 = some (.invokevirtual 71, 3) := by decide +kernel
theorem i_X9_at_47 : xi_dc cX9_at 47 = some (.ireturn, 1) := by decide +kernel
theorem i_X9_at_48 : xi_dc cX9_at 48 = some (.aload_n 0, 1) := by decide +kernel
theorem i_X9_at_49 : xi_dc cX9_at 49 = some (.aload_n 0, 1) := by decide +kernel
theorem i_X9_at_50 : xi_dc cX9_at 50 = some (.getfield 13, 3) := by decide +kernel
theorem i_X9_at_53 : xi_dc cX9_at 53 = some (.bipush 40, 2) := by decide +kernel
theorem i_X9_at_55 : xi_dc cX9_at 55 = some (.iload_n 1, 1) := by decide +kernel
theorem i_X9_at_56 : xi_dc cX9_at 56 = some (.imul, 1) := by decide +kernel
theorem i_X9_at_57 : xi_dc cX9_at 57 = some (.iload_n 2, 1) := by decide +kernel
theorem i_X9_at_58 : xi_dc cX9_at 58 = some (.iadd, 1) := by decide +kernel
theorem i_X9_at_59 : xi_dc cX9_at 59 = some (.iaload, 1) := by decide +kernel
theorem i_X9_at_60 : xi_dc cX9_at 60 = some (.invokevirtual 75, 3) := by decide +kernel
theorem i_X9_at_63 : xi_dc cX9_at 63 = some (.ireturn, 1) := by decide +kernel
def P_X9_at (S : xi_S) : xi_P := (xi_dc cX9_at, xi_tab xfl_X9, xi_tab xki_X9, xi_tab xkl_X9, xi_tab xcs_X9, xi_tab xcv_X9, xi_calls [(63, xi_wS 3 (F_X9_in0 S)), (67, xi_wS 1 (F_X9_isRow S))], xi_calls [(71, xi_wV S 11 1 (F_X9_found S)), (75, xi_wV S 11 1 (F_X9_tells S))], 1)
theorem cc_X9_at_63 (S : xi_S) (a0 : Int32) (a1 : Int32) (a2 : Int32) (m : xi_M) : (P_X9_at S).2.2.2.2.2.2.1 63 [.int a0, .int a1, .int a2] m = (E_X9_in0 S a0 a1 a2 m) := by
  show xi_calls [(63, xi_wS 3 (F_X9_in0 S)), (67, xi_wS 1 (F_X9_isRow S))] 63 [.int a0, .int a1, .int a2] m = _
  refine Eq.trans (b := xi_wS 3 (F_X9_in0 S) [.int a0, .int a1, .int a2] m) (xi_calls_hit rfl) ?_
  exact xi_wS_eq rfl
theorem cc_X9_at_67 (S : xi_S) (a0 : Int32) (m : xi_M) : (P_X9_at S).2.2.2.2.2.2.1 67 [.int a0] m = (E_X9_isRow S a0 m) := by
  show xi_calls [(63, xi_wS 3 (F_X9_in0 S)), (67, xi_wS 1 (F_X9_isRow S))] 67 [.int a0] m = _
  refine Eq.trans (b := xi_calls [(67, xi_wS 1 (F_X9_isRow S))] 67 [.int a0] m) (xi_calls_miss rfl) ?_
  refine Eq.trans (b := xi_wS 1 (F_X9_isRow S) [.int a0] m) (xi_calls_hit rfl) ?_
  exact xi_wS_eq rfl
theorem cc_X9_at_71 (S : xi_S) (a0 : Nat) (a1 : Int32) (m : xi_M) : (P_X9_at S).2.2.2.2.2.2.2.1 71 [.ref a0, .int a1] m = (if S.1 a0 = 11 then E_X9_found S a0 a1 m else none) := by
  show xi_calls [(71, xi_wV S 11 1 (F_X9_found S)), (75, xi_wV S 11 1 (F_X9_tells S))] 71 [.ref a0, .int a1] m = _
  refine Eq.trans (b := xi_wV S 11 1 (F_X9_found S) [.ref a0, .int a1] m) (xi_calls_hit rfl) ?_
  exact xi_wV_eq rfl
theorem cc_X9_at_75 (S : xi_S) (a0 : Nat) (a1 : Int32) (m : xi_M) : (P_X9_at S).2.2.2.2.2.2.2.1 75 [.ref a0, .int a1] m = (if S.1 a0 = 11 then E_X9_tells S a0 a1 m else none) := by
  show xi_calls [(71, xi_wV S 11 1 (F_X9_found S)), (75, xi_wV S 11 1 (F_X9_tells S))] 75 [.ref a0, .int a1] m = _
  refine Eq.trans (b := xi_calls [(75, xi_wV S 11 1 (F_X9_tells S))] 75 [.ref a0, .int a1] m) (xi_calls_miss rfl) ?_
  refine Eq.trans (b := xi_wV S 11 1 (F_X9_tells S) [.ref a0, .int a1] m) (xi_calls_hit rfl) ?_
  exact xi_wV_eq rfl
def E_X9_at (S : xi_S) (v0 : Nat) (v1 : Int32) (v2 : Int32) (m : xi_M) : Option xi_R :=
  xi_bI (E_X9_isRow S v1 m) fun x2 m1 =>
  if x2 = 0 then
    some (some (.int (Int32.ofInt (-1))), m1)
  else
    if S.1 v0 = 11 then (S.2.2 v0 0).bind fun b4 =>
      if S.1 b4 = 0 ∧ ¬ (v1 < 0 ∨ S.2.1 b4 ≤ Int32.toNatClampNeg v1) then
        if (m1.1 b4 (Int32.toNatClampNeg v1)) = ((Int8.ofInt (-9)).toInt32) then
          xi_bI (if S.1 v0 = 11 then E_X9_found S v0 (Int32.ofInt 1) m1 else none) fun x20 m19 =>
          some (some (.int x20), m19)
        else
          if S.1 v0 = 11 then (S.2.2 v0 0).bind fun b7 =>
            if S.1 b7 = 0 ∧ ¬ (v1 < 0 ∨ S.2.1 b7 ≤ Int32.toNatClampNeg v1) then
              xi_bI (E_X9_in0 S v2 (Int32.ofInt 0) ((m1.1 b7 (Int32.toNatClampNeg v1)) - (Int32.ofInt 1)) m1) fun x10 m9 =>
              if x10 = 0 then
                xi_bI (if S.1 v0 = 11 then E_X9_found S v0 (Int32.ofInt 2) m9 else none) fun x17 m16 =>
                some (some (.int x17), m16)
              else
                if S.1 v0 = 11 then (S.2.2 v0 1).bind fun b12 =>
                  if S.1 b12 = 0 ∧ ¬ (((((Int8.ofInt 40).toInt32) * v1) + v2) < 0 ∨ S.2.1 b12 ≤ Int32.toNatClampNeg ((((Int8.ofInt 40).toInt32) * v1) + v2)) then
                    xi_bI (if S.1 v0 = 11 then E_X9_tells S v0 (m9.1 b12 (Int32.toNatClampNeg ((((Int8.ofInt 40).toInt32) * v1) + v2))) m9 else none) fun x15 m14 =>
                    some (some (.int x15), m14)
                  else none
                else none
            else none
          else none
      else none
    else none
def F_X9_at (S : xi_S) : xi_F := fun As m => match As with
  | [.ref v0, .int v1, .int v2] => E_X9_at S v0 v1 v2 m
  | _ => none
set_option maxRecDepth 100000 in
set_option maxHeartbeats 4000000 in
theorem xe_X9_at {S : xi_S} {res : xi_R} (v0 : Nat) (v1 : Int32) (v2 : Int32) (m : xi_M) (h : E_X9_at S v0 v1 v2 m = some res) : xi_X S (P_X9_at S) (0, [some (.ref v0), some (.int v1), some (.int v2)], [], m) res := by
  unfold E_X9_at at h
  refine xr_iload_n i_X9_at_0 rfl (q := 1) rfl ?_
  obtain ⟨x2, m1, em1, h⟩ := xi_bI_some h
  refine xr_SI i_X9_at_1 xcse_X9_67 rfl (As := [.int v1]) rfl (rest := []) rfl ((cc_X9_at_67 S _ _).trans em1) (q := 4) rfl ?_
  by_cases c22 : x2 = 0
  · replace h := (if_pos c22).symm.trans h
    refine xr_ifCond_ne_p i_X9_at_4 c22 (q := 9) t_X9_at_4 (q2 := 7) rfl ?_
    refine xr_iconst i_X9_at_7 (q := 8) rfl ?_
    exact xr_ireturn i_X9_at_8 rfl h
  · replace h := (if_neg c22).symm.trans h
    refine xr_ifCond_ne_n i_X9_at_4 c22 (q := 9) t_X9_at_4 (q2 := 7) rfl ?_
    refine xr_aload_n i_X9_at_9 rfl (q := 10) rfl ?_
    obtain ⟨c3, h⟩ := xi_if_some h
    obtain ⟨b4, eb4, h⟩ := xi_bind_some h
    refine xr_getR i_X9_at_10 xfe_X9_7 c3 eb4 (q := 13) rfl ?_
    refine xr_iload_n i_X9_at_13 rfl (q := 14) rfl ?_
    obtain ⟨c5, h⟩ := xi_if_some h
    refine xr_iaload i_X9_at_14 c5 (q := 15) rfl ?_
    refine xr_bipush i_X9_at_15 (q := 17) rfl ?_
    by_cases c21 : (m1.1 b4 (Int32.toNatClampNeg v1)) = ((Int8.ofInt (-9)).toInt32)
    · replace h := (if_pos c21).symm.trans h
      refine xr_if_icmp_ne_p i_X9_at_17 c21 (q := 26) t_X9_at_17 (q2 := 20) rfl ?_
      refine xr_aload_n i_X9_at_20 rfl (q := 21) rfl ?_
      refine xr_iconst i_X9_at_21 (q := 22) rfl ?_
      obtain ⟨x20, m19, em19, h⟩ := xi_bI_some h
      refine xr_VI i_X9_at_22 xcve_X9_71 rfl (As := [.ref v0, .int (Int32.ofInt 1)]) rfl (rest := []) rfl ((cc_X9_at_71 S _ _ _).trans em19) (q := 25) rfl ?_
      exact xr_ireturn i_X9_at_25 rfl h
    · replace h := (if_neg c21).symm.trans h
      refine xr_if_icmp_ne_n i_X9_at_17 c21 (q := 26) t_X9_at_17 (q2 := 20) rfl ?_
      refine xr_iload_n i_X9_at_26 rfl (q := 27) rfl ?_
      refine xr_iconst i_X9_at_27 (q := 28) rfl ?_
      refine xr_aload_n i_X9_at_28 rfl (q := 29) rfl ?_
      obtain ⟨c6, h⟩ := xi_if_some h
      obtain ⟨b7, eb7, h⟩ := xi_bind_some h
      refine xr_getR i_X9_at_29 xfe_X9_7 c6 eb7 (q := 32) rfl ?_
      refine xr_iload_n i_X9_at_32 rfl (q := 33) rfl ?_
      obtain ⟨c8, h⟩ := xi_if_some h
      refine xr_iaload i_X9_at_33 c8 (q := 34) rfl ?_
      refine xr_iconst i_X9_at_34 (q := 35) rfl ?_
      refine xr_isub i_X9_at_35 (q := 36) rfl ?_
      obtain ⟨x10, m9, em9, h⟩ := xi_bI_some h
      refine xr_SI i_X9_at_36 xcse_X9_63 rfl (As := [.int v2, .int (Int32.ofInt 0), .int ((m1.1 b7 (Int32.toNatClampNeg v1)) - (Int32.ofInt 1))]) rfl (rest := []) rfl ((cc_X9_at_63 S _ _ _ _).trans em9) (q := 39) rfl ?_
      by_cases c18 : x10 = 0
      · replace h := (if_pos c18).symm.trans h
        refine xr_ifCond_ne_p i_X9_at_39 c18 (q := 48) t_X9_at_39 (q2 := 42) rfl ?_
        refine xr_aload_n i_X9_at_42 rfl (q := 43) rfl ?_
        refine xr_iconst i_X9_at_43 (q := 44) rfl ?_
        obtain ⟨x17, m16, em16, h⟩ := xi_bI_some h
        refine xr_VI i_X9_at_44 xcve_X9_71 rfl (As := [.ref v0, .int (Int32.ofInt 2)]) rfl (rest := []) rfl ((cc_X9_at_71 S _ _ _).trans em16) (q := 47) rfl ?_
        exact xr_ireturn i_X9_at_47 rfl h
      · replace h := (if_neg c18).symm.trans h
        refine xr_ifCond_ne_n i_X9_at_39 c18 (q := 48) t_X9_at_39 (q2 := 42) rfl ?_
        refine xr_aload_n i_X9_at_48 rfl (q := 49) rfl ?_
        refine xr_aload_n i_X9_at_49 rfl (q := 50) rfl ?_
        obtain ⟨c11, h⟩ := xi_if_some h
        obtain ⟨b12, eb12, h⟩ := xi_bind_some h
        refine xr_getR i_X9_at_50 xfe_X9_13 c11 eb12 (q := 53) rfl ?_
        refine xr_bipush i_X9_at_53 (q := 55) rfl ?_
        refine xr_iload_n i_X9_at_55 rfl (q := 56) rfl ?_
        refine xr_imul i_X9_at_56 (q := 57) rfl ?_
        refine xr_iload_n i_X9_at_57 rfl (q := 58) rfl ?_
        refine xr_iadd i_X9_at_58 (q := 59) rfl ?_
        obtain ⟨c13, h⟩ := xi_if_some h
        refine xr_iaload i_X9_at_59 c13 (q := 60) rfl ?_
        obtain ⟨x15, m14, em14, h⟩ := xi_bI_some h
        refine xr_VI i_X9_at_60 xcve_X9_75 rfl (As := [.ref v0, .int (m9.1 b12 (Int32.toNatClampNeg ((((Int8.ofInt 40).toInt32) * v1) + v2)))]) rfl (rest := []) rfl ((cc_X9_at_75 S _ _ _).trans em14) (q := 63) rfl ?_
        exact xr_ireturn i_X9_at_63 rfl h
set_option maxRecDepth 100000 in
theorem po_X9_at {l : Launch} {E : xi_E} {S : xi_S} {D : va_G} {tys : List (ClassId × FieldType)} (hC : xCx E S tys) : xi_Pok l E S D vwCl tys xNs RX9 xTs cX9_at 3 2 (P_X9_at S) := ⟨xi_dc_ok, by rw [hC.2]; exact xfo_X9, xkio_X9, xklo_X9, xi_calls_ok (ins := .invokestatic) (List.forall_mem_cons.mpr ⟨(xc_X9_63 (sn_X9_in0 hC) (by decide)), List.forall_mem_cons.mpr ⟨(xc_X9_67 (sn_X9_isRow hC) (by decide)), fun _ h => absurd h List.not_mem_nil⟩⟩), xi_calls_ok (ins := .invokevirtual) (List.forall_mem_cons.mpr ⟨(xc_X9_71 hC.1 (sn_X9_found hC) (by decide)), List.forall_mem_cons.mpr ⟨(xc_X9_75 hC.1 (sn_X9_tells hC) (by decide)), fun _ h => absurd h List.not_mem_nil⟩⟩)⟩
theorem sn_X9_at {l : Launch} {E : xi_E} {S : xi_S} {D : va_G} {tys : List (ClassId × FieldType)} (hC : xCx E S tys) : ∀ As m1 r m2, F_X9_at S As m1 = some (r, m2) → xi_Sound l E S D vwCl tys xNs xTs yX9_at cX9_at 3 (some .int) 2 As m1 r m2 := by
  intro As m1 r m2 h
  unfold F_X9_at at h
  split at h
  · exact xi_meth (P := P_X9_at S) (by decide) hC.1 (po_X9_at hC) (Nat.le_of_ble_eq_true rfl) rfl (xe_X9_at _ _ _ _ h)
  · exact xi_no h
theorem i_X9_tear_0 : xi_dc cX9_tear 0 = some (.iload_n 1, 1) := by decide +kernel
theorem i_X9_tear_1 : xi_dc cX9_tear 1 = some (.invokestatic 67, 3) := by decide +kernel
theorem i_X9_tear_4 : xi_dc cX9_tear 4 = some (.ifCond .ne 5, 3) := by decide +kernel
theorem t_X9_tear_4 : ((4 : Nat) : Int) + 5 = ((9 : Nat) : Int) := by decide +kernel
theorem i_X9_tear_7 : xi_dc cX9_tear 7 = some (.iconst (-1), 1) := by decide +kernel
theorem i_X9_tear_8 : xi_dc cX9_tear 8 = some (.ireturn, 1) := by decide +kernel
theorem i_X9_tear_9 : xi_dc cX9_tear 9 = some (.aload_n 0, 1) := by decide +kernel
theorem i_X9_tear_10 : xi_dc cX9_tear 10 = some (.getfield 7, 3) := by decide +kernel
theorem i_X9_tear_13 : xi_dc cX9_tear 13 = some (.iload_n 1, 1) := by decide +kernel
theorem i_X9_tear_14 : xi_dc cX9_tear 14 = some (.iaload, 1) := by decide +kernel
theorem i_X9_tear_15 : xi_dc cX9_tear 15 = some (.bipush (-9), 2) := by decide +kernel
theorem i_X9_tear_17 : xi_dc cX9_tear 17 = some (.if_icmp .ne 9, 3) := by decide +kernel
theorem t_X9_tear_17 : ((17 : Nat) : Int) + 9 = ((26 : Nat) : Int) := by decide +kernel
theorem i_X9_tear_20 : xi_dc cX9_tear 20 = some (.aload_n 0, 1) := by decide +kernel
theorem i_X9_tear_21 : xi_dc cX9_tear 21 = some (.iconst 1, 1) := by decide +kernel
theorem i_X9_tear_22 : xi_dc cX9_tear 22 = some (.invokevirtual 71, 3) := by decide +kernel
theorem i_X9_tear_25 : xi_dc cX9_tear 25 = some (.ireturn, 1) := by decide +kernel
theorem i_X9_tear_26 : xi_dc cX9_tear 26 = some (.aload_n 0, 1) := by decide +kernel
theorem i_X9_tear_27 : xi_dc cX9_tear 27 = some (.getfield 7, 3) := by decide +kernel
theorem i_X9_tear_30 : xi_dc cX9_tear 30 = some (.iload_n 1, 1) := by decide +kernel
theorem i_X9_tear_31 : xi_dc cX9_tear 31 = some (.bipush (-9), 2) := by decide +kernel
theorem i_X9_tear_33 : xi_dc cX9_tear 33 = some (.iastore, 1) := by decide +kernel
theorem i_X9_tear_34 : xi_dc cX9_tear 34 = some (.iconst 1, 1) := by decide +kernel
theorem i_X9_tear_35 : xi_dc cX9_tear 35 = some (.ireturn, 1) := by decide +kernel
def P_X9_tear (S : xi_S) : xi_P := (xi_dc cX9_tear, xi_tab xfl_X9, xi_tab xki_X9, xi_tab xkl_X9, xi_tab xcs_X9, xi_tab xcv_X9, xi_calls [(67, xi_wS 1 (F_X9_isRow S))], xi_calls [(71, xi_wV S 11 1 (F_X9_found S))], 1)
theorem cc_X9_tear_67 (S : xi_S) (a0 : Int32) (m : xi_M) : (P_X9_tear S).2.2.2.2.2.2.1 67 [.int a0] m = (E_X9_isRow S a0 m) := by
  show xi_calls [(67, xi_wS 1 (F_X9_isRow S))] 67 [.int a0] m = _
  refine Eq.trans (b := xi_wS 1 (F_X9_isRow S) [.int a0] m) (xi_calls_hit rfl) ?_
  exact xi_wS_eq rfl
theorem cc_X9_tear_71 (S : xi_S) (a0 : Nat) (a1 : Int32) (m : xi_M) : (P_X9_tear S).2.2.2.2.2.2.2.1 71 [.ref a0, .int a1] m = (if S.1 a0 = 11 then E_X9_found S a0 a1 m else none) := by
  show xi_calls [(71, xi_wV S 11 1 (F_X9_found S))] 71 [.ref a0, .int a1] m = _
  refine Eq.trans (b := xi_wV S 11 1 (F_X9_found S) [.ref a0, .int a1] m) (xi_calls_hit rfl) ?_
  exact xi_wV_eq rfl
def E_X9_tear (S : xi_S) (v0 : Nat) (v1 : Int32) (m : xi_M) : Option xi_R :=
  xi_bI (E_X9_isRow S v1 m) fun x2 m1 =>
  if x2 = 0 then
    some (some (.int (Int32.ofInt (-1))), m1)
  else
    if S.1 v0 = 11 then (S.2.2 v0 0).bind fun b4 =>
      if S.1 b4 = 0 ∧ ¬ (v1 < 0 ∨ S.2.1 b4 ≤ Int32.toNatClampNeg v1) then
        if (m1.1 b4 (Int32.toNatClampNeg v1)) = ((Int8.ofInt (-9)).toInt32) then
          xi_bI (if S.1 v0 = 11 then E_X9_found S v0 (Int32.ofInt 1) m1 else none) fun x10 m9 =>
          some (some (.int x10), m9)
        else
          if S.1 v0 = 11 then (S.2.2 v0 0).bind fun b7 =>
            if S.1 b7 = 0 ∧ ¬ (v1 < 0 ∨ S.2.1 b7 ≤ Int32.toNatClampNeg v1) then
              some (some (.int (Int32.ofInt 1)), (xi_wI m1 b7 (Int32.toNatClampNeg v1) ((Int8.ofInt (-9)).toInt32)))
            else none
          else none
      else none
    else none
def F_X9_tear (S : xi_S) : xi_F := fun As m => match As with
  | [.ref v0, .int v1] => E_X9_tear S v0 v1 m
  | _ => none
set_option maxRecDepth 100000 in
set_option maxHeartbeats 4000000 in
theorem xe_X9_tear {S : xi_S} {res : xi_R} (v0 : Nat) (v1 : Int32) (m : xi_M) (h : E_X9_tear S v0 v1 m = some res) : xi_X S (P_X9_tear S) (0, [some (.ref v0), some (.int v1)], [], m) res := by
  unfold E_X9_tear at h
  refine xr_iload_n i_X9_tear_0 rfl (q := 1) rfl ?_
  obtain ⟨x2, m1, em1, h⟩ := xi_bI_some h
  refine xr_SI i_X9_tear_1 xcse_X9_67 rfl (As := [.int v1]) rfl (rest := []) rfl ((cc_X9_tear_67 S _ _).trans em1) (q := 4) rfl ?_
  by_cases c12 : x2 = 0
  · replace h := (if_pos c12).symm.trans h
    refine xr_ifCond_ne_p i_X9_tear_4 c12 (q := 9) t_X9_tear_4 (q2 := 7) rfl ?_
    refine xr_iconst i_X9_tear_7 (q := 8) rfl ?_
    exact xr_ireturn i_X9_tear_8 rfl h
  · replace h := (if_neg c12).symm.trans h
    refine xr_ifCond_ne_n i_X9_tear_4 c12 (q := 9) t_X9_tear_4 (q2 := 7) rfl ?_
    refine xr_aload_n i_X9_tear_9 rfl (q := 10) rfl ?_
    obtain ⟨c3, h⟩ := xi_if_some h
    obtain ⟨b4, eb4, h⟩ := xi_bind_some h
    refine xr_getR i_X9_tear_10 xfe_X9_7 c3 eb4 (q := 13) rfl ?_
    refine xr_iload_n i_X9_tear_13 rfl (q := 14) rfl ?_
    obtain ⟨c5, h⟩ := xi_if_some h
    refine xr_iaload i_X9_tear_14 c5 (q := 15) rfl ?_
    refine xr_bipush i_X9_tear_15 (q := 17) rfl ?_
    by_cases c11 : (m1.1 b4 (Int32.toNatClampNeg v1)) = ((Int8.ofInt (-9)).toInt32)
    · replace h := (if_pos c11).symm.trans h
      refine xr_if_icmp_ne_p i_X9_tear_17 c11 (q := 26) t_X9_tear_17 (q2 := 20) rfl ?_
      refine xr_aload_n i_X9_tear_20 rfl (q := 21) rfl ?_
      refine xr_iconst i_X9_tear_21 (q := 22) rfl ?_
      obtain ⟨x10, m9, em9, h⟩ := xi_bI_some h
      refine xr_VI i_X9_tear_22 xcve_X9_71 rfl (As := [.ref v0, .int (Int32.ofInt 1)]) rfl (rest := []) rfl ((cc_X9_tear_71 S _ _ _).trans em9) (q := 25) rfl ?_
      exact xr_ireturn i_X9_tear_25 rfl h
    · replace h := (if_neg c11).symm.trans h
      refine xr_if_icmp_ne_n i_X9_tear_17 c11 (q := 26) t_X9_tear_17 (q2 := 20) rfl ?_
      refine xr_aload_n i_X9_tear_26 rfl (q := 27) rfl ?_
      obtain ⟨c6, h⟩ := xi_if_some h
      obtain ⟨b7, eb7, h⟩ := xi_bind_some h
      refine xr_getR i_X9_tear_27 xfe_X9_7 c6 eb7 (q := 30) rfl ?_
      refine xr_iload_n i_X9_tear_30 rfl (q := 31) rfl ?_
      refine xr_bipush i_X9_tear_31 (q := 33) rfl ?_
      obtain ⟨c8, h⟩ := xi_if_some h
      refine xr_iastore i_X9_tear_33 c8 (q := 34) rfl ?_
      refine xr_iconst i_X9_tear_34 (q := 35) rfl ?_
      exact xr_ireturn i_X9_tear_35 rfl h
set_option maxRecDepth 100000 in
theorem po_X9_tear {l : Launch} {E : xi_E} {S : xi_S} {D : va_G} {tys : List (ClassId × FieldType)} (hC : xCx E S tys) : xi_Pok l E S D vwCl tys xNs RX9 xTs cX9_tear 2 2 (P_X9_tear S) := ⟨xi_dc_ok, by rw [hC.2]; exact xfo_X9, xkio_X9, xklo_X9, xi_calls_ok (ins := .invokestatic) (List.forall_mem_cons.mpr ⟨(xc_X9_67 (sn_X9_isRow hC) (by decide)), fun _ h => absurd h List.not_mem_nil⟩), xi_calls_ok (ins := .invokevirtual) (List.forall_mem_cons.mpr ⟨(xc_X9_71 hC.1 (sn_X9_found hC) (by decide)), fun _ h => absurd h List.not_mem_nil⟩)⟩
theorem sn_X9_tear {l : Launch} {E : xi_E} {S : xi_S} {D : va_G} {tys : List (ClassId × FieldType)} (hC : xCx E S tys) : ∀ As m1 r m2, F_X9_tear S As m1 = some (r, m2) → xi_Sound l E S D vwCl tys xNs xTs yX9_tear cX9_tear 2 (some .int) 2 As m1 r m2 := by
  intro As m1 r m2 h
  unfold F_X9_tear at h
  split at h
  · exact xi_meth (P := P_X9_tear S) (by decide) hC.1 (po_X9_tear hC) (Nat.le_of_ble_eq_true rfl) rfl (xe_X9_tear _ _ _ h)
  · exact xi_no h
theorem i_X9_hasPart_0 : xi_dc cX9_hasPart 0 = some (.iload_n 2, 1) := by decide +kernel
theorem i_X9_hasPart_1 : xi_dc cX9_hasPart 1 = some (.iconst 0, 1) := by decide +kernel
theorem i_X9_hasPart_2 : xi_dc cX9_hasPart 2 = some (.aload_n 0, 1) := by decide +kernel
theorem i_X9_hasPart_3 : xi_dc cX9_hasPart 3 = some (.getfield 7, 3) := by decide +kernel
theorem i_X9_hasPart_6 : xi_dc cX9_hasPart 6 = some (.iload_n 1, 1) := by decide +kernel
theorem i_X9_hasPart_7 : xi_dc cX9_hasPart 7 = some (.iaload, 1) := by decide +kernel
theorem i_X9_hasPart_8 : xi_dc cX9_hasPart 8 = some (.invokestatic 63, 3) := by decide +kernel
theorem i_X9_hasPart_11 : xi_dc cX9_hasPart 11 = some (.ifCond .eq 19, 3) := by decide +kernel
theorem t_X9_hasPart_11 : ((11 : Nat) : Int) + 19 = ((30 : Nat) : Int) := by decide +kernel
theorem i_X9_hasPart_14 : xi_dc cX9_hasPart 14 = some (.iload_n 3, 1) := by decide +kernel
theorem i_X9_hasPart_15 : xi_dc cX9_hasPart 15 = some (.aload_n 0, 1) := by decide +kernel
theorem i_X9_hasPart_16 : xi_dc cX9_hasPart 16 = some (.getfield 7, 3) := by decide +kernel
theorem i_X9_hasPart_19 : xi_dc cX9_hasPart 19 = some (.iload_n 1, 1) := by decide +kernel
theorem i_X9_hasPart_20 : xi_dc cX9_hasPart 20 = some (.iaload, 1) := by decide +kernel
theorem i_X9_hasPart_21 : xi_dc cX9_hasPart 21 = some (.iload_n 2, 1) := by decide +kernel
theorem i_X9_hasPart_22 : xi_dc cX9_hasPart 22 = some (.isub, 1) := by decide +kernel
theorem i_X9_hasPart_23 : xi_dc cX9_hasPart 23 = some (.if_icmp .gt 7, 3) := by decide +kernel
theorem t_X9_hasPart_23 : ((23 : Nat) : Int) + 7 = ((30 : Nat) : Int) := by decide +kernel
theorem i_X9_hasPart_26 : xi_dc cX9_hasPart 26 = some (.iconst 1, 1) := by decide +kernel
theorem i_X9_hasPart_27 : xi_dc cX9_hasPart 27 = some (.goto 4, 3) := by decide +kernel
theorem t_X9_hasPart_27 : ((27 : Nat) : Int) + 4 = ((31 : Nat) : Int) := by decide +kernel
theorem i_X9_hasPart_30 : xi_dc cX9_hasPart 30 = some (.iconst 0, 1) := by decide +kernel
theorem i_X9_hasPart_31 : xi_dc cX9_hasPart 31 = some (.ireturn, 1) := by decide +kernel
def P_X9_hasPart (S : xi_S) : xi_P := (xi_dc cX9_hasPart, xi_tab xfl_X9, xi_tab xki_X9, xi_tab xkl_X9, xi_tab xcs_X9, xi_tab xcv_X9, xi_calls [(63, xi_wS 3 (F_X9_in0 S))], xi_calls [], 2)
theorem cc_X9_hasPart_63 (S : xi_S) (a0 : Int32) (a1 : Int32) (a2 : Int32) (m : xi_M) : (P_X9_hasPart S).2.2.2.2.2.2.1 63 [.int a0, .int a1, .int a2] m = (E_X9_in0 S a0 a1 a2 m) := by
  show xi_calls [(63, xi_wS 3 (F_X9_in0 S))] 63 [.int a0, .int a1, .int a2] m = _
  refine Eq.trans (b := xi_wS 3 (F_X9_in0 S) [.int a0, .int a1, .int a2] m) (xi_calls_hit rfl) ?_
  exact xi_wS_eq rfl
def E_X9_hasPart (S : xi_S) (v0 : Nat) (v1 : Int32) (v2 : Int32) (v3 : Int32) (m : xi_M) : Option xi_R :=
  if S.1 v0 = 11 then (S.2.2 v0 0).bind fun b2 =>
    if S.1 b2 = 0 ∧ ¬ (v1 < 0 ∨ S.2.1 b2 ≤ Int32.toNatClampNeg v1) then
      xi_bI (E_X9_in0 S v2 (Int32.ofInt 0) (m.1 b2 (Int32.toNatClampNeg v1)) m) fun x5 m4 =>
      if x5 = 0 then
        if (Int32.ofInt 0) = 0 ∨ (Int32.ofInt 0) = 1 then some (some (.int (Int32.ofInt 0)), m4) else none
      else
        if S.1 v0 = 11 then (S.2.2 v0 0).bind fun b7 =>
          if S.1 b7 = 0 ∧ ¬ (v1 < 0 ∨ S.2.1 b7 ≤ Int32.toNatClampNeg v1) then
            if ((m4.1 b7 (Int32.toNatClampNeg v1)) - v2) < v3 then
              if (Int32.ofInt 0) = 0 ∨ (Int32.ofInt 0) = 1 then some (some (.int (Int32.ofInt 0)), m4) else none
            else
              if (Int32.ofInt 1) = 0 ∨ (Int32.ofInt 1) = 1 then some (some (.int (Int32.ofInt 1)), m4) else none
          else none
        else none
    else none
  else none
def F_X9_hasPart (S : xi_S) : xi_F := fun As m => match As with
  | [.ref v0, .int v1, .int v2, .int v3] => E_X9_hasPart S v0 v1 v2 v3 m
  | _ => none
set_option maxRecDepth 100000 in
set_option maxHeartbeats 4000000 in
theorem xe_X9_hasPart {S : xi_S} {res : xi_R} (v0 : Nat) (v1 : Int32) (v2 : Int32) (v3 : Int32) (m : xi_M) (h : E_X9_hasPart S v0 v1 v2 v3 m = some res) : xi_X S (P_X9_hasPart S) (0, [some (.ref v0), some (.int v1), some (.int v2), some (.int v3)], [], m) res := by
  unfold E_X9_hasPart at h
  refine xr_iload_n i_X9_hasPart_0 rfl (q := 1) rfl ?_
  refine xr_iconst i_X9_hasPart_1 (q := 2) rfl ?_
  refine xr_aload_n i_X9_hasPart_2 rfl (q := 3) rfl ?_
  obtain ⟨c1, h⟩ := xi_if_some h
  obtain ⟨b2, eb2, h⟩ := xi_bind_some h
  refine xr_getR i_X9_hasPart_3 xfe_X9_7 c1 eb2 (q := 6) rfl ?_
  refine xr_iload_n i_X9_hasPart_6 rfl (q := 7) rfl ?_
  obtain ⟨c3, h⟩ := xi_if_some h
  refine xr_iaload i_X9_hasPart_7 c3 (q := 8) rfl ?_
  obtain ⟨x5, m4, em4, h⟩ := xi_bI_some h
  refine xr_SI i_X9_hasPart_8 xcse_X9_63 rfl (As := [.int v2, .int (Int32.ofInt 0), .int (m.1 b2 (Int32.toNatClampNeg v1))]) rfl (rest := []) rfl ((cc_X9_hasPart_63 S _ _ _ _).trans em4) (q := 11) rfl ?_
  by_cases c10 : x5 = 0
  · replace h := (if_pos c10).symm.trans h
    refine xr_ifCond_eq_p i_X9_hasPart_11 c10 (q := 30) t_X9_hasPart_11 (q2 := 14) rfl ?_
    refine xr_iconst i_X9_hasPart_30 (q := 31) rfl ?_
    exact xr_zreturn i_X9_hasPart_31 rfl h
  · replace h := (if_neg c10).symm.trans h
    refine xr_ifCond_eq_n i_X9_hasPart_11 c10 (q := 30) t_X9_hasPart_11 (q2 := 14) rfl ?_
    refine xr_iload_n i_X9_hasPart_14 rfl (q := 15) rfl ?_
    refine xr_aload_n i_X9_hasPart_15 rfl (q := 16) rfl ?_
    obtain ⟨c6, h⟩ := xi_if_some h
    obtain ⟨b7, eb7, h⟩ := xi_bind_some h
    refine xr_getR i_X9_hasPart_16 xfe_X9_7 c6 eb7 (q := 19) rfl ?_
    refine xr_iload_n i_X9_hasPart_19 rfl (q := 20) rfl ?_
    obtain ⟨c8, h⟩ := xi_if_some h
    refine xr_iaload i_X9_hasPart_20 c8 (q := 21) rfl ?_
    refine xr_iload_n i_X9_hasPart_21 rfl (q := 22) rfl ?_
    refine xr_isub i_X9_hasPart_22 (q := 23) rfl ?_
    by_cases c9 : ((m4.1 b7 (Int32.toNatClampNeg v1)) - v2) < v3
    · replace h := (if_pos c9).symm.trans h
      refine xr_if_icmp_gt_p i_X9_hasPart_23 c9 (q := 30) t_X9_hasPart_23 (q2 := 26) rfl ?_
      refine xr_iconst i_X9_hasPart_30 (q := 31) rfl ?_
      exact xr_zreturn i_X9_hasPart_31 rfl h
    · replace h := (if_neg c9).symm.trans h
      refine xr_if_icmp_gt_n i_X9_hasPart_23 c9 (q := 30) t_X9_hasPart_23 (q2 := 26) rfl ?_
      refine xr_iconst i_X9_hasPart_26 (q := 27) rfl ?_
      refine xr_goto i_X9_hasPart_27 (q := 31) t_X9_hasPart_27 ?_
      exact xr_zreturn i_X9_hasPart_31 rfl h
set_option maxRecDepth 100000 in
theorem po_X9_hasPart {l : Launch} {E : xi_E} {S : xi_S} {D : va_G} {tys : List (ClassId × FieldType)} (hC : xCx E S tys) : xi_Pok l E S D vwCl tys xNs RX9 xTs cX9_hasPart 4 1 (P_X9_hasPart S) := ⟨xi_dc_ok, by rw [hC.2]; exact xfo_X9, xkio_X9, xklo_X9, xi_calls_ok (ins := .invokestatic) (List.forall_mem_cons.mpr ⟨(xc_X9_63 (sn_X9_in0 hC) (by decide)), fun _ h => absurd h List.not_mem_nil⟩), xi_calls_ok (ins := .invokevirtual) (fun _ h => absurd h List.not_mem_nil)⟩
theorem sn_X9_hasPart {l : Launch} {E : xi_E} {S : xi_S} {D : va_G} {tys : List (ClassId × FieldType)} (hC : xCx E S tys) : ∀ As m1 r m2, F_X9_hasPart S As m1 = some (r, m2) → xi_Sound l E S D vwCl tys xNs xTs yX9_hasPart cX9_hasPart 4 (some .boolean) 1 As m1 r m2 := by
  intro As m1 r m2 h
  unfold F_X9_hasPart at h
  split at h
  · exact xi_meth (P := P_X9_hasPart S) (by decide) hC.1 (po_X9_hasPart hC) (Nat.le_of_ble_eq_true rfl) rfl (xe_X9_hasPart _ _ _ _ _ h)
  · exact xi_no h
theorem i_X9_copy_0 : xi_dc cX9_copy 0 = some (.iload_n 1, 1) := by decide +kernel
theorem i_X9_copy_1 : xi_dc cX9_copy 1 = some (.invokestatic 67, 3) := by decide +kernel
theorem i_X9_copy_4 : xi_dc cX9_copy 4 = some (.ifCond .eq 10, 3) := by decide +kernel
theorem t_X9_copy_4 : ((4 : Nat) : Int) + 10 = ((14 : Nat) : Int) := by decide +kernel
theorem i_X9_copy_7 : xi_dc cX9_copy 7 = some (.iload_n 3, 1) := by decide +kernel
theorem i_X9_copy_8 : xi_dc cX9_copy 8 = some (.invokestatic 67, 3) := by decide +kernel
theorem i_X9_copy_11 : xi_dc cX9_copy 11 = some (.ifCond .ne 5, 3) := by decide +kernel
theorem t_X9_copy_11 : ((11 : Nat) : Int) + 5 = ((16 : Nat) : Int) := by decide +kernel
theorem i_X9_copy_14 : xi_dc cX9_copy 14 = some (.iconst (-1), 1) := by decide +kernel
theorem i_X9_copy_15 : xi_dc cX9_copy 15 = some (.ireturn, 1) := by decide +kernel
theorem i_X9_copy_16 : xi_dc cX9_copy 16 = some (.iload 5, 2) := by decide +kernel
theorem i_X9_copy_18 : xi_dc cX9_copy 18 = some (.ifCond .ge 9, 3) := by decide +kernel
theorem t_X9_copy_18 : ((18 : Nat) : Int) + 9 = ((27 : Nat) : Int) := by decide +kernel
theorem i_X9_copy_21 : xi_dc cX9_copy 21 = some (.aload_n 0, 1) := by decide +kernel
theorem i_X9_copy_22 : xi_dc cX9_copy 22 = some (.iconst 5, 1) := by decide +kernel
theorem i_X9_copy_23 : xi_dc cX9_copy 23 = some (.invokevirtual 71, 3) := by decide +kernel
theorem i_X9_copy_26 : xi_dc cX9_copy 26 = some (.ireturn, 1) := by decide +kernel
theorem i_X9_copy_27 : xi_dc cX9_copy 27 = some (.aload_n 0, 1) := by decide +kernel
theorem i_X9_copy_28 : xi_dc cX9_copy 28 = some (.getfield 7, 3) := by decide +kernel
theorem i_X9_copy_31 : xi_dc cX9_copy 31 = some (.iload_n 1, 1) := by decide +kernel
theorem i_X9_copy_32 : xi_dc cX9_copy 32 = some (.iaload, 1) := by decide +kernel
theorem i_X9_copy_33 : xi_dc cX9_copy 33 = some (.bipush (-9), 2) := by decide +kernel
theorem i_X9_copy_35 : xi_dc cX9_copy 35 = some (.if_icmp .eq 14, 3) := by decide +kernel
theorem t_X9_copy_35 : ((35 : Nat) : Int) + 14 = ((49 : Nat) : Int) := by decide +kernel
theorem i_X9_copy_38 : xi_dc cX9_copy 38 = some (.aload_n 0, 1) := by decide +kernel
theorem i_X9_copy_39 : xi_dc cX9_copy 39 = some (.getfield 7, 3) := by decide +kernel
theorem i_X9_copy_42 : xi_dc cX9_copy 42 = some (.iload_n 3, 1) := by decide +kernel
theorem i_X9_copy_43 : xi_dc cX9_copy 43 = some (.iaload, 1) := by decide +kernel
theorem i_X9_copy_44 : xi_dc cX9_copy 44 = some (.bipush (-9), 2) := by decide +kernel
theorem i_X9_copy_46 : xi_dc cX9_copy 46 = some (.if_icmp .ne 9, 3) := by decide +kernel
theorem t_X9_copy_46 : ((46 : Nat) : Int) + 9 = ((55 : Nat) : Int) := by decide +kernel
theorem i_X9_copy_49 : xi_dc cX9_copy 49 = some (.aload_n 0, 1) := by decide +kernel
theorem i_X9_copy_50 : xi_dc cX9_copy 50 = some (.iconst 1, 1) := by decide +kernel
theorem i_X9_copy_51 : xi_dc cX9_copy 51 = some (.invokevirtual 71, 3) := by decide +kernel
theorem i_X9_copy_54 : xi_dc cX9_copy 54 = some (.ireturn, 1) := by decide +kernel
theorem i_X9_copy_55 : xi_dc cX9_copy 55 = some (.aload_n 0, 1) := by decide +kernel
theorem i_X9_copy_56 : xi_dc cX9_copy 56 = some (.iload_n 1, 1) := by decide +kernel
theorem i_X9_copy_57 : xi_dc cX9_copy 57 = some (.iload_n 2, 1) := by decide +kernel
theorem i_X9_copy_58 : xi_dc cX9_copy 58 = some (.iload 5, 2) := by decide +kernel
theorem i_X9_copy_60 : xi_dc cX9_copy 60 = some (.invokevirtual 78, 3) := by decide +kernel
theorem i_X9_copy_63 : xi_dc cX9_copy 63 = some (.ifCond .eq 15, 3) := by decide +kernel
theorem t_X9_copy_63 : ((63 : Nat) : Int) + 15 = ((78 : Nat) : Int) := by decide +kernel
theorem i_X9_copy_66 : xi_dc cX9_copy 66 = some (.aload_n 0, 1) := by decide +kernel
theorem i_X9_copy_67 : xi_dc cX9_copy 67 = some (.iload_n 3, 1) := by decide +kernel
theorem i_X9_copy_68 : xi_dc cX9_copy 68 = some (.iload 4, 2) := by decide +kernel
theorem i_X9_copy_70 : xi_dc cX9_copy 70 = some (.iload 5, 2) := by decide +kernel
theorem i_X9_copy_72 : xi_dc cX9_copy 72 = some (.invokevirtual 78, 3) := by decide +kernel
theorem i_X9_copy_75 : xi_dc cX9_copy 75 = some (.ifCond .ne 9, 3) := by decide +kernel
theorem t_X9_copy_75 : ((75 : Nat) : Int) + 9 = ((84 : Nat) : Int) := by decide +kernel
theorem i_X9_copy_78 : xi_dc cX9_copy 78 = some (.aload_n 0, 1) := by decide +kernel
theorem i_X9_copy_79 : xi_dc cX9_copy 79 = some (.iconst 2, 1) := by decide +kernel
theorem i_X9_copy_80 : xi_dc cX9_copy 80 = some (.invokevirtual 71, 3) := by decide +kernel
theorem i_X9_copy_83 : xi_dc cX9_copy 83 = some (.ireturn, 1) := by decide +kernel
theorem i_X9_copy_84 : xi_dc cX9_copy 84 = some (.iconst 0, 1) := by decide +kernel
theorem i_X9_copy_85 : xi_dc cX9_copy 85 = some (.istore 6, 2) := by decide +kernel
theorem i_X9_copy_87 : xi_dc cX9_copy 87 = some (.iload 6, 2) := by decide +kernel
theorem i_X9_copy_89 : xi_dc cX9_copy 89 = some (.iload 5, 2) := by decide +kernel
theorem i_X9_copy_91 : xi_dc cX9_copy 91 = some (.if_icmp .ge 30, 3) := by decide +kernel
theorem t_X9_copy_91 : ((91 : Nat) : Int) + 30 = ((121 : Nat) : Int) := by decide +kernel
theorem i_X9_copy_94 : xi_dc cX9_copy 94 = some (.aload_n 0, 1) := by decide +kernel
theorem i_X9_copy_95 : xi_dc cX9_copy 95 = some (.getfield 22, 3) := by decide +kernel
theorem i_X9_copy_98 : xi_dc cX9_copy 98 = some (.iload 6, 2) := by decide +kernel
theorem i_X9_copy_100 : xi_dc cX9_copy 100 = some (.aload_n 0, 1) := by decide +kernel
theorem i_X9_copy_101 : xi_dc cX9_copy 101 = some (.getfield 13, 3) := by decide +kernel
theorem i_X9_copy_104 : xi_dc cX9_copy 104 = some (.bipush 40, 2) := by decide +kernel
theorem i_X9_copy_106 : xi_dc cX9_copy 106 = some (.iload_n 1, 1) := by decide +kernel
theorem i_X9_copy_107 : xi_dc cX9_copy 107 = some (.imul, 1) := by decide +kernel
theorem i_X9_copy_108 : xi_dc cX9_copy 108 = some (.iload_n 2, 1) := by decide +kernel
theorem i_X9_copy_109 : xi_dc cX9_copy 109 = some (.iadd, 1) := by decide +kernel
theorem i_X9_copy_110 : xi_dc cX9_copy 110 = some (.iload 6, 2) := by decide +kernel
theorem i_X9_copy_112 : xi_dc cX9_copy 112 = some (.iadd, 1) := by decide +kernel
theorem i_X9_copy_113 : xi_dc cX9_copy 113 = some (.iaload, 1) := by decide +kernel
theorem i_X9_copy_114 : xi_dc cX9_copy 114 = some (.iastore, 1) := by decide +kernel
theorem i_X9_copy_115 : xi_dc cX9_copy 115 = some (.iinc 6 1, 3) := by decide +kernel
theorem i_X9_copy_118 : xi_dc cX9_copy 118 = some (.goto (-31), 3) := by decide +kernel
theorem t_X9_copy_118 : ((118 : Nat) : Int) + (-31) = ((87 : Nat) : Int) := by decide +kernel
theorem i_X9_copy_121 : xi_dc cX9_copy 121 = some (.iconst 0, 1) := by decide +kernel
theorem i_X9_copy_122 : xi_dc cX9_copy 122 = some (.istore 6, 2) := by decide +kernel
theorem i_X9_copy_124 : xi_dc cX9_copy 124 = some (.iload 6, 2) := by decide +kernel
theorem i_X9_copy_126 : xi_dc cX9_copy 126 = some (.iload 5, 2) := by decide +kernel
theorem i_X9_copy_128 : xi_dc cX9_copy 128 = some (.if_icmp .ge 31, 3) := by decide +kernel
theorem t_X9_copy_128 : ((128 : Nat) : Int) + 31 = ((159 : Nat) : Int) := by decide +kernel
theorem i_X9_copy_131 : xi_dc cX9_copy 131 = some (.aload_n 0, 1) := by decide +kernel
theorem i_X9_copy_132 : xi_dc cX9_copy 132 = some (.getfield 13, 3) := by decide +kernel
theorem i_X9_copy_135 : xi_dc cX9_copy 135 = some (.bipush 40, 2) := by decide +kernel
theorem i_X9_copy_137 : xi_dc cX9_copy 137 = some (.iload_n 3, 1) := by decide +kernel
theorem i_X9_copy_138 : xi_dc cX9_copy 138 = some (.imul, 1) := by decide +kernel
theorem i_X9_copy_139 : xi_dc cX9_copy 139 = some (.iload 4, 2) := by decide +kernel
theorem i_X9_copy_141 : xi_dc cX9_copy 141 = some (.iadd, 1) := by decide +kernel
theorem i_X9_copy_142 : xi_dc cX9_copy 142 = some (.iload 6, 2) := by decide +kernel
theorem i_X9_copy_144 : xi_dc cX9_copy 144 = some (.iadd, 1) := by decide +kernel
theorem i_X9_copy_145 : xi_dc cX9_copy 145 = some (.aload_n 0, 1) := by decide +kernel
theorem i_X9_copy_146 : xi_dc cX9_copy 146 = some (.getfield 22, 3) := by decide +kernel
theorem i_X9_copy_149 : xi_dc cX9_copy 149 = some (.iload 6, 2) := by decide +kernel
theorem i_X9_copy_151 : xi_dc cX9_copy 151 = some (.iaload, 1) := by decide +kernel
theorem i_X9_copy_152 : xi_dc cX9_copy 152 = some (.iastore, 1) := by decide +kernel
theorem i_X9_copy_153 : xi_dc cX9_copy 153 = some (.iinc 6 1, 3) := by decide +kernel
theorem i_X9_copy_156 : xi_dc cX9_copy 156 = some (.goto (-32), 3) := by decide +kernel
theorem t_X9_copy_156 : ((156 : Nat) : Int) + (-32) = ((124 : Nat) : Int) := by decide +kernel
theorem i_X9_copy_159 : xi_dc cX9_copy 159 = some (.iconst 1, 1) := by decide +kernel
theorem i_X9_copy_160 : xi_dc cX9_copy 160 = some (.ireturn, 1) := by decide +kernel
def P_X9_copy (S : xi_S) : xi_P := (xi_dc cX9_copy, xi_tab xfl_X9, xi_tab xki_X9, xi_tab xkl_X9, xi_tab xcs_X9, xi_tab xcv_X9, xi_calls [(67, xi_wS 1 (F_X9_isRow S))], xi_calls [(71, xi_wV S 11 1 (F_X9_found S)), (78, xi_wV S 11 3 (F_X9_hasPart S))], 1)
theorem cc_X9_copy_67 (S : xi_S) (a0 : Int32) (m : xi_M) : (P_X9_copy S).2.2.2.2.2.2.1 67 [.int a0] m = (E_X9_isRow S a0 m) := by
  show xi_calls [(67, xi_wS 1 (F_X9_isRow S))] 67 [.int a0] m = _
  refine Eq.trans (b := xi_wS 1 (F_X9_isRow S) [.int a0] m) (xi_calls_hit rfl) ?_
  exact xi_wS_eq rfl
theorem cc_X9_copy_71 (S : xi_S) (a0 : Nat) (a1 : Int32) (m : xi_M) : (P_X9_copy S).2.2.2.2.2.2.2.1 71 [.ref a0, .int a1] m = (if S.1 a0 = 11 then E_X9_found S a0 a1 m else none) := by
  show xi_calls [(71, xi_wV S 11 1 (F_X9_found S)), (78, xi_wV S 11 3 (F_X9_hasPart S))] 71 [.ref a0, .int a1] m = _
  refine Eq.trans (b := xi_wV S 11 1 (F_X9_found S) [.ref a0, .int a1] m) (xi_calls_hit rfl) ?_
  exact xi_wV_eq rfl
theorem cc_X9_copy_78 (S : xi_S) (a0 : Nat) (a1 : Int32) (a2 : Int32) (a3 : Int32) (m : xi_M) : (P_X9_copy S).2.2.2.2.2.2.2.1 78 [.ref a0, .int a1, .int a2, .int a3] m = (if S.1 a0 = 11 then E_X9_hasPart S a0 a1 a2 a3 m else none) := by
  show xi_calls [(71, xi_wV S 11 1 (F_X9_found S)), (78, xi_wV S 11 3 (F_X9_hasPart S))] 78 [.ref a0, .int a1, .int a2, .int a3] m = _
  refine Eq.trans (b := xi_calls [(78, xi_wV S 11 3 (F_X9_hasPart S))] 78 [.ref a0, .int a1, .int a2, .int a3] m) (xi_calls_miss rfl) ?_
  refine Eq.trans (b := xi_wV S 11 3 (F_X9_hasPart S) [.ref a0, .int a1, .int a2, .int a3] m) (xi_calls_hit rfl) ?_
  exact xi_wV_eq rfl
def G_X9_copy_124 (S : xi_S) : Nat → Nat → Int32 → Int32 → Int32 → Int32 → xi_M → Option xi_R
  | 0, _, _, _, _, _, _ => none
  | n + 1, v0, v3, v4, v5, v6, m =>
    if v5 ≤ v6 then
      some (some (.int (Int32.ofInt 1)), m)
    else
      if S.1 v0 = 11 then (S.2.2 v0 1).bind fun b2 =>
        if S.1 v0 = 11 then (S.2.2 v0 4).bind fun b4 =>
          if S.1 b4 = 0 ∧ ¬ (v6 < 0 ∨ S.2.1 b4 ≤ Int32.toNatClampNeg v6) then
            if S.1 b2 = 0 ∧ ¬ ((((((Int8.ofInt 40).toInt32) * v3) + v4) + v6) < 0 ∨ S.2.1 b2 ≤ Int32.toNatClampNeg (((((Int8.ofInt 40).toInt32) * v3) + v4) + v6)) then
              G_X9_copy_124 S n v0 v3 v4 v5 (v6 + Int32.ofInt 1) (xi_wI m b2 (Int32.toNatClampNeg (((((Int8.ofInt 40).toInt32) * v3) + v4) + v6)) (m.1 b4 (Int32.toNatClampNeg v6)))
            else none
          else none
        else none
      else none
set_option maxRecDepth 100000 in
set_option maxHeartbeats 4000000 in
theorem xs_X9_copy_124 {S : xi_S} {res : xi_R} : ∀ (n : Nat) (v0 : Nat) (v3 : Int32) (v4 : Int32) (v5 : Int32) (v6 : Int32) (m : xi_M), G_X9_copy_124 S n v0 v3 v4 v5 v6 m = some res → xi_X S (P_X9_copy S) (124, [some (.ref v0), none, none, some (.int v3), some (.int v4), some (.int v5), some (.int v6)], [], m) res := by
  intro n
  induction n with
  | zero => intro v0 v3 v4 v5 v6 m h; exact xi_no h
  | succ n ih =>
    intro v0 v3 v4 v5 v6 m h
    unfold G_X9_copy_124 at h
    refine xr_iload i_X9_copy_124 rfl (q := 126) rfl ?_
    refine xr_iload i_X9_copy_126 rfl (q := 128) rfl ?_
    by_cases c7 : v5 ≤ v6
    · replace h := (if_pos c7).symm.trans h
      refine xr_if_icmp_ge_p i_X9_copy_128 c7 (q := 159) t_X9_copy_128 (q2 := 131) rfl ?_
      refine xr_iconst i_X9_copy_159 (q := 160) rfl ?_
      exact xr_ireturn i_X9_copy_160 rfl h
    · replace h := (if_neg c7).symm.trans h
      refine xr_if_icmp_ge_n i_X9_copy_128 c7 (q := 159) t_X9_copy_128 (q2 := 131) rfl ?_
      refine xr_aload_n i_X9_copy_131 rfl (q := 132) rfl ?_
      obtain ⟨c1, h⟩ := xi_if_some h
      obtain ⟨b2, eb2, h⟩ := xi_bind_some h
      refine xr_getR i_X9_copy_132 xfe_X9_13 c1 eb2 (q := 135) rfl ?_
      refine xr_bipush i_X9_copy_135 (q := 137) rfl ?_
      refine xr_iload_n i_X9_copy_137 rfl (q := 138) rfl ?_
      refine xr_imul i_X9_copy_138 (q := 139) rfl ?_
      refine xr_iload i_X9_copy_139 rfl (q := 141) rfl ?_
      refine xr_iadd i_X9_copy_141 (q := 142) rfl ?_
      refine xr_iload i_X9_copy_142 rfl (q := 144) rfl ?_
      refine xr_iadd i_X9_copy_144 (q := 145) rfl ?_
      refine xr_aload_n i_X9_copy_145 rfl (q := 146) rfl ?_
      obtain ⟨c3, h⟩ := xi_if_some h
      obtain ⟨b4, eb4, h⟩ := xi_bind_some h
      refine xr_getR i_X9_copy_146 xfe_X9_22 c3 eb4 (q := 149) rfl ?_
      refine xr_iload i_X9_copy_149 rfl (q := 151) rfl ?_
      obtain ⟨c5, h⟩ := xi_if_some h
      refine xr_iaload i_X9_copy_151 c5 (q := 152) rfl ?_
      obtain ⟨c6, h⟩ := xi_if_some h
      refine xr_iastore i_X9_copy_152 c6 (q := 153) rfl ?_
      refine xr_iinc i_X9_copy_153 rfl rfl (L2 := [some (.ref v0), none, none, some (.int v3), some (.int v4), some (.int v5), some (.int (v6 + Int32.ofInt 1))]) rfl (q := 156) rfl ?_
      refine xr_goto i_X9_copy_156 (q := 124) t_X9_copy_156 ?_
      exact xi_X_le (xi_le_s (xi_le_n (xi_le_n (xi_le_s (xi_le_s (xi_le_s (xi_le_s xi_le_z))))))) (ih _ _ _ _ _ _ h)
def G_X9_copy_87 (S : xi_S) : Nat → Nat → Int32 → Int32 → Int32 → Int32 → Int32 → Int32 → xi_M → Option xi_R
  | 0, _, _, _, _, _, _, _, _ => none
  | n + 1, v0, v1, v2, v3, v4, v5, v6, m =>
    if v5 ≤ v6 then
      G_X9_copy_124 S 10000 v0 v3 v4 v5 (Int32.ofInt 0) m
    else
      if S.1 v0 = 11 then (S.2.2 v0 4).bind fun b2 =>
        if S.1 v0 = 11 then (S.2.2 v0 1).bind fun b4 =>
          if S.1 b4 = 0 ∧ ¬ ((((((Int8.ofInt 40).toInt32) * v1) + v2) + v6) < 0 ∨ S.2.1 b4 ≤ Int32.toNatClampNeg (((((Int8.ofInt 40).toInt32) * v1) + v2) + v6)) then
            if S.1 b2 = 0 ∧ ¬ (v6 < 0 ∨ S.2.1 b2 ≤ Int32.toNatClampNeg v6) then
              G_X9_copy_87 S n v0 v1 v2 v3 v4 v5 (v6 + Int32.ofInt 1) (xi_wI m b2 (Int32.toNatClampNeg v6) (m.1 b4 (Int32.toNatClampNeg (((((Int8.ofInt 40).toInt32) * v1) + v2) + v6))))
            else none
          else none
        else none
      else none
set_option maxRecDepth 100000 in
set_option maxHeartbeats 4000000 in
theorem xs_X9_copy_87 {S : xi_S} {res : xi_R} : ∀ (n : Nat) (v0 : Nat) (v1 : Int32) (v2 : Int32) (v3 : Int32) (v4 : Int32) (v5 : Int32) (v6 : Int32) (m : xi_M), G_X9_copy_87 S n v0 v1 v2 v3 v4 v5 v6 m = some res → xi_X S (P_X9_copy S) (87, [some (.ref v0), some (.int v1), some (.int v2), some (.int v3), some (.int v4), some (.int v5), some (.int v6)], [], m) res := by
  intro n
  induction n with
  | zero => intro v0 v1 v2 v3 v4 v5 v6 m h; exact xi_no h
  | succ n ih =>
    intro v0 v1 v2 v3 v4 v5 v6 m h
    unfold G_X9_copy_87 at h
    refine xr_iload i_X9_copy_87 rfl (q := 89) rfl ?_
    refine xr_iload i_X9_copy_89 rfl (q := 91) rfl ?_
    by_cases c7 : v5 ≤ v6
    · replace h := (if_pos c7).symm.trans h
      refine xr_if_icmp_ge_p i_X9_copy_91 c7 (q := 121) t_X9_copy_91 (q2 := 94) rfl ?_
      refine xr_iconst i_X9_copy_121 (q := 122) rfl ?_
      refine xr_istore i_X9_copy_122 rfl (L2 := [some (.ref v0), some (.int v1), some (.int v2), some (.int v3), some (.int v4), some (.int v5), some (.int (Int32.ofInt 0))]) rfl (q := 124) rfl ?_
      exact xi_X_le (xi_le_s (xi_le_n (xi_le_n (xi_le_s (xi_le_s (xi_le_s (xi_le_s xi_le_z))))))) (xs_X9_copy_124 10000 _ _ _ _ _ _ h)
    · replace h := (if_neg c7).symm.trans h
      refine xr_if_icmp_ge_n i_X9_copy_91 c7 (q := 121) t_X9_copy_91 (q2 := 94) rfl ?_
      refine xr_aload_n i_X9_copy_94 rfl (q := 95) rfl ?_
      obtain ⟨c1, h⟩ := xi_if_some h
      obtain ⟨b2, eb2, h⟩ := xi_bind_some h
      refine xr_getR i_X9_copy_95 xfe_X9_22 c1 eb2 (q := 98) rfl ?_
      refine xr_iload i_X9_copy_98 rfl (q := 100) rfl ?_
      refine xr_aload_n i_X9_copy_100 rfl (q := 101) rfl ?_
      obtain ⟨c3, h⟩ := xi_if_some h
      obtain ⟨b4, eb4, h⟩ := xi_bind_some h
      refine xr_getR i_X9_copy_101 xfe_X9_13 c3 eb4 (q := 104) rfl ?_
      refine xr_bipush i_X9_copy_104 (q := 106) rfl ?_
      refine xr_iload_n i_X9_copy_106 rfl (q := 107) rfl ?_
      refine xr_imul i_X9_copy_107 (q := 108) rfl ?_
      refine xr_iload_n i_X9_copy_108 rfl (q := 109) rfl ?_
      refine xr_iadd i_X9_copy_109 (q := 110) rfl ?_
      refine xr_iload i_X9_copy_110 rfl (q := 112) rfl ?_
      refine xr_iadd i_X9_copy_112 (q := 113) rfl ?_
      obtain ⟨c5, h⟩ := xi_if_some h
      refine xr_iaload i_X9_copy_113 c5 (q := 114) rfl ?_
      obtain ⟨c6, h⟩ := xi_if_some h
      refine xr_iastore i_X9_copy_114 c6 (q := 115) rfl ?_
      refine xr_iinc i_X9_copy_115 rfl rfl (L2 := [some (.ref v0), some (.int v1), some (.int v2), some (.int v3), some (.int v4), some (.int v5), some (.int (v6 + Int32.ofInt 1))]) rfl (q := 118) rfl ?_
      refine xr_goto i_X9_copy_118 (q := 87) t_X9_copy_118 ?_
      exact xi_X_le (xi_le_s (xi_le_s (xi_le_s (xi_le_s (xi_le_s (xi_le_s (xi_le_s xi_le_z))))))) (ih _ _ _ _ _ _ _ _ h)
def E_X9_copy (S : xi_S) (v0 : Nat) (v1 : Int32) (v2 : Int32) (v3 : Int32) (v4 : Int32) (v5 : Int32) (m : xi_M) : Option xi_R :=
  xi_bI (E_X9_isRow S v1 m) fun x2 m1 =>
  if x2 = 0 then
    some (some (.int (Int32.ofInt (-1))), m1)
  else
    xi_bI (E_X9_isRow S v3 m1) fun x4 m3 =>
    if x4 = 0 then
      some (some (.int (Int32.ofInt (-1))), m3)
    else
      if 0 ≤ v5 then
        if S.1 v0 = 11 then (S.2.2 v0 0).bind fun b6 =>
          if S.1 b6 = 0 ∧ ¬ (v1 < 0 ∨ S.2.1 b6 ≤ Int32.toNatClampNeg v1) then
            if (m3.1 b6 (Int32.toNatClampNeg v1)) = ((Int8.ofInt (-9)).toInt32) then
              xi_bI (if S.1 v0 = 11 then E_X9_found S v0 (Int32.ofInt 1) m3 else none) fun x9 m8 =>
              some (some (.int x9), m8)
            else
              if S.1 v0 = 11 then (S.2.2 v0 0).bind fun b11 =>
                if S.1 b11 = 0 ∧ ¬ (v3 < 0 ∨ S.2.1 b11 ≤ Int32.toNatClampNeg v3) then
                  if (m3.1 b11 (Int32.toNatClampNeg v3)) = ((Int8.ofInt (-9)).toInt32) then
                    xi_bI (if S.1 v0 = 11 then E_X9_found S v0 (Int32.ofInt 1) m3 else none) fun x24 m23 =>
                    some (some (.int x24), m23)
                  else
                    xi_bI (if S.1 v0 = 11 then E_X9_hasPart S v0 v1 v2 v5 m3 else none) fun x14 m13 =>
                    if x14 = 0 then
                      xi_bI (if S.1 v0 = 11 then E_X9_found S v0 (Int32.ofInt 2) m13 else none) fun x16 m15 =>
                      some (some (.int x16), m15)
                    else
                      xi_bI (if S.1 v0 = 11 then E_X9_hasPart S v0 v3 v4 v5 m13 else none) fun x18 m17 =>
                      if x18 = 0 then
                        xi_bI (if S.1 v0 = 11 then E_X9_found S v0 (Int32.ofInt 2) m17 else none) fun x20 m19 =>
                        some (some (.int x20), m19)
                      else
                        G_X9_copy_87 S 10000 v0 v1 v2 v3 v4 v5 (Int32.ofInt 0) m17
                else none
              else none
          else none
        else none
      else
        xi_bI (if S.1 v0 = 11 then E_X9_found S v0 (Int32.ofInt 5) m3 else none) fun x28 m27 =>
        some (some (.int x28), m27)
def F_X9_copy (S : xi_S) : xi_F := fun As m => match As with
  | [.ref v0, .int v1, .int v2, .int v3, .int v4, .int v5] => E_X9_copy S v0 v1 v2 v3 v4 v5 m
  | _ => none
set_option maxRecDepth 100000 in
set_option maxHeartbeats 4000000 in
theorem xe_X9_copy {S : xi_S} {res : xi_R} (v0 : Nat) (v1 : Int32) (v2 : Int32) (v3 : Int32) (v4 : Int32) (v5 : Int32) (m : xi_M) (h : E_X9_copy S v0 v1 v2 v3 v4 v5 m = some res) : xi_X S (P_X9_copy S) (0, [some (.ref v0), some (.int v1), some (.int v2), some (.int v3), some (.int v4), some (.int v5), none], [], m) res := by
  unfold E_X9_copy at h
  refine xr_iload_n i_X9_copy_0 rfl (q := 1) rfl ?_
  obtain ⟨x2, m1, em1, h⟩ := xi_bI_some h
  refine xr_SI i_X9_copy_1 xcse_X9_67 rfl (As := [.int v1]) rfl (rest := []) rfl ((cc_X9_copy_67 S _ _).trans em1) (q := 4) rfl ?_
  by_cases c31 : x2 = 0
  · replace h := (if_pos c31).symm.trans h
    refine xr_ifCond_eq_p i_X9_copy_4 c31 (q := 14) t_X9_copy_4 (q2 := 7) rfl ?_
    refine xr_iconst i_X9_copy_14 (q := 15) rfl ?_
    exact xr_ireturn i_X9_copy_15 rfl h
  · replace h := (if_neg c31).symm.trans h
    refine xr_ifCond_eq_n i_X9_copy_4 c31 (q := 14) t_X9_copy_4 (q2 := 7) rfl ?_
    refine xr_iload_n i_X9_copy_7 rfl (q := 8) rfl ?_
    obtain ⟨x4, m3, em3, h⟩ := xi_bI_some h
    refine xr_SI i_X9_copy_8 xcse_X9_67 rfl (As := [.int v3]) rfl (rest := []) rfl ((cc_X9_copy_67 S _ _).trans em3) (q := 11) rfl ?_
    by_cases c30 : x4 = 0
    · replace h := (if_pos c30).symm.trans h
      refine xr_ifCond_ne_p i_X9_copy_11 c30 (q := 16) t_X9_copy_11 (q2 := 14) rfl ?_
      refine xr_iconst i_X9_copy_14 (q := 15) rfl ?_
      exact xr_ireturn i_X9_copy_15 rfl h
    · replace h := (if_neg c30).symm.trans h
      refine xr_ifCond_ne_n i_X9_copy_11 c30 (q := 16) t_X9_copy_11 (q2 := 14) rfl ?_
      refine xr_iload i_X9_copy_16 rfl (q := 18) rfl ?_
      by_cases c29 : 0 ≤ v5
      · replace h := (if_pos c29).symm.trans h
        refine xr_ifCond_ge_p i_X9_copy_18 c29 (q := 27) t_X9_copy_18 (q2 := 21) rfl ?_
        refine xr_aload_n i_X9_copy_27 rfl (q := 28) rfl ?_
        obtain ⟨c5, h⟩ := xi_if_some h
        obtain ⟨b6, eb6, h⟩ := xi_bind_some h
        refine xr_getR i_X9_copy_28 xfe_X9_7 c5 eb6 (q := 31) rfl ?_
        refine xr_iload_n i_X9_copy_31 rfl (q := 32) rfl ?_
        obtain ⟨c7, h⟩ := xi_if_some h
        refine xr_iaload i_X9_copy_32 c7 (q := 33) rfl ?_
        refine xr_bipush i_X9_copy_33 (q := 35) rfl ?_
        by_cases c26 : (m3.1 b6 (Int32.toNatClampNeg v1)) = ((Int8.ofInt (-9)).toInt32)
        · replace h := (if_pos c26).symm.trans h
          refine xr_if_icmp_eq_p i_X9_copy_35 c26 (q := 49) t_X9_copy_35 (q2 := 38) rfl ?_
          refine xr_aload_n i_X9_copy_49 rfl (q := 50) rfl ?_
          refine xr_iconst i_X9_copy_50 (q := 51) rfl ?_
          obtain ⟨x9, m8, em8, h⟩ := xi_bI_some h
          refine xr_VI i_X9_copy_51 xcve_X9_71 rfl (As := [.ref v0, .int (Int32.ofInt 1)]) rfl (rest := []) rfl ((cc_X9_copy_71 S _ _ _).trans em8) (q := 54) rfl ?_
          exact xr_ireturn i_X9_copy_54 rfl h
        · replace h := (if_neg c26).symm.trans h
          refine xr_if_icmp_eq_n i_X9_copy_35 c26 (q := 49) t_X9_copy_35 (q2 := 38) rfl ?_
          refine xr_aload_n i_X9_copy_38 rfl (q := 39) rfl ?_
          obtain ⟨c10, h⟩ := xi_if_some h
          obtain ⟨b11, eb11, h⟩ := xi_bind_some h
          refine xr_getR i_X9_copy_39 xfe_X9_7 c10 eb11 (q := 42) rfl ?_
          refine xr_iload_n i_X9_copy_42 rfl (q := 43) rfl ?_
          obtain ⟨c12, h⟩ := xi_if_some h
          refine xr_iaload i_X9_copy_43 c12 (q := 44) rfl ?_
          refine xr_bipush i_X9_copy_44 (q := 46) rfl ?_
          by_cases c25 : (m3.1 b11 (Int32.toNatClampNeg v3)) = ((Int8.ofInt (-9)).toInt32)
          · replace h := (if_pos c25).symm.trans h
            refine xr_if_icmp_ne_p i_X9_copy_46 c25 (q := 55) t_X9_copy_46 (q2 := 49) rfl ?_
            refine xr_aload_n i_X9_copy_49 rfl (q := 50) rfl ?_
            refine xr_iconst i_X9_copy_50 (q := 51) rfl ?_
            obtain ⟨x24, m23, em23, h⟩ := xi_bI_some h
            refine xr_VI i_X9_copy_51 xcve_X9_71 rfl (As := [.ref v0, .int (Int32.ofInt 1)]) rfl (rest := []) rfl ((cc_X9_copy_71 S _ _ _).trans em23) (q := 54) rfl ?_
            exact xr_ireturn i_X9_copy_54 rfl h
          · replace h := (if_neg c25).symm.trans h
            refine xr_if_icmp_ne_n i_X9_copy_46 c25 (q := 55) t_X9_copy_46 (q2 := 49) rfl ?_
            refine xr_aload_n i_X9_copy_55 rfl (q := 56) rfl ?_
            refine xr_iload_n i_X9_copy_56 rfl (q := 57) rfl ?_
            refine xr_iload_n i_X9_copy_57 rfl (q := 58) rfl ?_
            refine xr_iload i_X9_copy_58 rfl (q := 60) rfl ?_
            obtain ⟨x14, m13, em13, h⟩ := xi_bI_some h
            refine xr_VI i_X9_copy_60 xcve_X9_78 rfl (As := [.ref v0, .int v1, .int v2, .int v5]) rfl (rest := []) rfl ((cc_X9_copy_78 S _ _ _ _ _).trans em13) (q := 63) rfl ?_
            by_cases c22 : x14 = 0
            · replace h := (if_pos c22).symm.trans h
              refine xr_ifCond_eq_p i_X9_copy_63 c22 (q := 78) t_X9_copy_63 (q2 := 66) rfl ?_
              refine xr_aload_n i_X9_copy_78 rfl (q := 79) rfl ?_
              refine xr_iconst i_X9_copy_79 (q := 80) rfl ?_
              obtain ⟨x16, m15, em15, h⟩ := xi_bI_some h
              refine xr_VI i_X9_copy_80 xcve_X9_71 rfl (As := [.ref v0, .int (Int32.ofInt 2)]) rfl (rest := []) rfl ((cc_X9_copy_71 S _ _ _).trans em15) (q := 83) rfl ?_
              exact xr_ireturn i_X9_copy_83 rfl h
            · replace h := (if_neg c22).symm.trans h
              refine xr_ifCond_eq_n i_X9_copy_63 c22 (q := 78) t_X9_copy_63 (q2 := 66) rfl ?_
              refine xr_aload_n i_X9_copy_66 rfl (q := 67) rfl ?_
              refine xr_iload_n i_X9_copy_67 rfl (q := 68) rfl ?_
              refine xr_iload i_X9_copy_68 rfl (q := 70) rfl ?_
              refine xr_iload i_X9_copy_70 rfl (q := 72) rfl ?_
              obtain ⟨x18, m17, em17, h⟩ := xi_bI_some h
              refine xr_VI i_X9_copy_72 xcve_X9_78 rfl (As := [.ref v0, .int v3, .int v4, .int v5]) rfl (rest := []) rfl ((cc_X9_copy_78 S _ _ _ _ _).trans em17) (q := 75) rfl ?_
              by_cases c21 : x18 = 0
              · replace h := (if_pos c21).symm.trans h
                refine xr_ifCond_ne_p i_X9_copy_75 c21 (q := 84) t_X9_copy_75 (q2 := 78) rfl ?_
                refine xr_aload_n i_X9_copy_78 rfl (q := 79) rfl ?_
                refine xr_iconst i_X9_copy_79 (q := 80) rfl ?_
                obtain ⟨x20, m19, em19, h⟩ := xi_bI_some h
                refine xr_VI i_X9_copy_80 xcve_X9_71 rfl (As := [.ref v0, .int (Int32.ofInt 2)]) rfl (rest := []) rfl ((cc_X9_copy_71 S _ _ _).trans em19) (q := 83) rfl ?_
                exact xr_ireturn i_X9_copy_83 rfl h
              · replace h := (if_neg c21).symm.trans h
                refine xr_ifCond_ne_n i_X9_copy_75 c21 (q := 84) t_X9_copy_75 (q2 := 78) rfl ?_
                refine xr_iconst i_X9_copy_84 (q := 85) rfl ?_
                refine xr_istore i_X9_copy_85 rfl (L2 := [some (.ref v0), some (.int v1), some (.int v2), some (.int v3), some (.int v4), some (.int v5), some (.int (Int32.ofInt 0))]) rfl (q := 87) rfl ?_
                exact xi_X_le (xi_le_s (xi_le_s (xi_le_s (xi_le_s (xi_le_s (xi_le_s (xi_le_s xi_le_z))))))) (xs_X9_copy_87 10000 _ _ _ _ _ _ _ _ h)
      · replace h := (if_neg c29).symm.trans h
        refine xr_ifCond_ge_n i_X9_copy_18 c29 (q := 27) t_X9_copy_18 (q2 := 21) rfl ?_
        refine xr_aload_n i_X9_copy_21 rfl (q := 22) rfl ?_
        refine xr_iconst i_X9_copy_22 (q := 23) rfl ?_
        obtain ⟨x28, m27, em27, h⟩ := xi_bI_some h
        refine xr_VI i_X9_copy_23 xcve_X9_71 rfl (As := [.ref v0, .int (Int32.ofInt 5)]) rfl (rest := []) rfl ((cc_X9_copy_71 S _ _ _).trans em27) (q := 26) rfl ?_
        exact xr_ireturn i_X9_copy_26 rfl h
set_option maxRecDepth 100000 in
theorem po_X9_copy {l : Launch} {E : xi_E} {S : xi_S} {D : va_G} {tys : List (ClassId × FieldType)} (hC : xCx E S tys) : xi_Pok l E S D vwCl tys xNs RX9 xTs cX9_copy 7 2 (P_X9_copy S) := ⟨xi_dc_ok, by rw [hC.2]; exact xfo_X9, xkio_X9, xklo_X9, xi_calls_ok (ins := .invokestatic) (List.forall_mem_cons.mpr ⟨(xc_X9_67 (sn_X9_isRow hC) (by decide)), fun _ h => absurd h List.not_mem_nil⟩), xi_calls_ok (ins := .invokevirtual) (List.forall_mem_cons.mpr ⟨(xc_X9_71 hC.1 (sn_X9_found hC) (by decide)), List.forall_mem_cons.mpr ⟨(xc_X9_78 hC.1 (sn_X9_hasPart hC) (by decide)), fun _ h => absurd h List.not_mem_nil⟩⟩)⟩
theorem sn_X9_copy {l : Launch} {E : xi_E} {S : xi_S} {D : va_G} {tys : List (ClassId × FieldType)} (hC : xCx E S tys) : ∀ As m1 r m2, F_X9_copy S As m1 = some (r, m2) → xi_Sound l E S D vwCl tys xNs xTs yX9_copy cX9_copy 7 (some .int) 2 As m1 r m2 := by
  intro As m1 r m2 h
  unfold F_X9_copy at h
  split at h
  · exact xi_meth (P := P_X9_copy S) (by decide) hC.1 (po_X9_copy hC) (Nat.le_of_ble_eq_true rfl) rfl (xe_X9_copy _ _ _ _ _ _ _ h)
  · exact xi_no h
theorem i_X9_mean_0 : xi_dc cX9_mean 0 = some (.iload_n 1, 1) := by decide +kernel
theorem i_X9_mean_1 : xi_dc cX9_mean 1 = some (.invokestatic 67, 3) := by decide +kernel
theorem i_X9_mean_4 : xi_dc cX9_mean 4 = some (.ifCond .ne 5, 3) := by decide +kernel
theorem t_X9_mean_4 : ((4 : Nat) : Int) + 5 = ((9 : Nat) : Int) := by decide +kernel
theorem i_X9_mean_7 : xi_dc cX9_mean 7 = some (.iconst (-1), 1) := by decide +kernel
theorem i_X9_mean_8 : xi_dc cX9_mean 8 = some (.ireturn, 1) := by decide +kernel
theorem i_X9_mean_9 : xi_dc cX9_mean 9 = some (.aload_n 0, 1) := by decide +kernel
theorem i_X9_mean_10 : xi_dc cX9_mean 10 = some (.getfield 7, 3) := by decide +kernel
theorem i_X9_mean_13 : xi_dc cX9_mean 13 = some (.iload_n 1, 1) := by decide +kernel
theorem i_X9_mean_14 : xi_dc cX9_mean 14 = some (.iaload, 1) := by decide +kernel
theorem i_X9_mean_15 : xi_dc cX9_mean 15 = some (.bipush (-9), 2) := by decide +kernel
theorem i_X9_mean_17 : xi_dc cX9_mean 17 = some (.if_icmp .ne 9, 3) := by decide +kernel
theorem t_X9_mean_17 : ((17 : Nat) : Int) + 9 = ((26 : Nat) : Int) := by decide +kernel
theorem i_X9_mean_20 : xi_dc cX9_mean 20 = some (.aload_n 0, 1) := by decide +kernel
theorem i_X9_mean_21 : xi_dc cX9_mean 21 = some (.iconst 1, 1) := by decide +kernel
theorem i_X9_mean_22 : xi_dc cX9_mean 22 = some (.invokevirtual 71, 3) := by decide +kernel
theorem i_X9_mean_25 : xi_dc cX9_mean 25 = some (.ireturn, 1) := by decide +kernel
theorem i_X9_mean_26 : xi_dc cX9_mean 26 = some (.aload_n 0, 1) := by decide +kernel
theorem i_X9_mean_27 : xi_dc cX9_mean 27 = some (.getfield 7, 3) := by decide +kernel
theorem i_X9_mean_30 : xi_dc cX9_mean 30 = some (.iload_n 1, 1) := by decide +kernel
theorem i_X9_mean_31 : xi_dc cX9_mean 31 = some (.iaload, 1) := by decide +kernel
theorem i_X9_mean_32 : xi_dc cX9_mean 32 = some (.ifCond .ne 9, 3) := by decide +kernel
theorem t_X9_mean_32 : ((32 : Nat) : Int) + 9 = ((41 : Nat) : Int) := by decide +kernel
theorem i_X9_mean_35 : xi_dc cX9_mean 35 = some (.aload_n 0, 1) := by decide +kernel
theorem i_X9_mean_36 : xi_dc cX9_mean 36 = some (.iconst 4, 1) := by decide +kernel
theorem i_X9_mean_37 : xi_dc cX9_mean 37 = some (.invokevirtual 71, 3) := by decide +kernel
theorem i_X9_mean_40 : xi_dc cX9_mean 40 = some (.ireturn, 1) := by decide +kernel
theorem i_X9_mean_41 : xi_dc cX9_mean 41 = some (.lconst 0, 1) := by decide +kernel
theorem i_X9_mean_42 : xi_dc cX9_mean 42 = some (.lstore_n 2, 1) := by decide +kernel
theorem i_X9_mean_43 : xi_dc cX9_mean 43 = some (.iconst 0, 1) := by decide +kernel
theorem i_X9_mean_44 : xi_dc cX9_mean 44 = some (.istore 4, 2) := by decide +kernel
theorem i_X9_mean_46 : xi_dc cX9_mean 46 = some (.iload 4, 2) := by decide +kernel
theorem i_X9_mean_48 : xi_dc cX9_mean 48 = some (.aload_n 0, 1) := by decide +kernel
theorem i_X9_mean_49 : xi_dc cX9_mean 49 = some (.getfield 7, 3) := by decide +kernel
theorem i_X9_mean_52 : xi_dc cX9_mean 52 = some (.iload_n 1, 1) := by decide +kernel
theorem i_X9_mean_53 : xi_dc cX9_mean 53 = some (.iaload, 1) := by decide +kernel
theorem i_X9_mean_54 : xi_dc cX9_mean 54 = some (.if_icmp .ge 25, 3) := by decide +kernel
theorem t_X9_mean_54 : ((54 : Nat) : Int) + 25 = ((79 : Nat) : Int) := by decide +kernel
theorem i_X9_mean_57 : xi_dc cX9_mean 57 = some (.lload_n 2, 1) := by decide +kernel
theorem i_X9_mean_58 : xi_dc cX9_mean 58 = some (.aload_n 0, 1) := by decide +kernel
theorem i_X9_mean_59 : xi_dc cX9_mean 59 = some (.getfield 13, 3) := by decide +kernel
theorem i_X9_mean_62 : xi_dc cX9_mean 62 = some (.bipush 40, 2) := by decide +kernel
theorem i_X9_mean_64 : xi_dc cX9_mean 64 = some (.iload_n 1, 1) := by decide +kernel
theorem i_X9_mean_65 : xi_dc cX9_mean 65 = some (.imul, 1) := by decide +kernel
theorem i_X9_mean_66 : xi_dc cX9_mean 66 = some (.iload 4, 2) := by decide +kernel
theorem i_X9_mean_68 : xi_dc cX9_mean 68 = some (.iadd, 1) := by decide +kernel
theorem i_X9_mean_69 : xi_dc cX9_mean 69 = some (.iaload, 1) := by decide +kernel
theorem i_X9_mean_70 : xi_dc cX9_mean 70 = some (.i2l, 1) := by decide +kernel
theorem i_X9_mean_71 : xi_dc cX9_mean 71 = some (.ladd, 1) := by decide +kernel
theorem i_X9_mean_72 : xi_dc cX9_mean 72 = some (.lstore_n 2, 1) := by decide +kernel
theorem i_X9_mean_73 : xi_dc cX9_mean 73 = some (.iinc 4 1, 3) := by decide +kernel
theorem i_X9_mean_76 : xi_dc cX9_mean 76 = some (.goto (-30), 3) := by decide +kernel
theorem t_X9_mean_76 : ((76 : Nat) : Int) + (-30) = ((46 : Nat) : Int) := by decide +kernel
theorem i_X9_mean_79 : xi_dc cX9_mean 79 = some (.aload_n 0, 1) := by decide +kernel
theorem i_X9_mean_80 : xi_dc cX9_mean 80 = some (.lload_n 2, 1) := by decide +kernel
theorem i_X9_mean_81 : xi_dc cX9_mean 81 = some (.aload_n 0, 1) := by decide +kernel
theorem i_X9_mean_82 : xi_dc cX9_mean 82 = some (.getfield 7, 3) := by decide +kernel
theorem i_X9_mean_85 : xi_dc cX9_mean 85 = some (.iload_n 1, 1) := by decide +kernel
theorem i_X9_mean_86 : xi_dc cX9_mean 86 = some (.iaload, 1) := by decide +kernel
theorem i_X9_mean_87 : xi_dc cX9_mean 87 = some (.i2l, 1) := by decide +kernel
theorem i_X9_mean_88 : xi_dc cX9_mean 88 = some (.ldiv, 1) := by decide +kernel
theorem i_X9_mean_89 : xi_dc cX9_mean 89 = some (.l2i, 1) := by decide +kernel
theorem i_X9_mean_90 : xi_dc cX9_mean 90 = some (.invokevirtual 75, 3) := by decide +kernel
theorem i_X9_mean_93 : xi_dc cX9_mean 93 = some (.ireturn, 1) := by decide +kernel
def P_X9_mean (S : xi_S) : xi_P := (xi_dc cX9_mean, xi_tab xfl_X9, xi_tab xki_X9, xi_tab xkl_X9, xi_tab xcs_X9, xi_tab xcv_X9, xi_calls [(67, xi_wS 1 (F_X9_isRow S))], xi_calls [(71, xi_wV S 11 1 (F_X9_found S)), (75, xi_wV S 11 1 (F_X9_tells S))], 1)
theorem cc_X9_mean_67 (S : xi_S) (a0 : Int32) (m : xi_M) : (P_X9_mean S).2.2.2.2.2.2.1 67 [.int a0] m = (E_X9_isRow S a0 m) := by
  show xi_calls [(67, xi_wS 1 (F_X9_isRow S))] 67 [.int a0] m = _
  refine Eq.trans (b := xi_wS 1 (F_X9_isRow S) [.int a0] m) (xi_calls_hit rfl) ?_
  exact xi_wS_eq rfl
theorem cc_X9_mean_71 (S : xi_S) (a0 : Nat) (a1 : Int32) (m : xi_M) : (P_X9_mean S).2.2.2.2.2.2.2.1 71 [.ref a0, .int a1] m = (if S.1 a0 = 11 then E_X9_found S a0 a1 m else none) := by
  show xi_calls [(71, xi_wV S 11 1 (F_X9_found S)), (75, xi_wV S 11 1 (F_X9_tells S))] 71 [.ref a0, .int a1] m = _
  refine Eq.trans (b := xi_wV S 11 1 (F_X9_found S) [.ref a0, .int a1] m) (xi_calls_hit rfl) ?_
  exact xi_wV_eq rfl
theorem cc_X9_mean_75 (S : xi_S) (a0 : Nat) (a1 : Int32) (m : xi_M) : (P_X9_mean S).2.2.2.2.2.2.2.1 75 [.ref a0, .int a1] m = (if S.1 a0 = 11 then E_X9_tells S a0 a1 m else none) := by
  show xi_calls [(71, xi_wV S 11 1 (F_X9_found S)), (75, xi_wV S 11 1 (F_X9_tells S))] 75 [.ref a0, .int a1] m = _
  refine Eq.trans (b := xi_calls [(75, xi_wV S 11 1 (F_X9_tells S))] 75 [.ref a0, .int a1] m) (xi_calls_miss rfl) ?_
  refine Eq.trans (b := xi_wV S 11 1 (F_X9_tells S) [.ref a0, .int a1] m) (xi_calls_hit rfl) ?_
  exact xi_wV_eq rfl
def G_X9_mean_46 (S : xi_S) : Nat → Nat → Int32 → Int64 → Int32 → xi_M → Option xi_R
  | 0, _, _, _, _, _ => none
  | n + 1, v0, v1, v2, v4, m =>
    if S.1 v0 = 11 then (S.2.2 v0 0).bind fun b2 =>
      if S.1 b2 = 0 ∧ ¬ (v1 < 0 ∨ S.2.1 b2 ≤ Int32.toNatClampNeg v1) then
        if (m.1 b2 (Int32.toNatClampNeg v1)) ≤ v4 then
          if S.1 v0 = 11 then (S.2.2 v0 0).bind fun b5 =>
            if S.1 b5 = 0 ∧ ¬ (v1 < 0 ∨ S.2.1 b5 ≤ Int32.toNatClampNeg v1) then
              if (Int32.toInt64 (m.1 b5 (Int32.toNatClampNeg v1))) = 0 then none else
              xi_bI (if S.1 v0 = 11 then E_X9_tells S v0 (Int64.toInt32 (v2 / (Int32.toInt64 (m.1 b5 (Int32.toNatClampNeg v1))))) m else none) fun x9 m8 =>
              some (some (.int x9), m8)
            else none
          else none
        else
          if S.1 v0 = 11 then (S.2.2 v0 1).bind fun b11 =>
            if S.1 b11 = 0 ∧ ¬ (((((Int8.ofInt 40).toInt32) * v1) + v4) < 0 ∨ S.2.1 b11 ≤ Int32.toNatClampNeg ((((Int8.ofInt 40).toInt32) * v1) + v4)) then
              G_X9_mean_46 S n v0 v1 (v2 + (Int32.toInt64 (m.1 b11 (Int32.toNatClampNeg ((((Int8.ofInt 40).toInt32) * v1) + v4))))) (v4 + Int32.ofInt 1) m
            else none
          else none
      else none
    else none
set_option maxRecDepth 100000 in
set_option maxHeartbeats 4000000 in
theorem xs_X9_mean_46 {S : xi_S} {res : xi_R} : ∀ (n : Nat) (v0 : Nat) (v1 : Int32) (v2 : Int64) (v4 : Int32) (m : xi_M), G_X9_mean_46 S n v0 v1 v2 v4 m = some res → xi_X S (P_X9_mean S) (46, [some (.ref v0), some (.int v1), some (.long v2), none, some (.int v4)], [], m) res := by
  intro n
  induction n with
  | zero => intro v0 v1 v2 v4 m h; exact xi_no h
  | succ n ih =>
    intro v0 v1 v2 v4 m h
    unfold G_X9_mean_46 at h
    refine xr_iload i_X9_mean_46 rfl (q := 48) rfl ?_
    refine xr_aload_n i_X9_mean_48 rfl (q := 49) rfl ?_
    obtain ⟨c1, h⟩ := xi_if_some h
    obtain ⟨b2, eb2, h⟩ := xi_bind_some h
    refine xr_getR i_X9_mean_49 xfe_X9_7 c1 eb2 (q := 52) rfl ?_
    refine xr_iload_n i_X9_mean_52 rfl (q := 53) rfl ?_
    obtain ⟨c3, h⟩ := xi_if_some h
    refine xr_iaload i_X9_mean_53 c3 (q := 54) rfl ?_
    by_cases c13 : (m.1 b2 (Int32.toNatClampNeg v1)) ≤ v4
    · replace h := (if_pos c13).symm.trans h
      refine xr_if_icmp_ge_p i_X9_mean_54 c13 (q := 79) t_X9_mean_54 (q2 := 57) rfl ?_
      refine xr_aload_n i_X9_mean_79 rfl (q := 80) rfl ?_
      refine xr_lload_n i_X9_mean_80 rfl (q := 81) rfl ?_
      refine xr_aload_n i_X9_mean_81 rfl (q := 82) rfl ?_
      obtain ⟨c4, h⟩ := xi_if_some h
      obtain ⟨b5, eb5, h⟩ := xi_bind_some h
      refine xr_getR i_X9_mean_82 xfe_X9_7 c4 eb5 (q := 85) rfl ?_
      refine xr_iload_n i_X9_mean_85 rfl (q := 86) rfl ?_
      obtain ⟨c6, h⟩ := xi_if_some h
      refine xr_iaload i_X9_mean_86 c6 (q := 87) rfl ?_
      refine xr_i2l i_X9_mean_87 (q := 88) rfl ?_
      obtain ⟨c7, h⟩ := xi_ifn_some h
      refine xr_ldiv i_X9_mean_88 c7 (q := 89) rfl ?_
      refine xr_l2i i_X9_mean_89 (q := 90) rfl ?_
      obtain ⟨x9, m8, em8, h⟩ := xi_bI_some h
      refine xr_VI i_X9_mean_90 xcve_X9_75 rfl (As := [.ref v0, .int (Int64.toInt32 (v2 / (Int32.toInt64 (m.1 b5 (Int32.toNatClampNeg v1)))))]) rfl (rest := []) rfl ((cc_X9_mean_75 S _ _ _).trans em8) (q := 93) rfl ?_
      exact xr_ireturn i_X9_mean_93 rfl h
    · replace h := (if_neg c13).symm.trans h
      refine xr_if_icmp_ge_n i_X9_mean_54 c13 (q := 79) t_X9_mean_54 (q2 := 57) rfl ?_
      refine xr_lload_n i_X9_mean_57 rfl (q := 58) rfl ?_
      refine xr_aload_n i_X9_mean_58 rfl (q := 59) rfl ?_
      obtain ⟨c10, h⟩ := xi_if_some h
      obtain ⟨b11, eb11, h⟩ := xi_bind_some h
      refine xr_getR i_X9_mean_59 xfe_X9_13 c10 eb11 (q := 62) rfl ?_
      refine xr_bipush i_X9_mean_62 (q := 64) rfl ?_
      refine xr_iload_n i_X9_mean_64 rfl (q := 65) rfl ?_
      refine xr_imul i_X9_mean_65 (q := 66) rfl ?_
      refine xr_iload i_X9_mean_66 rfl (q := 68) rfl ?_
      refine xr_iadd i_X9_mean_68 (q := 69) rfl ?_
      obtain ⟨c12, h⟩ := xi_if_some h
      refine xr_iaload i_X9_mean_69 c12 (q := 70) rfl ?_
      refine xr_i2l i_X9_mean_70 (q := 71) rfl ?_
      refine xr_ladd i_X9_mean_71 (q := 72) rfl ?_
      refine xr_lstore_n i_X9_mean_72 rfl (L2 := [some (.ref v0), some (.int v1), some (.long (v2 + (Int32.toInt64 (m.1 b11 (Int32.toNatClampNeg ((((Int8.ofInt 40).toInt32) * v1) + v4)))))), none, some (.int v4)]) rfl (q := 73) rfl ?_
      refine xr_iinc i_X9_mean_73 rfl rfl (L2 := [some (.ref v0), some (.int v1), some (.long (v2 + (Int32.toInt64 (m.1 b11 (Int32.toNatClampNeg ((((Int8.ofInt 40).toInt32) * v1) + v4)))))), none, some (.int (v4 + Int32.ofInt 1))]) rfl (q := 76) rfl ?_
      refine xr_goto i_X9_mean_76 (q := 46) t_X9_mean_76 ?_
      exact xi_X_le (xi_le_s (xi_le_s (xi_le_s (xi_le_n (xi_le_s xi_le_z))))) (ih _ _ _ _ _ h)
def E_X9_mean (S : xi_S) (v0 : Nat) (v1 : Int32) (m : xi_M) : Option xi_R :=
  xi_bI (E_X9_isRow S v1 m) fun x2 m1 =>
  if x2 = 0 then
    some (some (.int (Int32.ofInt (-1))), m1)
  else
    if S.1 v0 = 11 then (S.2.2 v0 0).bind fun b4 =>
      if S.1 b4 = 0 ∧ ¬ (v1 < 0 ∨ S.2.1 b4 ≤ Int32.toNatClampNeg v1) then
        if (m1.1 b4 (Int32.toNatClampNeg v1)) = ((Int8.ofInt (-9)).toInt32) then
          xi_bI (if S.1 v0 = 11 then E_X9_found S v0 (Int32.ofInt 1) m1 else none) fun x13 m12 =>
          some (some (.int x13), m12)
        else
          if S.1 v0 = 11 then (S.2.2 v0 0).bind fun b7 =>
            if S.1 b7 = 0 ∧ ¬ (v1 < 0 ∨ S.2.1 b7 ≤ Int32.toNatClampNeg v1) then
              if (m1.1 b7 (Int32.toNatClampNeg v1)) = 0 then
                xi_bI (if S.1 v0 = 11 then E_X9_found S v0 (Int32.ofInt 4) m1 else none) fun x10 m9 =>
                some (some (.int x10), m9)
              else
                G_X9_mean_46 S 10000 v0 v1 (Int64.ofNat ((0 : Fin 2) : Nat)) (Int32.ofInt 0) m1
            else none
          else none
      else none
    else none
def F_X9_mean (S : xi_S) : xi_F := fun As m => match As with
  | [.ref v0, .int v1] => E_X9_mean S v0 v1 m
  | _ => none
set_option maxRecDepth 100000 in
set_option maxHeartbeats 4000000 in
theorem xe_X9_mean {S : xi_S} {res : xi_R} (v0 : Nat) (v1 : Int32) (m : xi_M) (h : E_X9_mean S v0 v1 m = some res) : xi_X S (P_X9_mean S) (0, [some (.ref v0), some (.int v1), none, none, none], [], m) res := by
  unfold E_X9_mean at h
  refine xr_iload_n i_X9_mean_0 rfl (q := 1) rfl ?_
  obtain ⟨x2, m1, em1, h⟩ := xi_bI_some h
  refine xr_SI i_X9_mean_1 xcse_X9_67 rfl (As := [.int v1]) rfl (rest := []) rfl ((cc_X9_mean_67 S _ _).trans em1) (q := 4) rfl ?_
  by_cases c15 : x2 = 0
  · replace h := (if_pos c15).symm.trans h
    refine xr_ifCond_ne_p i_X9_mean_4 c15 (q := 9) t_X9_mean_4 (q2 := 7) rfl ?_
    refine xr_iconst i_X9_mean_7 (q := 8) rfl ?_
    exact xr_ireturn i_X9_mean_8 rfl h
  · replace h := (if_neg c15).symm.trans h
    refine xr_ifCond_ne_n i_X9_mean_4 c15 (q := 9) t_X9_mean_4 (q2 := 7) rfl ?_
    refine xr_aload_n i_X9_mean_9 rfl (q := 10) rfl ?_
    obtain ⟨c3, h⟩ := xi_if_some h
    obtain ⟨b4, eb4, h⟩ := xi_bind_some h
    refine xr_getR i_X9_mean_10 xfe_X9_7 c3 eb4 (q := 13) rfl ?_
    refine xr_iload_n i_X9_mean_13 rfl (q := 14) rfl ?_
    obtain ⟨c5, h⟩ := xi_if_some h
    refine xr_iaload i_X9_mean_14 c5 (q := 15) rfl ?_
    refine xr_bipush i_X9_mean_15 (q := 17) rfl ?_
    by_cases c14 : (m1.1 b4 (Int32.toNatClampNeg v1)) = ((Int8.ofInt (-9)).toInt32)
    · replace h := (if_pos c14).symm.trans h
      refine xr_if_icmp_ne_p i_X9_mean_17 c14 (q := 26) t_X9_mean_17 (q2 := 20) rfl ?_
      refine xr_aload_n i_X9_mean_20 rfl (q := 21) rfl ?_
      refine xr_iconst i_X9_mean_21 (q := 22) rfl ?_
      obtain ⟨x13, m12, em12, h⟩ := xi_bI_some h
      refine xr_VI i_X9_mean_22 xcve_X9_71 rfl (As := [.ref v0, .int (Int32.ofInt 1)]) rfl (rest := []) rfl ((cc_X9_mean_71 S _ _ _).trans em12) (q := 25) rfl ?_
      exact xr_ireturn i_X9_mean_25 rfl h
    · replace h := (if_neg c14).symm.trans h
      refine xr_if_icmp_ne_n i_X9_mean_17 c14 (q := 26) t_X9_mean_17 (q2 := 20) rfl ?_
      refine xr_aload_n i_X9_mean_26 rfl (q := 27) rfl ?_
      obtain ⟨c6, h⟩ := xi_if_some h
      obtain ⟨b7, eb7, h⟩ := xi_bind_some h
      refine xr_getR i_X9_mean_27 xfe_X9_7 c6 eb7 (q := 30) rfl ?_
      refine xr_iload_n i_X9_mean_30 rfl (q := 31) rfl ?_
      obtain ⟨c8, h⟩ := xi_if_some h
      refine xr_iaload i_X9_mean_31 c8 (q := 32) rfl ?_
      by_cases c11 : (m1.1 b7 (Int32.toNatClampNeg v1)) = 0
      · replace h := (if_pos c11).symm.trans h
        refine xr_ifCond_ne_p i_X9_mean_32 c11 (q := 41) t_X9_mean_32 (q2 := 35) rfl ?_
        refine xr_aload_n i_X9_mean_35 rfl (q := 36) rfl ?_
        refine xr_iconst i_X9_mean_36 (q := 37) rfl ?_
        obtain ⟨x10, m9, em9, h⟩ := xi_bI_some h
        refine xr_VI i_X9_mean_37 xcve_X9_71 rfl (As := [.ref v0, .int (Int32.ofInt 4)]) rfl (rest := []) rfl ((cc_X9_mean_71 S _ _ _).trans em9) (q := 40) rfl ?_
        exact xr_ireturn i_X9_mean_40 rfl h
      · replace h := (if_neg c11).symm.trans h
        refine xr_ifCond_ne_n i_X9_mean_32 c11 (q := 41) t_X9_mean_32 (q2 := 35) rfl ?_
        refine xr_lconst i_X9_mean_41 (q := 42) rfl ?_
        refine xr_lstore_n i_X9_mean_42 rfl (L2 := [some (.ref v0), some (.int v1), some (.long (Int64.ofNat ((0 : Fin 2) : Nat))), none, none]) rfl (q := 43) rfl ?_
        refine xr_iconst i_X9_mean_43 (q := 44) rfl ?_
        refine xr_istore i_X9_mean_44 rfl (L2 := [some (.ref v0), some (.int v1), some (.long (Int64.ofNat ((0 : Fin 2) : Nat))), none, some (.int (Int32.ofInt 0))]) rfl (q := 46) rfl ?_
        exact xi_X_le (xi_le_s (xi_le_s (xi_le_s (xi_le_n (xi_le_s xi_le_z))))) (xs_X9_mean_46 10000 _ _ _ _ _ h)
set_option maxRecDepth 100000 in
theorem po_X9_mean {l : Launch} {E : xi_E} {S : xi_S} {D : va_G} {tys : List (ClassId × FieldType)} (hC : xCx E S tys) : xi_Pok l E S D vwCl tys xNs RX9 xTs cX9_mean 5 2 (P_X9_mean S) := ⟨xi_dc_ok, by rw [hC.2]; exact xfo_X9, xkio_X9, xklo_X9, xi_calls_ok (ins := .invokestatic) (List.forall_mem_cons.mpr ⟨(xc_X9_67 (sn_X9_isRow hC) (by decide)), fun _ h => absurd h List.not_mem_nil⟩), xi_calls_ok (ins := .invokevirtual) (List.forall_mem_cons.mpr ⟨(xc_X9_71 hC.1 (sn_X9_found hC) (by decide)), List.forall_mem_cons.mpr ⟨(xc_X9_75 hC.1 (sn_X9_tells hC) (by decide)), fun _ h => absurd h List.not_mem_nil⟩⟩)⟩
theorem sn_X9_mean {l : Launch} {E : xi_E} {S : xi_S} {D : va_G} {tys : List (ClassId × FieldType)} (hC : xCx E S tys) : ∀ As m1 r m2, F_X9_mean S As m1 = some (r, m2) → xi_Sound l E S D vwCl tys xNs xTs yX9_mean cX9_mean 5 (some .int) 2 As m1 r m2 := by
  intro As m1 r m2 h
  unfold F_X9_mean at h
  split at h
  · exact xi_meth (P := P_X9_mean S) (by decide) hC.1 (po_X9_mean hC) (Nat.le_of_ble_eq_true rfl) rfl (xe_X9_mean _ _ _ h)
  · exact xi_no h
theorem i_X9_text_0 : xi_dc cX9_text 0 = some (.iload_n 1, 1) := by decide +kernel
theorem i_X9_text_1 : xi_dc cX9_text 1 = some (.invokestatic 81, 3) := by decide +kernel
theorem i_X9_text_4 : xi_dc cX9_text 4 = some (.ifCond .eq 9, 3) := by decide +kernel
theorem t_X9_text_4 : ((4 : Nat) : Int) + 9 = ((13 : Nat) : Int) := by decide +kernel
theorem i_X9_text_7 : xi_dc cX9_text 7 = some (.iload_n 2, 1) := by decide +kernel
theorem i_X9_text_8 : xi_dc cX9_text 8 = some (.bipush 60, 2) := by decide +kernel
theorem i_X9_text_10 : xi_dc cX9_text 10 = some (.if_icmp .le 5, 3) := by decide +kernel
theorem t_X9_text_10 : ((10 : Nat) : Int) + 5 = ((15 : Nat) : Int) := by decide +kernel
theorem i_X9_text_13 : xi_dc cX9_text 13 = some (.iconst (-1), 1) := by decide +kernel
theorem i_X9_text_14 : xi_dc cX9_text 14 = some (.ireturn, 1) := by decide +kernel
theorem i_X9_text_15 : xi_dc cX9_text 15 = some (.iload_n 2, 1) := by decide +kernel
theorem i_X9_text_16 : xi_dc cX9_text 16 = some (.ifCond .ge 9, 3) := by decide +kernel
theorem t_X9_text_16 : ((16 : Nat) : Int) + 9 = ((25 : Nat) : Int) := by decide +kernel
theorem i_X9_text_19 : xi_dc cX9_text 19 = some (.aload_n 0, 1) := by decide +kernel
theorem i_X9_text_20 : xi_dc cX9_text 20 = some (.iconst 5, 1) := by decide +kernel
theorem i_X9_text_21 : xi_dc cX9_text 21 = some (.invokevirtual 71, 3) := by decide +kernel
theorem i_X9_text_24 : xi_dc cX9_text 24 = some (.ireturn, 1) := by decide +kernel
theorem i_X9_text_25 : xi_dc cX9_text 25 = some (.aload_n 0, 1) := by decide +kernel
theorem i_X9_text_26 : xi_dc cX9_text 26 = some (.getfield 16, 3) := by decide +kernel
theorem i_X9_text_29 : xi_dc cX9_text 29 = some (.iload_n 1, 1) := by decide +kernel
theorem i_X9_text_30 : xi_dc cX9_text 30 = some (.iload_n 2, 1) := by decide +kernel
theorem i_X9_text_31 : xi_dc cX9_text 31 = some (.iastore, 1) := by decide +kernel
theorem i_X9_text_32 : xi_dc cX9_text 32 = some (.iconst 0, 1) := by decide +kernel
theorem i_X9_text_33 : xi_dc cX9_text 33 = some (.istore_n 3, 1) := by decide +kernel
theorem i_X9_text_34 : xi_dc cX9_text 34 = some (.iload_n 3, 1) := by decide +kernel
theorem i_X9_text_35 : xi_dc cX9_text 35 = some (.bipush 60, 2) := by decide +kernel
theorem i_X9_text_37 : xi_dc cX9_text 37 = some (.if_icmp .ge 22, 3) := by decide +kernel
theorem t_X9_text_37 : ((37 : Nat) : Int) + 22 = ((59 : Nat) : Int) := by decide +kernel
theorem i_X9_text_40 : xi_dc cX9_text 40 = some (.aload_n 0, 1) := by decide +kernel
theorem i_X9_text_41 : xi_dc cX9_text 41 = some (.getfield 19, 3) := by decide +kernel
theorem i_X9_text_44 : xi_dc cX9_text 44 = some (.bipush 60, 2) := by decide +kernel
theorem i_X9_text_46 : xi_dc cX9_text 46 = some (.iload_n 1, 1) := by decide +kernel
theorem i_X9_text_47 : xi_dc cX9_text 47 = some (.imul, 1) := by decide +kernel
theorem i_X9_text_48 : xi_dc cX9_text 48 = some (.iload_n 3, 1) := by decide +kernel
theorem i_X9_text_49 : xi_dc cX9_text 49 = some (.iadd, 1) := by decide +kernel
theorem i_X9_text_50 : xi_dc cX9_text 50 = some (.bipush 32, 2) := by decide +kernel
theorem i_X9_text_52 : xi_dc cX9_text 52 = some (.iastore, 1) := by decide +kernel
theorem i_X9_text_53 : xi_dc cX9_text 53 = some (.iinc 3 1, 3) := by decide +kernel
theorem i_X9_text_56 : xi_dc cX9_text 56 = some (.goto (-22), 3) := by decide +kernel
theorem t_X9_text_56 : ((56 : Nat) : Int) + (-22) = ((34 : Nat) : Int) := by decide +kernel
theorem i_X9_text_59 : xi_dc cX9_text 59 = some (.iload_n 2, 1) := by decide +kernel
theorem i_X9_text_60 : xi_dc cX9_text 60 = some (.ireturn, 1) := by decide +kernel
def P_X9_text (S : xi_S) : xi_P := (xi_dc cX9_text, xi_tab xfl_X9, xi_tab xki_X9, xi_tab xkl_X9, xi_tab xcs_X9, xi_tab xcv_X9, xi_calls [(81, xi_wS 1 (F_X9_isText S))], xi_calls [(71, xi_wV S 11 1 (F_X9_found S))], 1)
theorem cc_X9_text_81 (S : xi_S) (a0 : Int32) (m : xi_M) : (P_X9_text S).2.2.2.2.2.2.1 81 [.int a0] m = (E_X9_isText S a0 m) := by
  show xi_calls [(81, xi_wS 1 (F_X9_isText S))] 81 [.int a0] m = _
  refine Eq.trans (b := xi_wS 1 (F_X9_isText S) [.int a0] m) (xi_calls_hit rfl) ?_
  exact xi_wS_eq rfl
theorem cc_X9_text_71 (S : xi_S) (a0 : Nat) (a1 : Int32) (m : xi_M) : (P_X9_text S).2.2.2.2.2.2.2.1 71 [.ref a0, .int a1] m = (if S.1 a0 = 11 then E_X9_found S a0 a1 m else none) := by
  show xi_calls [(71, xi_wV S 11 1 (F_X9_found S))] 71 [.ref a0, .int a1] m = _
  refine Eq.trans (b := xi_wV S 11 1 (F_X9_found S) [.ref a0, .int a1] m) (xi_calls_hit rfl) ?_
  exact xi_wV_eq rfl
def G_X9_text_34 (S : xi_S) : Nat → Nat → Int32 → Int32 → Int32 → xi_M → Option xi_R
  | 0, _, _, _, _, _ => none
  | n + 1, v0, v1, v2, v3, m =>
    if ((Int8.ofInt 60).toInt32) ≤ v3 then
      some (some (.int v2), m)
    else
      if S.1 v0 = 11 then (S.2.2 v0 3).bind fun b2 =>
        if S.1 b2 = 0 ∧ ¬ (((((Int8.ofInt 60).toInt32) * v1) + v3) < 0 ∨ S.2.1 b2 ≤ Int32.toNatClampNeg ((((Int8.ofInt 60).toInt32) * v1) + v3)) then
          G_X9_text_34 S n v0 v1 v2 (v3 + Int32.ofInt 1) (xi_wI m b2 (Int32.toNatClampNeg ((((Int8.ofInt 60).toInt32) * v1) + v3)) ((Int8.ofInt 32).toInt32))
        else none
      else none
set_option maxRecDepth 100000 in
set_option maxHeartbeats 4000000 in
theorem xs_X9_text_34 {S : xi_S} {res : xi_R} : ∀ (n : Nat) (v0 : Nat) (v1 : Int32) (v2 : Int32) (v3 : Int32) (m : xi_M), G_X9_text_34 S n v0 v1 v2 v3 m = some res → xi_X S (P_X9_text S) (34, [some (.ref v0), some (.int v1), some (.int v2), some (.int v3)], [], m) res := by
  intro n
  induction n with
  | zero => intro v0 v1 v2 v3 m h; exact xi_no h
  | succ n ih =>
    intro v0 v1 v2 v3 m h
    unfold G_X9_text_34 at h
    refine xr_iload_n i_X9_text_34 rfl (q := 35) rfl ?_
    refine xr_bipush i_X9_text_35 (q := 37) rfl ?_
    by_cases c4 : ((Int8.ofInt 60).toInt32) ≤ v3
    · replace h := (if_pos c4).symm.trans h
      refine xr_if_icmp_ge_p i_X9_text_37 c4 (q := 59) t_X9_text_37 (q2 := 40) rfl ?_
      refine xr_iload_n i_X9_text_59 rfl (q := 60) rfl ?_
      exact xr_ireturn i_X9_text_60 rfl h
    · replace h := (if_neg c4).symm.trans h
      refine xr_if_icmp_ge_n i_X9_text_37 c4 (q := 59) t_X9_text_37 (q2 := 40) rfl ?_
      refine xr_aload_n i_X9_text_40 rfl (q := 41) rfl ?_
      obtain ⟨c1, h⟩ := xi_if_some h
      obtain ⟨b2, eb2, h⟩ := xi_bind_some h
      refine xr_getR i_X9_text_41 xfe_X9_19 c1 eb2 (q := 44) rfl ?_
      refine xr_bipush i_X9_text_44 (q := 46) rfl ?_
      refine xr_iload_n i_X9_text_46 rfl (q := 47) rfl ?_
      refine xr_imul i_X9_text_47 (q := 48) rfl ?_
      refine xr_iload_n i_X9_text_48 rfl (q := 49) rfl ?_
      refine xr_iadd i_X9_text_49 (q := 50) rfl ?_
      refine xr_bipush i_X9_text_50 (q := 52) rfl ?_
      obtain ⟨c3, h⟩ := xi_if_some h
      refine xr_iastore i_X9_text_52 c3 (q := 53) rfl ?_
      refine xr_iinc i_X9_text_53 rfl rfl (L2 := [some (.ref v0), some (.int v1), some (.int v2), some (.int (v3 + Int32.ofInt 1))]) rfl (q := 56) rfl ?_
      refine xr_goto i_X9_text_56 (q := 34) t_X9_text_56 ?_
      exact xi_X_le (xi_le_s (xi_le_s (xi_le_s (xi_le_s xi_le_z)))) (ih _ _ _ _ _ h)
def E_X9_text (S : xi_S) (v0 : Nat) (v1 : Int32) (v2 : Int32) (m : xi_M) : Option xi_R :=
  xi_bI (E_X9_isText S v1 m) fun x2 m1 =>
  if x2 = 0 then
    some (some (.int (Int32.ofInt (-1))), m1)
  else
    if v2 ≤ ((Int8.ofInt 60).toInt32) then
      if 0 ≤ v2 then
        if S.1 v0 = 11 then (S.2.2 v0 2).bind fun b4 =>
          if S.1 b4 = 0 ∧ ¬ (v1 < 0 ∨ S.2.1 b4 ≤ Int32.toNatClampNeg v1) then
            G_X9_text_34 S 10000 v0 v1 v2 (Int32.ofInt 0) (xi_wI m1 b4 (Int32.toNatClampNeg v1) v2)
          else none
        else none
      else
        xi_bI (if S.1 v0 = 11 then E_X9_found S v0 (Int32.ofInt 5) m1 else none) fun x7 m6 =>
        some (some (.int x7), m6)
    else
      some (some (.int (Int32.ofInt (-1))), m1)
def F_X9_text (S : xi_S) : xi_F := fun As m => match As with
  | [.ref v0, .int v1, .int v2] => E_X9_text S v0 v1 v2 m
  | _ => none
set_option maxRecDepth 100000 in
set_option maxHeartbeats 4000000 in
theorem xe_X9_text {S : xi_S} {res : xi_R} (v0 : Nat) (v1 : Int32) (v2 : Int32) (m : xi_M) (h : E_X9_text S v0 v1 v2 m = some res) : xi_X S (P_X9_text S) (0, [some (.ref v0), some (.int v1), some (.int v2), none], [], m) res := by
  unfold E_X9_text at h
  refine xr_iload_n i_X9_text_0 rfl (q := 1) rfl ?_
  obtain ⟨x2, m1, em1, h⟩ := xi_bI_some h
  refine xr_SI i_X9_text_1 xcse_X9_81 rfl (As := [.int v1]) rfl (rest := []) rfl ((cc_X9_text_81 S _ _).trans em1) (q := 4) rfl ?_
  by_cases c10 : x2 = 0
  · replace h := (if_pos c10).symm.trans h
    refine xr_ifCond_eq_p i_X9_text_4 c10 (q := 13) t_X9_text_4 (q2 := 7) rfl ?_
    refine xr_iconst i_X9_text_13 (q := 14) rfl ?_
    exact xr_ireturn i_X9_text_14 rfl h
  · replace h := (if_neg c10).symm.trans h
    refine xr_ifCond_eq_n i_X9_text_4 c10 (q := 13) t_X9_text_4 (q2 := 7) rfl ?_
    refine xr_iload_n i_X9_text_7 rfl (q := 8) rfl ?_
    refine xr_bipush i_X9_text_8 (q := 10) rfl ?_
    by_cases c9 : v2 ≤ ((Int8.ofInt 60).toInt32)
    · replace h := (if_pos c9).symm.trans h
      refine xr_if_icmp_le_p i_X9_text_10 c9 (q := 15) t_X9_text_10 (q2 := 13) rfl ?_
      refine xr_iload_n i_X9_text_15 rfl (q := 16) rfl ?_
      by_cases c8 : 0 ≤ v2
      · replace h := (if_pos c8).symm.trans h
        refine xr_ifCond_ge_p i_X9_text_16 c8 (q := 25) t_X9_text_16 (q2 := 19) rfl ?_
        refine xr_aload_n i_X9_text_25 rfl (q := 26) rfl ?_
        obtain ⟨c3, h⟩ := xi_if_some h
        obtain ⟨b4, eb4, h⟩ := xi_bind_some h
        refine xr_getR i_X9_text_26 xfe_X9_16 c3 eb4 (q := 29) rfl ?_
        refine xr_iload_n i_X9_text_29 rfl (q := 30) rfl ?_
        refine xr_iload_n i_X9_text_30 rfl (q := 31) rfl ?_
        obtain ⟨c5, h⟩ := xi_if_some h
        refine xr_iastore i_X9_text_31 c5 (q := 32) rfl ?_
        refine xr_iconst i_X9_text_32 (q := 33) rfl ?_
        refine xr_istore_n i_X9_text_33 rfl (L2 := [some (.ref v0), some (.int v1), some (.int v2), some (.int (Int32.ofInt 0))]) rfl (q := 34) rfl ?_
        exact xi_X_le (xi_le_s (xi_le_s (xi_le_s (xi_le_s xi_le_z)))) (xs_X9_text_34 10000 _ _ _ _ _ h)
      · replace h := (if_neg c8).symm.trans h
        refine xr_ifCond_ge_n i_X9_text_16 c8 (q := 25) t_X9_text_16 (q2 := 19) rfl ?_
        refine xr_aload_n i_X9_text_19 rfl (q := 20) rfl ?_
        refine xr_iconst i_X9_text_20 (q := 21) rfl ?_
        obtain ⟨x7, m6, em6, h⟩ := xi_bI_some h
        refine xr_VI i_X9_text_21 xcve_X9_71 rfl (As := [.ref v0, .int (Int32.ofInt 5)]) rfl (rest := []) rfl ((cc_X9_text_71 S _ _ _).trans em6) (q := 24) rfl ?_
        exact xr_ireturn i_X9_text_24 rfl h
    · replace h := (if_neg c9).symm.trans h
      refine xr_if_icmp_le_n i_X9_text_10 c9 (q := 15) t_X9_text_10 (q2 := 13) rfl ?_
      refine xr_iconst i_X9_text_13 (q := 14) rfl ?_
      exact xr_ireturn i_X9_text_14 rfl h
set_option maxRecDepth 100000 in
theorem po_X9_text {l : Launch} {E : xi_E} {S : xi_S} {D : va_G} {tys : List (ClassId × FieldType)} (hC : xCx E S tys) : xi_Pok l E S D vwCl tys xNs RX9 xTs cX9_text 4 2 (P_X9_text S) := ⟨xi_dc_ok, by rw [hC.2]; exact xfo_X9, xkio_X9, xklo_X9, xi_calls_ok (ins := .invokestatic) (List.forall_mem_cons.mpr ⟨(xc_X9_81 (sn_X9_isText hC) (by decide)), fun _ h => absurd h List.not_mem_nil⟩), xi_calls_ok (ins := .invokevirtual) (List.forall_mem_cons.mpr ⟨(xc_X9_71 hC.1 (sn_X9_found hC) (by decide)), fun _ h => absurd h List.not_mem_nil⟩)⟩
theorem sn_X9_text {l : Launch} {E : xi_E} {S : xi_S} {D : va_G} {tys : List (ClassId × FieldType)} (hC : xCx E S tys) : ∀ As m1 r m2, F_X9_text S As m1 = some (r, m2) → xi_Sound l E S D vwCl tys xNs xTs yX9_text cX9_text 4 (some .int) 2 As m1 r m2 := by
  intro As m1 r m2 h
  unfold F_X9_text at h
  split at h
  · exact xi_meth (P := P_X9_text S) (by decide) hC.1 (po_X9_text hC) (Nat.le_of_ble_eq_true rfl) rfl (xe_X9_text _ _ _ _ h)
  · exact xi_no h
theorem i_X9_put_0 : xi_dc cX9_put 0 = some (.iload_n 1, 1) := by decide +kernel
theorem i_X9_put_1 : xi_dc cX9_put 1 = some (.invokestatic 81, 3) := by decide +kernel
theorem i_X9_put_4 : xi_dc cX9_put 4 = some (.ifCond .ne 5, 3) := by decide +kernel
theorem t_X9_put_4 : ((4 : Nat) : Int) + 5 = ((9 : Nat) : Int) := by decide +kernel
theorem i_X9_put_7 : xi_dc cX9_put 7 = some (.iconst (-1), 1) := by decide +kernel
theorem i_X9_put_8 : xi_dc cX9_put 8 = some (.ireturn, 1) := by decide +kernel
theorem i_X9_put_9 : xi_dc cX9_put 9 = some (.aload_n 0, 1) := by decide +kernel
theorem i_X9_put_10 : xi_dc cX9_put 10 = some (.getfield 16, 3) := by decide +kernel
theorem i_X9_put_13 : xi_dc cX9_put 13 = some (.iload_n 1, 1) := by decide +kernel
theorem i_X9_put_14 : xi_dc cX9_put 14 = some (.iaload, 1) := by decide +kernel
theorem i_X9_put_15 : xi_dc cX9_put 15 = some (.bipush (-9), 2) := by decide +kernel
theorem i_X9_put_17 : xi_dc cX9_put 17 = some (.if_icmp .ne 9, 3) := by decide +kernel
theorem t_X9_put_17 : ((17 : Nat) : Int) + 9 = ((26 : Nat) : Int) := by decide +kernel
theorem i_X9_put_20 : xi_dc cX9_put 20 = some (.aload_n 0, 1) := by decide +kernel
theorem i_X9_put_21 : xi_dc cX9_put 21 = some (.iconst 1, 1) := by decide +kernel
theorem i_X9_put_22 : xi_dc cX9_put 22 = some (.invokevirtual 71, 3) := by decide +kernel
theorem i_X9_put_25 : xi_dc cX9_put 25 = some (.ireturn, 1) := by decide +kernel
theorem i_X9_put_26 : xi_dc cX9_put 26 = some (.iload_n 2, 1) := by decide +kernel
theorem i_X9_put_27 : xi_dc cX9_put 27 = some (.iconst 0, 1) := by decide +kernel
theorem i_X9_put_28 : xi_dc cX9_put 28 = some (.aload_n 0, 1) := by decide +kernel
theorem i_X9_put_29 : xi_dc cX9_put 29 = some (.getfield 16, 3) := by decide +kernel
theorem i_X9_put_32 : xi_dc cX9_put 32 = some (.iload_n 1, 1) := by decide +kernel
theorem i_X9_put_33 : xi_dc cX9_put 33 = some (.iaload, 1) := by decide +kernel
theorem i_X9_put_34 : xi_dc cX9_put 34 = some (.iconst 1, 1) := by decide +kernel
theorem i_X9_put_35 : xi_dc cX9_put 35 = some (.isub, 1) := by decide +kernel
theorem i_X9_put_36 : xi_dc cX9_put 36 = some (.invokestatic 63, 3) := by decide +kernel
theorem i_X9_put_39 : xi_dc cX9_put 39 = some (.ifCond .ne 9, 3) := by decide +kernel
theorem t_X9_put_39 : ((39 : Nat) : Int) + 9 = ((48 : Nat) : Int) := by decide +kernel
theorem i_X9_put_42 : xi_dc cX9_put 42 = some (.aload_n 0, 1) := by decide +kernel
theorem i_X9_put_43 : xi_dc cX9_put 43 = some (.iconst 2, 1) := by decide +kernel
theorem i_X9_put_44 : xi_dc cX9_put 44 = some (.invokevirtual 71, 3) := by decide +kernel
theorem i_X9_put_47 : xi_dc cX9_put 47 = some (.ireturn, 1) := by decide +kernel
theorem i_X9_put_48 : xi_dc cX9_put 48 = some (.aload_n 0, 1) := by decide +kernel
theorem i_X9_put_49 : xi_dc cX9_put 49 = some (.getfield 19, 3) := by decide +kernel
theorem i_X9_put_52 : xi_dc cX9_put 52 = some (.bipush 60, 2) := by decide +kernel
theorem i_X9_put_54 : xi_dc cX9_put 54 = some (.iload_n 1, 1) := by decide +kernel
theorem i_X9_put_55 : xi_dc cX9_put 55 = some (.imul, 1) := by decide +kernel
theorem i_X9_put_56 : xi_dc cX9_put 56 = some (.iload_n 2, 1) := by decide +kernel
theorem i_X9_put_57 : xi_dc cX9_put 57 = some (.iadd, 1) := by decide +kernel
theorem i_X9_put_58 : xi_dc cX9_put 58 = some (.iaload, 1) := by decide +kernel
theorem i_X9_put_59 : xi_dc cX9_put 59 = some (.istore 4, 2) := by decide +kernel
theorem i_X9_put_61 : xi_dc cX9_put 61 = some (.iload_n 3, 1) := by decide +kernel
theorem i_X9_put_62 : xi_dc cX9_put 62 = some (.sipush 255, 3) := by decide +kernel
theorem i_X9_put_65 : xi_dc cX9_put 65 = some (.iand, 1) := by decide +kernel
theorem i_X9_put_66 : xi_dc cX9_put 66 = some (.istore 5, 2) := by decide +kernel
theorem i_X9_put_68 : xi_dc cX9_put 68 = some (.aload_n 0, 1) := by decide +kernel
theorem i_X9_put_69 : xi_dc cX9_put 69 = some (.getfield 19, 3) := by decide +kernel
theorem i_X9_put_72 : xi_dc cX9_put 72 = some (.bipush 60, 2) := by decide +kernel
theorem i_X9_put_74 : xi_dc cX9_put 74 = some (.iload_n 1, 1) := by decide +kernel
theorem i_X9_put_75 : xi_dc cX9_put 75 = some (.imul, 1) := by decide +kernel
theorem i_X9_put_76 : xi_dc cX9_put 76 = some (.iload_n 2, 1) := by decide +kernel
theorem i_X9_put_77 : xi_dc cX9_put 77 = some (.iadd, 1) := by decide +kernel
theorem i_X9_put_78 : xi_dc cX9_put 78 = some (.iload 5, 2) := by decide +kernel
theorem i_X9_put_80 : xi_dc cX9_put 80 = some (.bipush 127, 2) := by decide +kernel
theorem i_X9_put_82 : xi_dc cX9_put 82 = some (.if_icmp .le 12, 3) := by decide +kernel
theorem t_X9_put_82 : ((82 : Nat) : Int) + 12 = ((94 : Nat) : Int) := by decide +kernel
theorem i_X9_put_85 : xi_dc cX9_put 85 = some (.iload 5, 2) := by decide +kernel
theorem i_X9_put_87 : xi_dc cX9_put 87 = some (.sipush 256, 3) := by decide +kernel
theorem i_X9_put_90 : xi_dc cX9_put 90 = some (.isub, 1) := by decide +kernel
theorem i_X9_put_91 : xi_dc cX9_put 91 = some (.goto 5, 3) := by decide +kernel
theorem t_X9_put_91 : ((91 : Nat) : Int) + 5 = ((96 : Nat) : Int) := by decide +kernel
theorem i_X9_put_94 : xi_dc cX9_put 94 = some (.iload 5, 2) := by decide +kernel
theorem i_X9_put_96 : xi_dc cX9_put 96 = some (.iastore, 1) := by decide +kernel
theorem i_X9_put_97 : xi_dc cX9_put 97 = some (.iload 4, 2) := by decide +kernel
theorem i_X9_put_99 : xi_dc cX9_put 99 = some (.sipush 1000, 3) := by decide +kernel
theorem i_X9_put_102 : xi_dc cX9_put 102 = some (.iadd, 1) := by decide +kernel
theorem i_X9_put_103 : xi_dc cX9_put 103 = some (.ireturn, 1) := by decide +kernel
def P_X9_put (S : xi_S) : xi_P := (xi_dc cX9_put, xi_tab xfl_X9, xi_tab xki_X9, xi_tab xkl_X9, xi_tab xcs_X9, xi_tab xcv_X9, xi_calls [(63, xi_wS 3 (F_X9_in0 S)), (81, xi_wS 1 (F_X9_isText S))], xi_calls [(71, xi_wV S 11 1 (F_X9_found S))], 1)
theorem cc_X9_put_63 (S : xi_S) (a0 : Int32) (a1 : Int32) (a2 : Int32) (m : xi_M) : (P_X9_put S).2.2.2.2.2.2.1 63 [.int a0, .int a1, .int a2] m = (E_X9_in0 S a0 a1 a2 m) := by
  show xi_calls [(63, xi_wS 3 (F_X9_in0 S)), (81, xi_wS 1 (F_X9_isText S))] 63 [.int a0, .int a1, .int a2] m = _
  refine Eq.trans (b := xi_wS 3 (F_X9_in0 S) [.int a0, .int a1, .int a2] m) (xi_calls_hit rfl) ?_
  exact xi_wS_eq rfl
theorem cc_X9_put_81 (S : xi_S) (a0 : Int32) (m : xi_M) : (P_X9_put S).2.2.2.2.2.2.1 81 [.int a0] m = (E_X9_isText S a0 m) := by
  show xi_calls [(63, xi_wS 3 (F_X9_in0 S)), (81, xi_wS 1 (F_X9_isText S))] 81 [.int a0] m = _
  refine Eq.trans (b := xi_calls [(81, xi_wS 1 (F_X9_isText S))] 81 [.int a0] m) (xi_calls_miss rfl) ?_
  refine Eq.trans (b := xi_wS 1 (F_X9_isText S) [.int a0] m) (xi_calls_hit rfl) ?_
  exact xi_wS_eq rfl
theorem cc_X9_put_71 (S : xi_S) (a0 : Nat) (a1 : Int32) (m : xi_M) : (P_X9_put S).2.2.2.2.2.2.2.1 71 [.ref a0, .int a1] m = (if S.1 a0 = 11 then E_X9_found S a0 a1 m else none) := by
  show xi_calls [(71, xi_wV S 11 1 (F_X9_found S))] 71 [.ref a0, .int a1] m = _
  refine Eq.trans (b := xi_wV S 11 1 (F_X9_found S) [.ref a0, .int a1] m) (xi_calls_hit rfl) ?_
  exact xi_wV_eq rfl
def E_X9_put (S : xi_S) (v0 : Nat) (v1 : Int32) (v2 : Int32) (v3 : Int32) (m : xi_M) : Option xi_R :=
  xi_bI (E_X9_isText S v1 m) fun x2 m1 =>
  if x2 = 0 then
    some (some (.int (Int32.ofInt (-1))), m1)
  else
    if S.1 v0 = 11 then (S.2.2 v0 2).bind fun b4 =>
      if S.1 b4 = 0 ∧ ¬ (v1 < 0 ∨ S.2.1 b4 ≤ Int32.toNatClampNeg v1) then
        if (m1.1 b4 (Int32.toNatClampNeg v1)) = ((Int8.ofInt (-9)).toInt32) then
          xi_bI (if S.1 v0 = 11 then E_X9_found S v0 (Int32.ofInt 1) m1 else none) fun x23 m22 =>
          some (some (.int x23), m22)
        else
          if S.1 v0 = 11 then (S.2.2 v0 2).bind fun b7 =>
            if S.1 b7 = 0 ∧ ¬ (v1 < 0 ∨ S.2.1 b7 ≤ Int32.toNatClampNeg v1) then
              xi_bI (E_X9_in0 S v2 (Int32.ofInt 0) ((m1.1 b7 (Int32.toNatClampNeg v1)) - (Int32.ofInt 1)) m1) fun x10 m9 =>
              if x10 = 0 then
                xi_bI (if S.1 v0 = 11 then E_X9_found S v0 (Int32.ofInt 2) m9 else none) fun x20 m19 =>
                some (some (.int x20), m19)
              else
                if S.1 v0 = 11 then (S.2.2 v0 3).bind fun b12 =>
                  if S.1 b12 = 0 ∧ ¬ (((((Int8.ofInt 60).toInt32) * v1) + v2) < 0 ∨ S.2.1 b12 ≤ Int32.toNatClampNeg ((((Int8.ofInt 60).toInt32) * v1) + v2)) then
                    if S.1 v0 = 11 then (S.2.2 v0 3).bind fun b15 =>
                      if (v3 &&& ((Int16.ofInt 255).toInt32)) ≤ ((Int8.ofInt 127).toInt32) then
                        if S.1 b15 = 0 ∧ ¬ (((((Int8.ofInt 60).toInt32) * v1) + v2) < 0 ∨ S.2.1 b15 ≤ Int32.toNatClampNeg ((((Int8.ofInt 60).toInt32) * v1) + v2)) then
                          some (some (.int ((m9.1 b12 (Int32.toNatClampNeg ((((Int8.ofInt 60).toInt32) * v1) + v2))) + ((Int16.ofInt 1000).toInt32))), (xi_wI m9 b15 (Int32.toNatClampNeg ((((Int8.ofInt 60).toInt32) * v1) + v2)) (v3 &&& ((Int16.ofInt 255).toInt32))))
                        else none
                      else
                        if S.1 b15 = 0 ∧ ¬ (((((Int8.ofInt 60).toInt32) * v1) + v2) < 0 ∨ S.2.1 b15 ≤ Int32.toNatClampNeg ((((Int8.ofInt 60).toInt32) * v1) + v2)) then
                          some (some (.int ((m9.1 b12 (Int32.toNatClampNeg ((((Int8.ofInt 60).toInt32) * v1) + v2))) + ((Int16.ofInt 1000).toInt32))), (xi_wI m9 b15 (Int32.toNatClampNeg ((((Int8.ofInt 60).toInt32) * v1) + v2)) ((v3 &&& ((Int16.ofInt 255).toInt32)) - ((Int16.ofInt 256).toInt32))))
                        else none
                    else none
                  else none
                else none
            else none
          else none
      else none
    else none
def F_X9_put (S : xi_S) : xi_F := fun As m => match As with
  | [.ref v0, .int v1, .int v2, .int v3] => E_X9_put S v0 v1 v2 v3 m
  | _ => none
set_option maxRecDepth 100000 in
set_option maxHeartbeats 4000000 in
theorem xe_X9_put {S : xi_S} {res : xi_R} (v0 : Nat) (v1 : Int32) (v2 : Int32) (v3 : Int32) (m : xi_M) (h : E_X9_put S v0 v1 v2 v3 m = some res) : xi_X S (P_X9_put S) (0, [some (.ref v0), some (.int v1), some (.int v2), some (.int v3), none, none], [], m) res := by
  unfold E_X9_put at h
  refine xr_iload_n i_X9_put_0 rfl (q := 1) rfl ?_
  obtain ⟨x2, m1, em1, h⟩ := xi_bI_some h
  refine xr_SI i_X9_put_1 xcse_X9_81 rfl (As := [.int v1]) rfl (rest := []) rfl ((cc_X9_put_81 S _ _).trans em1) (q := 4) rfl ?_
  by_cases c25 : x2 = 0
  · replace h := (if_pos c25).symm.trans h
    refine xr_ifCond_ne_p i_X9_put_4 c25 (q := 9) t_X9_put_4 (q2 := 7) rfl ?_
    refine xr_iconst i_X9_put_7 (q := 8) rfl ?_
    exact xr_ireturn i_X9_put_8 rfl h
  · replace h := (if_neg c25).symm.trans h
    refine xr_ifCond_ne_n i_X9_put_4 c25 (q := 9) t_X9_put_4 (q2 := 7) rfl ?_
    refine xr_aload_n i_X9_put_9 rfl (q := 10) rfl ?_
    obtain ⟨c3, h⟩ := xi_if_some h
    obtain ⟨b4, eb4, h⟩ := xi_bind_some h
    refine xr_getR i_X9_put_10 xfe_X9_16 c3 eb4 (q := 13) rfl ?_
    refine xr_iload_n i_X9_put_13 rfl (q := 14) rfl ?_
    obtain ⟨c5, h⟩ := xi_if_some h
    refine xr_iaload i_X9_put_14 c5 (q := 15) rfl ?_
    refine xr_bipush i_X9_put_15 (q := 17) rfl ?_
    by_cases c24 : (m1.1 b4 (Int32.toNatClampNeg v1)) = ((Int8.ofInt (-9)).toInt32)
    · replace h := (if_pos c24).symm.trans h
      refine xr_if_icmp_ne_p i_X9_put_17 c24 (q := 26) t_X9_put_17 (q2 := 20) rfl ?_
      refine xr_aload_n i_X9_put_20 rfl (q := 21) rfl ?_
      refine xr_iconst i_X9_put_21 (q := 22) rfl ?_
      obtain ⟨x23, m22, em22, h⟩ := xi_bI_some h
      refine xr_VI i_X9_put_22 xcve_X9_71 rfl (As := [.ref v0, .int (Int32.ofInt 1)]) rfl (rest := []) rfl ((cc_X9_put_71 S _ _ _).trans em22) (q := 25) rfl ?_
      exact xr_ireturn i_X9_put_25 rfl h
    · replace h := (if_neg c24).symm.trans h
      refine xr_if_icmp_ne_n i_X9_put_17 c24 (q := 26) t_X9_put_17 (q2 := 20) rfl ?_
      refine xr_iload_n i_X9_put_26 rfl (q := 27) rfl ?_
      refine xr_iconst i_X9_put_27 (q := 28) rfl ?_
      refine xr_aload_n i_X9_put_28 rfl (q := 29) rfl ?_
      obtain ⟨c6, h⟩ := xi_if_some h
      obtain ⟨b7, eb7, h⟩ := xi_bind_some h
      refine xr_getR i_X9_put_29 xfe_X9_16 c6 eb7 (q := 32) rfl ?_
      refine xr_iload_n i_X9_put_32 rfl (q := 33) rfl ?_
      obtain ⟨c8, h⟩ := xi_if_some h
      refine xr_iaload i_X9_put_33 c8 (q := 34) rfl ?_
      refine xr_iconst i_X9_put_34 (q := 35) rfl ?_
      refine xr_isub i_X9_put_35 (q := 36) rfl ?_
      obtain ⟨x10, m9, em9, h⟩ := xi_bI_some h
      refine xr_SI i_X9_put_36 xcse_X9_63 rfl (As := [.int v2, .int (Int32.ofInt 0), .int ((m1.1 b7 (Int32.toNatClampNeg v1)) - (Int32.ofInt 1))]) rfl (rest := []) rfl ((cc_X9_put_63 S _ _ _ _).trans em9) (q := 39) rfl ?_
      by_cases c21 : x10 = 0
      · replace h := (if_pos c21).symm.trans h
        refine xr_ifCond_ne_p i_X9_put_39 c21 (q := 48) t_X9_put_39 (q2 := 42) rfl ?_
        refine xr_aload_n i_X9_put_42 rfl (q := 43) rfl ?_
        refine xr_iconst i_X9_put_43 (q := 44) rfl ?_
        obtain ⟨x20, m19, em19, h⟩ := xi_bI_some h
        refine xr_VI i_X9_put_44 xcve_X9_71 rfl (As := [.ref v0, .int (Int32.ofInt 2)]) rfl (rest := []) rfl ((cc_X9_put_71 S _ _ _).trans em19) (q := 47) rfl ?_
        exact xr_ireturn i_X9_put_47 rfl h
      · replace h := (if_neg c21).symm.trans h
        refine xr_ifCond_ne_n i_X9_put_39 c21 (q := 48) t_X9_put_39 (q2 := 42) rfl ?_
        refine xr_aload_n i_X9_put_48 rfl (q := 49) rfl ?_
        obtain ⟨c11, h⟩ := xi_if_some h
        obtain ⟨b12, eb12, h⟩ := xi_bind_some h
        refine xr_getR i_X9_put_49 xfe_X9_19 c11 eb12 (q := 52) rfl ?_
        refine xr_bipush i_X9_put_52 (q := 54) rfl ?_
        refine xr_iload_n i_X9_put_54 rfl (q := 55) rfl ?_
        refine xr_imul i_X9_put_55 (q := 56) rfl ?_
        refine xr_iload_n i_X9_put_56 rfl (q := 57) rfl ?_
        refine xr_iadd i_X9_put_57 (q := 58) rfl ?_
        obtain ⟨c13, h⟩ := xi_if_some h
        refine xr_iaload i_X9_put_58 c13 (q := 59) rfl ?_
        refine xr_istore i_X9_put_59 rfl (L2 := [some (.ref v0), some (.int v1), some (.int v2), some (.int v3), some (.int (m9.1 b12 (Int32.toNatClampNeg ((((Int8.ofInt 60).toInt32) * v1) + v2)))), none]) rfl (q := 61) rfl ?_
        refine xr_iload_n i_X9_put_61 rfl (q := 62) rfl ?_
        refine xr_sipush i_X9_put_62 (q := 65) rfl ?_
        refine xr_iand i_X9_put_65 (q := 66) rfl ?_
        refine xr_istore i_X9_put_66 rfl (L2 := [some (.ref v0), some (.int v1), some (.int v2), some (.int v3), some (.int (m9.1 b12 (Int32.toNatClampNeg ((((Int8.ofInt 60).toInt32) * v1) + v2)))), some (.int (v3 &&& ((Int16.ofInt 255).toInt32)))]) rfl (q := 68) rfl ?_
        refine xr_aload_n i_X9_put_68 rfl (q := 69) rfl ?_
        obtain ⟨c14, h⟩ := xi_if_some h
        obtain ⟨b15, eb15, h⟩ := xi_bind_some h
        refine xr_getR i_X9_put_69 xfe_X9_19 c14 eb15 (q := 72) rfl ?_
        refine xr_bipush i_X9_put_72 (q := 74) rfl ?_
        refine xr_iload_n i_X9_put_74 rfl (q := 75) rfl ?_
        refine xr_imul i_X9_put_75 (q := 76) rfl ?_
        refine xr_iload_n i_X9_put_76 rfl (q := 77) rfl ?_
        refine xr_iadd i_X9_put_77 (q := 78) rfl ?_
        refine xr_iload i_X9_put_78 rfl (q := 80) rfl ?_
        refine xr_bipush i_X9_put_80 (q := 82) rfl ?_
        by_cases c18 : (v3 &&& ((Int16.ofInt 255).toInt32)) ≤ ((Int8.ofInt 127).toInt32)
        · replace h := (if_pos c18).symm.trans h
          refine xr_if_icmp_le_p i_X9_put_82 c18 (q := 94) t_X9_put_82 (q2 := 85) rfl ?_
          refine xr_iload i_X9_put_94 rfl (q := 96) rfl ?_
          obtain ⟨c16, h⟩ := xi_if_some h
          refine xr_iastore i_X9_put_96 c16 (q := 97) rfl ?_
          refine xr_iload i_X9_put_97 rfl (q := 99) rfl ?_
          refine xr_sipush i_X9_put_99 (q := 102) rfl ?_
          refine xr_iadd i_X9_put_102 (q := 103) rfl ?_
          exact xr_ireturn i_X9_put_103 rfl h
        · replace h := (if_neg c18).symm.trans h
          refine xr_if_icmp_le_n i_X9_put_82 c18 (q := 94) t_X9_put_82 (q2 := 85) rfl ?_
          refine xr_iload i_X9_put_85 rfl (q := 87) rfl ?_
          refine xr_sipush i_X9_put_87 (q := 90) rfl ?_
          refine xr_isub i_X9_put_90 (q := 91) rfl ?_
          refine xr_goto i_X9_put_91 (q := 96) t_X9_put_91 ?_
          obtain ⟨c17, h⟩ := xi_if_some h
          refine xr_iastore i_X9_put_96 c17 (q := 97) rfl ?_
          refine xr_iload i_X9_put_97 rfl (q := 99) rfl ?_
          refine xr_sipush i_X9_put_99 (q := 102) rfl ?_
          refine xr_iadd i_X9_put_102 (q := 103) rfl ?_
          exact xr_ireturn i_X9_put_103 rfl h
set_option maxRecDepth 100000 in
theorem po_X9_put {l : Launch} {E : xi_E} {S : xi_S} {D : va_G} {tys : List (ClassId × FieldType)} (hC : xCx E S tys) : xi_Pok l E S D vwCl tys xNs RX9 xTs cX9_put 6 2 (P_X9_put S) := ⟨xi_dc_ok, by rw [hC.2]; exact xfo_X9, xkio_X9, xklo_X9, xi_calls_ok (ins := .invokestatic) (List.forall_mem_cons.mpr ⟨(xc_X9_63 (sn_X9_in0 hC) (by decide)), List.forall_mem_cons.mpr ⟨(xc_X9_81 (sn_X9_isText hC) (by decide)), fun _ h => absurd h List.not_mem_nil⟩⟩), xi_calls_ok (ins := .invokevirtual) (List.forall_mem_cons.mpr ⟨(xc_X9_71 hC.1 (sn_X9_found hC) (by decide)), fun _ h => absurd h List.not_mem_nil⟩)⟩
theorem sn_X9_put {l : Launch} {E : xi_E} {S : xi_S} {D : va_G} {tys : List (ClassId × FieldType)} (hC : xCx E S tys) : ∀ As m1 r m2, F_X9_put S As m1 = some (r, m2) → xi_Sound l E S D vwCl tys xNs xTs yX9_put cX9_put 6 (some .int) 2 As m1 r m2 := by
  intro As m1 r m2 h
  unfold F_X9_put at h
  split at h
  · exact xi_meth (P := P_X9_put S) (by decide) hC.1 (po_X9_put hC) (Nat.le_of_ble_eq_true rfl) rfl (xe_X9_put _ _ _ _ _ h)
  · exact xi_no h
