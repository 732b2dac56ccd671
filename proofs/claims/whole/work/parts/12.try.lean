theorem i_X9_in0_0 : xi_dc cX9_in0 0 = some (.iload_n 0, 1) := by decide +kernel
theorem i_X9_in0_1 : xi_dc cX9_in0 1 = some (.iload_n 1, 1) := by decide +kernel
theorem i_X9_in0_2 : xi_dc cX9_in0 2 = some (.if_icmp .lt 12, 3) := by decide +kernel
theorem i_X9_in0_5 : xi_dc cX9_in0 5 = some (.iload_n 0, 1) := by decide +kernel
theorem i_X9_in0_6 : xi_dc cX9_in0 6 = some (.iload_n 2, 1) := by decide +kernel
theorem i_X9_in0_7 : xi_dc cX9_in0 7 = some (.if_icmp .gt 7, 3) := by decide +kernel
theorem i_X9_in0_10 : xi_dc cX9_in0 10 = some (.iconst 1, 1) := by decide +kernel
theorem i_X9_in0_11 : xi_dc cX9_in0 11 = some (.goto 4, 3) := by decide +kernel
theorem i_X9_in0_14 : xi_dc cX9_in0 14 = some (.iconst 0, 1) := by decide +kernel
theorem i_X9_in0_15 : xi_dc cX9_in0 15 = some (.ireturn, 1) := by decide +kernel
def P_X9_in0 (S : xi_S) : xi_P := (xi_dc cX9_in0, xi_tab xfl_X9, xi_tab xki_X9, xi_tab xkl_X9, xi_tab xcs_X9, xi_tab xcv_X9, xi_calls [], xi_calls [], 2)
def E_X9_in0 (S : xi_S) (v0 : Int32) (v1 : Int32) (v2 : Int32) (m : xi_M) : Option xi_R :=
  if v0 < v1 then
    if (Int32.ofInt 0) = 0 ∨ (Int32.ofInt 0) = 1 then some (some (.int (Int32.ofInt 0)), m) else none
  else
    if v2 < v0 then
      if (Int32.ofInt 0) = 0 ∨ (Int32.ofInt 0) = 1 then some (some (.int (Int32.ofInt 0)), m) else none
    else
      if (Int32.ofInt 1) = 0 ∨ (Int32.ofInt 1) = 1 then some (some (.int (Int32.ofInt 1)), m) else none
def F_X9_in0 (S : xi_S) : xi_F := fun As m => match As with
  | [.int v0, .int v1, .int v2] => E_X9_in0 S v0 v1 v2 m
  | _ => none
theorem xe_X9_in0 {S : xi_S} {res : xi_R} (v0 : Int32) (v1 : Int32) (v2 : Int32) (m : xi_M) (h : E_X9_in0 S v0 v1 v2 m = some res) : xi_X S (P_X9_in0 S) (0, [some (.int v0), some (.int v1), some (.int v2)], [], m) res := by
  unfold E_X9_in0 at h
  refine xr_iload_n i_X9_in0_0 rfl (q := 1) rfl ?_
  refine xr_iload_n i_X9_in0_1 rfl (q := 2) rfl ?_
  by_cases c2 : v0 < v1
  · replace h := (if_pos c2).symm.trans h
    refine xr_if_icmp_lt_p i_X9_in0_2 c2 (q := 14) rfl (q2 := 5) rfl ?_
    refine xr_iconst i_X9_in0_14 (q := 15) rfl ?_
    exact xr_zreturn i_X9_in0_15 rfl h
  · replace h := (if_neg c2).symm.trans h
    refine xr_if_icmp_lt_n i_X9_in0_2 c2 (q := 14) rfl (q2 := 5) rfl ?_
    refine xr_iload_n i_X9_in0_5 rfl (q := 6) rfl ?_
    refine xr_iload_n i_X9_in0_6 rfl (q := 7) rfl ?_
    by_cases c1 : v2 < v0
    · replace h := (if_pos c1).symm.trans h
      refine xr_if_icmp_gt_p i_X9_in0_7 c1 (q := 14) rfl (q2 := 10) rfl ?_
      refine xr_iconst i_X9_in0_14 (q := 15) rfl ?_
      exact xr_zreturn i_X9_in0_15 rfl h
    · replace h := (if_neg c1).symm.trans h
      refine xr_if_icmp_gt_n i_X9_in0_7 c1 (q := 14) rfl (q2 := 10) rfl ?_
      refine xr_iconst i_X9_in0_10 (q := 11) rfl ?_
      refine xr_goto i_X9_in0_11 (q := 15) rfl ?_
      exact xr_zreturn i_X9_in0_15 rfl h
theorem po_X9_in0 {l : Launch} {E : xi_E} {S : xi_S} {D : va_G} {tys : List (ClassId × FieldType)} (hC : xCx E S tys) : xi_Pok l E S D vwCl tys xNs RX9 xTs cX9_in0 3 0 (P_X9_in0 S) := ⟨xi_dc_ok, by rw [hC.2]; exact xfo_X9, xkio_X9, xklo_X9, xi_calls_ok (ins := .invokestatic) (fun _ h => absurd h List.not_mem_nil), xi_calls_ok (ins := .invokevirtual) (fun _ h => absurd h List.not_mem_nil)⟩
theorem sn_X9_in0 {l : Launch} {E : xi_E} {S : xi_S} {D : va_G} {tys : List (ClassId × FieldType)} (hC : xCx E S tys) : ∀ As m1 r m2, F_X9_in0 S As m1 = some (r, m2) → xi_Sound l E S D vwCl tys xNs xTs yX9_in0 cX9_in0 3 (some .boolean) 0 As m1 r m2 := by
  intro As m1 r m2 h
  unfold F_X9_in0 at h
  split at h
  · exact xi_meth (P := P_X9_in0 S) (by decide) hC.1 (po_X9_in0 hC) (Nat.le_of_ble_eq_true rfl) rfl (xe_X9_in0 _ _ _ _ h)
  · exact xi_no h
theorem i_X9_isRow_0 : xi_dc cX9_isRow 0 = some (.iload_n 0, 1) := by decide +kernel
theorem i_X9_isRow_1 : xi_dc cX9_isRow 1 = some (.iconst 0, 1) := by decide +kernel
theorem i_X9_isRow_2 : xi_dc cX9_isRow 2 = some (.iconst 5, 1) := by decide +kernel
theorem i_X9_isRow_3 : xi_dc cX9_isRow 3 = some (.invokestatic 63, 3) := by decide +kernel
theorem i_X9_isRow_6 : xi_dc cX9_isRow 6 = some (.ireturn, 1) := by decide +kernel
def P_X9_isRow (S : xi_S) : xi_P := (xi_dc cX9_isRow, xi_tab xfl_X9, xi_tab xki_X9, xi_tab xkl_X9, xi_tab xcs_X9, xi_tab xcv_X9, xi_calls [(63, xi_wS 3 (F_X9_in0 S))], xi_calls [], 2)
def E_X9_isRow (S : xi_S) (v0 : Int32) (m : xi_M) : Option xi_R :=
  xi_bI (E_X9_in0 S v0 (Int32.ofInt 0) (Int32.ofInt 5) m) fun x2 m1 =>
  if x2 = 0 ∨ x2 = 1 then some (some (.int x2), m1) else none
def F_X9_isRow (S : xi_S) : xi_F := fun As m => match As with
  | [.int v0] => E_X9_isRow S v0 m
  | _ => none
theorem xe_X9_isRow {S : xi_S} {res : xi_R} (v0 : Int32) (m : xi_M) (h : E_X9_isRow S v0 m = some res) : xi_X S (P_X9_isRow S) (0, [some (.int v0)], [], m) res := by
  unfold E_X9_isRow at h
  refine xr_iload_n i_X9_isRow_0 rfl (q := 1) rfl ?_
  refine xr_iconst i_X9_isRow_1 (q := 2) rfl ?_
  refine xr_iconst i_X9_isRow_2 (q := 3) rfl ?_
  obtain ⟨x2, m1, em1, h⟩ := xi_bI_some h
  refine xr_SI i_X9_isRow_3 xcse_X9_63 rfl (As := [.int v0, .int (Int32.ofInt 0), .int (Int32.ofInt 5)]) rfl (rest := []) rfl em1 (q := 6) rfl ?_
  exact xr_zreturn i_X9_isRow_6 rfl h
theorem po_X9_isRow {l : Launch} {E : xi_E} {S : xi_S} {D : va_G} {tys : List (ClassId × FieldType)} (hC : xCx E S tys) : xi_Pok l E S D vwCl tys xNs RX9 xTs cX9_isRow 1 1 (P_X9_isRow S) := ⟨xi_dc_ok, by rw [hC.2]; exact xfo_X9, xkio_X9, xklo_X9, xi_calls_ok (ins := .invokestatic) (List.forall_mem_cons.mpr ⟨(xc_X9_63 (sn_X9_in0 hC) (by decide)), fun _ h => absurd h List.not_mem_nil⟩), xi_calls_ok (ins := .invokevirtual) (fun _ h => absurd h List.not_mem_nil)⟩
theorem sn_X9_isRow {l : Launch} {E : xi_E} {S : xi_S} {D : va_G} {tys : List (ClassId × FieldType)} (hC : xCx E S tys) : ∀ As m1 r m2, F_X9_isRow S As m1 = some (r, m2) → xi_Sound l E S D vwCl tys xNs xTs yX9_isRow cX9_isRow 1 (some .boolean) 1 As m1 r m2 := by
  intro As m1 r m2 h
  unfold F_X9_isRow at h
  split at h
  · exact xi_meth (P := P_X9_isRow S) (by decide) hC.1 (po_X9_isRow hC) (Nat.le_of_ble_eq_true rfl) rfl (xe_X9_isRow _ _ h)
  · exact xi_no h
theorem i_X9_found_0 : xi_dc cX9_found 0 = some (.aload_n 0, 1) := by decide +kernel
theorem i_X9_found_1 : xi_dc cX9_found 1 = some (.iload_n 1, 1) := by decide +kernel
theorem i_X9_found_2 : xi_dc cX9_found 2 = some (.putfield 56, 3) := by decide +kernel
theorem i_X9_found_5 : xi_dc cX9_found 5 = some (.aload_n 0, 1) := by decide +kernel
theorem i_X9_found_6 : xi_dc cX9_found 6 = some (.getfield 46, 3) := by decide +kernel
theorem i_X9_found_9 : xi_dc cX9_found 9 = some (.iload_n 1, 1) := by decide +kernel
theorem i_X9_found_10 : xi_dc cX9_found 10 = some (.dup2, 1) := by decide +kernel
theorem i_X9_found_11 : xi_dc cX9_found 11 = some (.iaload, 1) := by decide +kernel
theorem i_X9_found_12 : xi_dc cX9_found 12 = some (.iconst 1, 1) := by decide +kernel
theorem i_X9_found_13 : xi_dc cX9_found 13 = some (.iadd, 1) := by decide +kernel
theorem i_X9_found_14 : xi_dc cX9_found 14 = some (.iastore, 1) := by decide +kernel
theorem i_X9_found_15 : xi_dc cX9_found 15 = some (.bipush (-3), 2) := by decide +kernel
theorem i_X9_found_17 : xi_dc cX9_found 17 = some (.ireturn, 1) := by decide +kernel
def P_X9_found (S : xi_S) : xi_P := (xi_dc cX9_found, xi_tab xfl_X9, xi_tab xki_X9, xi_tab xkl_X9, xi_tab xcs_X9, xi_tab xcv_X9, xi_calls [], xi_calls [], 1)
def E_X9_found (S : xi_S) (v0 : Nat) (v1 : Int32) (m : xi_M) : Option xi_R :=
  if S.1 v0 = 11 then
    if S.1 v0 = 11 then (S.2.2 v0 14).bind fun b3 =>
      if S.1 b3 = 0 ∧ ¬ (v1 < 0 ∨ S.2.1 b3 ≤ Int32.toNatClampNeg v1) then
        if S.1 b3 = 0 ∧ ¬ (v1 < 0 ∨ S.2.1 b3 ≤ Int32.toNatClampNeg v1) then
          some (some (.int ((Int8.ofInt (-3)).toInt32)), (xi_wI (xi_wI m v0 13 v1) b3 (Int32.toNatClampNeg v1) (((xi_wI m v0 13 v1).1 b3 (Int32.toNatClampNeg v1)) + (Int32.ofInt 1))))
        else none
      else none
    else none
  else none
def F_X9_found (S : xi_S) : xi_F := fun As m => match As with
  | [.ref v0, .int v1] => E_X9_found S v0 v1 m
  | _ => none
theorem xe_X9_found {S : xi_S} {res : xi_R} (v0 : Nat) (v1 : Int32) (m : xi_M) (h : E_X9_found S v0 v1 m = some res) : xi_X S (P_X9_found S) (0, [some (.ref v0), some (.int v1)], [], m) res := by
  unfold E_X9_found at h
  refine xr_aload_n i_X9_found_0 rfl (q := 1) rfl ?_
  refine xr_iload_n i_X9_found_1 rfl (q := 2) rfl ?_
  obtain ⟨c1, h⟩ := xi_if_some h
  refine xr_putI i_X9_found_2 xfe_X9_56 c1 (q := 5) rfl ?_
  refine xr_aload_n i_X9_found_5 rfl (q := 6) rfl ?_
  obtain ⟨c2, h⟩ := xi_if_some h
  obtain ⟨b3, eb3, h⟩ := xi_bind_some h
  refine xr_getR i_X9_found_6 xfe_X9_46 c2 eb3 (q := 9) rfl ?_
  refine xr_iload_n i_X9_found_9 rfl (q := 10) rfl ?_
  refine xr_dup2 i_X9_found_10 (q := 11) rfl ?_
  obtain ⟨c4, h⟩ := xi_if_some h
  refine xr_iaload i_X9_found_11 c4 (q := 12) rfl ?_
  refine xr_iconst i_X9_found_12 (q := 13) rfl ?_
  refine xr_iadd i_X9_found_13 (q := 14) rfl ?_
  obtain ⟨c5, h⟩ := xi_if_some h
  refine xr_iastore i_X9_found_14 c5 (q := 15) rfl ?_
  refine xr_bipush i_X9_found_15 (q := 17) rfl ?_
  exact xr_ireturn i_X9_found_17 rfl h
theorem po_X9_found {l : Launch} {E : xi_E} {S : xi_S} {D : va_G} {tys : List (ClassId × FieldType)} (hC : xCx E S tys) : xi_Pok l E S D vwCl tys xNs RX9 xTs cX9_found 2 0 (P_X9_found S) := ⟨xi_dc_ok, by rw [hC.2]; exact xfo_X9, xkio_X9, xklo_X9, xi_calls_ok (ins := .invokestatic) (fun _ h => absurd h List.not_mem_nil), xi_calls_ok (ins := .invokevirtual) (fun _ h => absurd h List.not_mem_nil)⟩
theorem sn_X9_found {l : Launch} {E : xi_E} {S : xi_S} {D : va_G} {tys : List (ClassId × FieldType)} (hC : xCx E S tys) : ∀ As m1 r m2, F_X9_found S As m1 = some (r, m2) → xi_Sound l E S D vwCl tys xNs xTs yX9_found cX9_found 2 (some .int) 0 As m1 r m2 := by
  intro As m1 r m2 h
  unfold F_X9_found at h
  split at h
  · exact xi_meth (P := P_X9_found S) (by decide) hC.1 (po_X9_found hC) (Nat.le_of_ble_eq_true rfl) rfl (xe_X9_found _ _ _ h)
  · exact xi_no h
theorem i_X9_tells_0 : xi_dc cX9_tells 0 = some (.aload_n 0, 1) := by decide +kernel
theorem i_X9_tells_1 : xi_dc cX9_tells 1 = some (.iload_n 1, 1) := by decide +kernel
theorem i_X9_tells_2 : xi_dc cX9_tells 2 = some (.putfield 60, 3) := by decide +kernel
theorem i_X9_tells_5 : xi_dc cX9_tells 5 = some (.iconst 1, 1) := by decide +kernel
theorem i_X9_tells_6 : xi_dc cX9_tells 6 = some (.ireturn, 1) := by decide +kernel
def P_X9_tells (S : xi_S) : xi_P := (xi_dc cX9_tells, xi_tab xfl_X9, xi_tab xki_X9, xi_tab xkl_X9, xi_tab xcs_X9, xi_tab xcv_X9, xi_calls [], xi_calls [], 1)
def E_X9_tells (S : xi_S) (v0 : Nat) (v1 : Int32) (m : xi_M) : Option xi_R :=
  if S.1 v0 = 11 then
    some (some (.int (Int32.ofInt 1)), (xi_wI m v0 15 v1))
  else none
def F_X9_tells (S : xi_S) : xi_F := fun As m => match As with
  | [.ref v0, .int v1] => E_X9_tells S v0 v1 m
  | _ => none
theorem xe_X9_tells {S : xi_S} {res : xi_R} (v0 : Nat) (v1 : Int32) (m : xi_M) (h : E_X9_tells S v0 v1 m = some res) : xi_X S (P_X9_tells S) (0, [some (.ref v0), some (.int v1)], [], m) res := by
  unfold E_X9_tells at h
  refine xr_aload_n i_X9_tells_0 rfl (q := 1) rfl ?_
  refine xr_iload_n i_X9_tells_1 rfl (q := 2) rfl ?_
  obtain ⟨c1, h⟩ := xi_if_some h
  refine xr_putI i_X9_tells_2 xfe_X9_60 c1 (q := 5) rfl ?_
  refine xr_iconst i_X9_tells_5 (q := 6) rfl ?_
  exact xr_ireturn i_X9_tells_6 rfl h
theorem po_X9_tells {l : Launch} {E : xi_E} {S : xi_S} {D : va_G} {tys : List (ClassId × FieldType)} (hC : xCx E S tys) : xi_Pok l E S D vwCl tys xNs RX9 xTs cX9_tells 2 0 (P_X9_tells S) := ⟨xi_dc_ok, by rw [hC.2]; exact xfo_X9, xkio_X9, xklo_X9, xi_calls_ok (ins := .invokestatic) (fun _ h => absurd h List.not_mem_nil), xi_calls_ok (ins := .invokevirtual) (fun _ h => absurd h List.not_mem_nil)⟩
theorem sn_X9_tells {l : Launch} {E : xi_E} {S : xi_S} {D : va_G} {tys : List (ClassId × FieldType)} (hC : xCx E S tys) : ∀ As m1 r m2, F_X9_tells S As m1 = some (r, m2) → xi_Sound l E S D vwCl tys xNs xTs yX9_tells cX9_tells 2 (some .int) 0 As m1 r m2 := by
  intro As m1 r m2 h
  unfold F_X9_tells at h
  split at h
  · exact xi_meth (P := P_X9_tells S) (by decide) hC.1 (po_X9_tells hC) (Nat.le_of_ble_eq_true rfl) rfl (xe_X9_tells _ _ _ h)
  · exact xi_no h
theorem i_X9_row_0 : xi_dc cX9_row 0 = some (.iload_n 1, 1) := by decide +kernel
theorem i_X9_row_1 : xi_dc cX9_row 1 = some (.invokestatic 67, 3) := by decide +kernel
theorem i_X9_row_4 : xi_dc cX9_row 4 = some (.ifCond .eq 9, 3) := by decide +kernel
theorem i_X9_row_7 : xi_dc cX9_row 7 = some (.iload_n 2, 1) := by decide +kernel
theorem i_X9_row_8 : xi_dc cX9_row 8 = some (.bipush 40, 2) := by decide +kernel
theorem i_X9_row_10 : xi_dc cX9_row 10 = some (.if_icmp .le 5, 3) := by decide +kernel
theorem i_X9_row_13 : xi_dc cX9_row 13 = some (.iconst (-1), 1) := by decide +kernel
theorem i_X9_row_14 : xi_dc cX9_row 14 = some (.ireturn, 1) := by decide +kernel
theorem i_X9_row_15 : xi_dc cX9_row 15 = some (.iload_n 2, 1) := by decide +kernel
theorem i_X9_row_16 : xi_dc cX9_row 16 = some (.ifCond .ge 9, 3) := by decide +kernel
theorem i_X9_row_19 : xi_dc cX9_row 19 = some (.aload_n 0, 1) := by decide +kernel
theorem i_X9_row_20 : xi_dc cX9_row 20 = some (.iconst 5, 1) := by decide +kernel
theorem i_X9_row_21 : xi_dc cX9_row 21 = some (.invokevirtual 71, 3) := by decide +kernel
theorem i_X9_row_24 : xi_dc cX9_row 24 = some (.ireturn, 1) := by decide +kernel
theorem i_X9_row_25 : xi_dc cX9_row 25 = some (.aload_n 0, 1) := by decide +kernel
theorem i_X9_row_26 : xi_dc cX9_row 26 = some (.getfield 7, 3) := by decide +kernel
theorem i_X9_row_29 : xi_dc cX9_row 29 = some (.iload_n 1, 1) := by decide +kernel
theorem i_X9_row_30 : xi_dc cX9_row 30 = some (.iload_n 2, 1) := by decide +kernel
theorem i_X9_row_31 : xi_dc cX9_row 31 = some (.iastore, 1) := by decide +kernel
theorem i_X9_row_32 : xi_dc cX9_row 32 = some (.iconst 0, 1) := by decide +kernel
theorem i_X9_row_33 : xi_dc cX9_row 33 = some (.istore_n 3, 1) := by decide +kernel
theorem i_X9_row_34 : xi_dc cX9_row 34 = some (.iload_n 3, 1) := by decide +kernel
theorem i_X9_row_35 : xi_dc cX9_row 35 = some (.bipush 40, 2) := by decide +kernel
theorem i_X9_row_37 : xi_dc cX9_row 37 = some (.if_icmp .ge 21, 3) := by decide +kernel
theorem i_X9_row_40 : xi_dc cX9_row 40 = some (.aload_n 0, 1) := by decide +kernel
theorem i_X9_row_41 : xi_dc cX9_row 41 = some (.getfield 13, 3) := by decide +kernel
theorem i_X9_row_44 : xi_dc cX9_row 44 = some (.bipush 40, 2) := by decide +kernel
theorem i_X9_row_46 : xi_dc cX9_row 46 = some (.iload_n 1, 1) := by decide +kernel
theorem i_X9_row_47 : xi_dc cX9_row 47 = some (.imul, 1) := by decide +kernel
theorem i_X9_row_48 : xi_dc cX9_row 48 = some (.iload_n 3, 1) := by decide +kernel
theorem i_X9_row_49 : xi_dc cX9_row 49 = some (.iadd, 1) := by decide +kernel
theorem i_X9_row_50 : xi_dc cX9_row 50 = some (.iconst 0, 1) := by decide +kernel
theorem i_X9_row_51 : xi_dc cX9_row 51 = some (.iastore, 1) := by decide +kernel
theorem i_X9_row_52 : xi_dc cX9_row 52 = some (.iinc 3 1, 3) := by decide +kernel
theorem i_X9_row_55 : xi_dc cX9_row 55 = some (.goto (-21), 3) := by decide +kernel
theorem i_X9_row_58 : xi_dc cX9_row 58 = some (.iload_n 2, 1) := by decide +kernel
theorem i_X9_row_59 : xi_dc cX9_row 59 = some (.ireturn, 1) := by decide +kernel
def P_X9_row (S : xi_S) : xi_P := (xi_dc cX9_row, xi_tab xfl_X9, xi_tab xki_X9, xi_tab xkl_X9, xi_tab xcs_X9, xi_tab xcv_X9, xi_calls [(67, xi_wS 1 (F_X9_isRow S))], xi_calls [(71, xi_wV S 11 1 (F_X9_found S))], 1)
def G_X9_row_34 (S : xi_S) : Nat → Nat → Int32 → Int32 → Int32 → xi_M → Option xi_R
  | 0, _, _, _, _, _ => none
  | n + 1, v0, v1, v2, v3, m =>
    if ((Int8.ofInt 40).toInt32) ≤ v3 then
      some (some (.int v2), m)
    else
      if S.1 v0 = 11 then (S.2.2 v0 1).bind fun b2 =>
        if S.1 b2 = 0 ∧ ¬ (((((Int8.ofInt 40).toInt32) * v1) + v3) < 0 ∨ S.2.1 b2 ≤ Int32.toNatClampNeg ((((Int8.ofInt 40).toInt32) * v1) + v3)) then
          G_X9_row_34 S n v0 v1 v2 (v3 + Int32.ofInt 1) (xi_wI m b2 (Int32.toNatClampNeg ((((Int8.ofInt 40).toInt32) * v1) + v3)) (Int32.ofInt 0))
        else none
      else none
theorem xs_X9_row_34 {S : xi_S} {res : xi_R} : ∀ (n : Nat) (v0 : Nat) (v1 : Int32) (v2 : Int32) (v3 : Int32) (m : xi_M), G_X9_row_34 S n v0 v1 v2 v3 m = some res → xi_X S (P_X9_row S) (34, [some (.ref v0), some (.int v1), some (.int v2), some (.int v3)], [], m) res := by
  intro n
  induction n with
  | zero => intro v0 v1 v2 v3 m h; exact xi_no h
  | succ n ih =>
    intro v0 v1 v2 v3 m h
    unfold G_X9_row_34 at h
    refine xr_iload_n i_X9_row_34 rfl (q := 35) rfl ?_
    refine xr_bipush i_X9_row_35 (q := 37) rfl ?_
    by_cases c4 : ((Int8.ofInt 40).toInt32) ≤ v3
    · replace h := (if_pos c4).symm.trans h
      refine xr_if_icmp_ge_p i_X9_row_37 c4 (q := 58) rfl (q2 := 40) rfl ?_
      refine xr_iload_n i_X9_row_58 rfl (q := 59) rfl ?_
      exact xr_ireturn i_X9_row_59 rfl h
    · replace h := (if_neg c4).symm.trans h
      refine xr_if_icmp_ge_n i_X9_row_37 c4 (q := 58) rfl (q2 := 40) rfl ?_
      refine xr_aload_n i_X9_row_40 rfl (q := 41) rfl ?_
      obtain ⟨c1, h⟩ := xi_if_some h
      obtain ⟨b2, eb2, h⟩ := xi_bind_some h
      refine xr_getR i_X9_row_41 xfe_X9_13 c1 eb2 (q := 44) rfl ?_
      refine xr_bipush i_X9_row_44 (q := 46) rfl ?_
      refine xr_iload_n i_X9_row_46 rfl (q := 47) rfl ?_
      refine xr_imul i_X9_row_47 (q := 48) rfl ?_
      refine xr_iload_n i_X9_row_48 rfl (q := 49) rfl ?_
      refine xr_iadd i_X9_row_49 (q := 50) rfl ?_
      refine xr_iconst i_X9_row_50 (q := 51) rfl ?_
      obtain ⟨c3, h⟩ := xi_if_some h
      refine xr_iastore i_X9_row_51 c3 (q := 52) rfl ?_
      refine xr_iinc i_X9_row_52 rfl rfl (L2 := [some (.ref v0), some (.int v1), some (.int v2), some (.int (v3 + Int32.ofInt 1))]) rfl (q := 55) rfl ?_
      refine xr_goto i_X9_row_55 (q := 34) rfl ?_
      exact xi_X_le (xi_le_s (xi_le_s (xi_le_s (xi_le_s xi_le_z)))) (ih _ _ _ _ _ h)
def E_X9_row (S : xi_S) (v0 : Nat) (v1 : Int32) (v2 : Int32) (m : xi_M) : Option xi_R :=
  xi_bI (E_X9_isRow S v1 m) fun x2 m1 =>
  if x2 = 0 then
    some (some (.int (Int32.ofInt (-1))), m1)
  else
    if v2 ≤ ((Int8.ofInt 40).toInt32) then
      if 0 ≤ v2 then
        if S.1 v0 = 11 then (S.2.2 v0 0).bind fun b4 =>
          if S.1 b4 = 0 ∧ ¬ (v1 < 0 ∨ S.2.1 b4 ≤ Int32.toNatClampNeg v1) then
            G_X9_row_34 S 10000 v0 v1 v2 (Int32.ofInt 0) (xi_wI m1 b4 (Int32.toNatClampNeg v1) v2)
          else none
        else none
      else
        xi_bI (if S.1 v0 = 11 then E_X9_found S v0 (Int32.ofInt 5) m1 else none) fun x7 m6 =>
        some (some (.int x7), m6)
    else
      some (some (.int (Int32.ofInt (-1))), m1)
def F_X9_row (S : xi_S) : xi_F := fun As m => match As with
  | [.ref v0, .int v1, .int v2] => E_X9_row S v0 v1 v2 m
  | _ => none
theorem xe_X9_row {S : xi_S} {res : xi_R} (v0 : Nat) (v1 : Int32) (v2 : Int32) (m : xi_M) (h : E_X9_row S v0 v1 v2 m = some res) : xi_X S (P_X9_row S) (0, [some (.ref v0), some (.int v1), some (.int v2), none], [], m) res := by
  unfold E_X9_row at h
  refine xr_iload_n i_X9_row_0 rfl (q := 1) rfl ?_
  obtain ⟨x2, m1, em1, h⟩ := xi_bI_some h
  refine xr_SI i_X9_row_1 xcse_X9_67 rfl (As := [.int v1]) rfl (rest := []) rfl em1 (q := 4) rfl ?_
  by_cases c10 : x2 = 0
  · replace h := (if_pos c10).symm.trans h
    refine xr_ifCond_eq_p i_X9_row_4 c10 (q := 13) rfl (q2 := 7) rfl ?_
    refine xr_iconst i_X9_row_13 (q := 14) rfl ?_
    exact xr_ireturn i_X9_row_14 rfl h
  · replace h := (if_neg c10).symm.trans h
    refine xr_ifCond_eq_n i_X9_row_4 c10 (q := 13) rfl (q2 := 7) rfl ?_
    refine xr_iload_n i_X9_row_7 rfl (q := 8) rfl ?_
    refine xr_bipush i_X9_row_8 (q := 10) rfl ?_
    by_cases c9 : v2 ≤ ((Int8.ofInt 40).toInt32)
    · replace h := (if_pos c9).symm.trans h
      refine xr_if_icmp_le_p i_X9_row_10 c9 (q := 15) rfl (q2 := 13) rfl ?_
      refine xr_iload_n i_X9_row_15 rfl (q := 16) rfl ?_
      by_cases c8 : 0 ≤ v2
      · replace h := (if_pos c8).symm.trans h
        refine xr_ifCond_ge_p i_X9_row_16 c8 (q := 25) rfl (q2 := 19) rfl ?_
        refine xr_aload_n i_X9_row_25 rfl (q := 26) rfl ?_
        obtain ⟨c3, h⟩ := xi_if_some h
        obtain ⟨b4, eb4, h⟩ := xi_bind_some h
        refine xr_getR i_X9_row_26 xfe_X9_7 c3 eb4 (q := 29) rfl ?_
        refine xr_iload_n i_X9_row_29 rfl (q := 30) rfl ?_
        refine xr_iload_n i_X9_row_30 rfl (q := 31) rfl ?_
        obtain ⟨c5, h⟩ := xi_if_some h
        refine xr_iastore i_X9_row_31 c5 (q := 32) rfl ?_
        refine xr_iconst i_X9_row_32 (q := 33) rfl ?_
        refine xr_istore_n i_X9_row_33 rfl (L2 := [some (.ref v0), some (.int v1), some (.int v2), some (.int (Int32.ofInt 0))]) rfl (q := 34) rfl ?_
        exact xi_X_le (xi_le_s (xi_le_s (xi_le_s (xi_le_s xi_le_z)))) (xs_X9_row_34 10000 _ _ _ _ _ h)
      · replace h := (if_neg c8).symm.trans h
        refine xr_ifCond_ge_n i_X9_row_16 c8 (q := 25) rfl (q2 := 19) rfl ?_
        refine xr_aload_n i_X9_row_19 rfl (q := 20) rfl ?_
        refine xr_iconst i_X9_row_20 (q := 21) rfl ?_
        obtain ⟨x7, m6, em6, h⟩ := xi_bI_some h
        refine xr_VI i_X9_row_21 xcve_X9_71 rfl (As := [.ref v0, .int (Int32.ofInt 5)]) rfl (rest := []) rfl em6 (q := 24) rfl ?_
        exact xr_ireturn i_X9_row_24 rfl h
    · replace h := (if_neg c9).symm.trans h
      refine xr_if_icmp_le_n i_X9_row_10 c9 (q := 15) rfl (q2 := 13) rfl ?_
      refine xr_iconst i_X9_row_13 (q := 14) rfl ?_
      exact xr_ireturn i_X9_row_14 rfl h
theorem po_X9_row {l : Launch} {E : xi_E} {S : xi_S} {D : va_G} {tys : List (ClassId × FieldType)} (hC : xCx E S tys) : xi_Pok l E S D vwCl tys xNs RX9 xTs cX9_row 4 2 (P_X9_row S) := ⟨xi_dc_ok, by rw [hC.2]; exact xfo_X9, xkio_X9, xklo_X9, xi_calls_ok (ins := .invokestatic) (List.forall_mem_cons.mpr ⟨(xc_X9_67 (sn_X9_isRow hC) (by decide)), fun _ h => absurd h List.not_mem_nil⟩), xi_calls_ok (ins := .invokevirtual) (List.forall_mem_cons.mpr ⟨(xc_X9_71 hC.1 (sn_X9_found hC) (by decide)), fun _ h => absurd h List.not_mem_nil⟩)⟩
theorem sn_X9_row {l : Launch} {E : xi_E} {S : xi_S} {D : va_G} {tys : List (ClassId × FieldType)} (hC : xCx E S tys) : ∀ As m1 r m2, F_X9_row S As m1 = some (r, m2) → xi_Sound l E S D vwCl tys xNs xTs yX9_row cX9_row 4 (some .int) 2 As m1 r m2 := by
  intro As m1 r m2 h
  unfold F_X9_row at h
  split at h
  · exact xi_meth (P := P_X9_row S) (by decide) hC.1 (po_X9_row hC) (Nat.le_of_ble_eq_true rfl) rfl (xe_X9_row _ _ _ _ h)
  · exact xi_no h
theorem i_X9_copies_0 : xi_dc cX9_copies 0 = some (.iconst 0, 1) := by decide +kernel
theorem i_X9_copies_1 : xi_dc cX9_copies 1 = some (.istore 5, 2) := by decide +kernel
theorem i_X9_copies_3 : xi_dc cX9_copies 3 = some (.iload 5, 2) := by decide +kernel
theorem i_X9_copies_5 : xi_dc cX9_copies 5 = some (.iload 4, 2) := by decide +kernel
theorem i_X9_copies_7 : xi_dc cX9_copies 7 = some (.if_icmp .ge 21, 3) := by decide +kernel
theorem i_X9_copies_10 : xi_dc cX9_copies 10 = some (.aload_n 2, 1) := by decide +kernel
theorem i_X9_copies_11 : xi_dc cX9_copies 11 = some (.iload_n 3, 1) := by decide +kernel
theorem i_X9_copies_12 : xi_dc cX9_copies 12 = some (.iload 5, 2) := by decide +kernel
theorem i_X9_copies_14 : xi_dc cX9_copies 14 = some (.iadd, 1) := by decide +kernel
theorem i_X9_copies_15 : xi_dc cX9_copies 15 = some (.aload_n 0, 1) := by decide +kernel
theorem i_X9_copies_16 : xi_dc cX9_copies 16 = some (.iload_n 1, 1) := by decide +kernel
theorem i_X9_copies_17 : xi_dc cX9_copies 17 = some (.iload 5, 2) := by decide +kernel
theorem i_X9_copies_19 : xi_dc cX9_copies 19 = some (.iadd, 1) := by decide +kernel
theorem i_X9_copies_20 : xi_dc cX9_copies 20 = some (.iaload, 1) := by decide +kernel
theorem i_X9_copies_21 : xi_dc cX9_copies 21 = some (.iastore, 1) := by decide +kernel
theorem i_X9_copies_22 : xi_dc cX9_copies 22 = some (.iinc 5 1, 3) := by decide +kernel
theorem i_X9_copies_25 : xi_dc cX9_copies 25 = some (.goto (-22), 3) := by decide +kernel
theorem i_X9_copies_28 : xi_dc cX9_copies 28 = some (.return_, 1) := by decide +kernel
def P_X9_copies (S : xi_S) : xi_P := (xi_dc cX9_copies, xi_tab xfl_X9, xi_tab xki_X9, xi_tab xkl_X9, xi_tab xcs_X9, xi_tab xcv_X9, xi_calls [], xi_calls [], 0)
def G_X9_copies_3 (S : xi_S) : Nat → Nat → Int32 → Nat → Int32 → Int32 → Int32 → xi_M → Option xi_R
  | 0, _, _, _, _, _, _, _ => none
  | n + 1, v0, v1, v2, v3, v4, v5, m =>
    if v4 ≤ v5 then
      some (none, m)
    else
      if S.1 v0 = 0 ∧ ¬ ((v1 + v5) < 0 ∨ S.2.1 v0 ≤ Int32.toNatClampNeg (v1 + v5)) then
        if S.1 v2 = 0 ∧ ¬ ((v3 + v5) < 0 ∨ S.2.1 v2 ≤ Int32.toNatClampNeg (v3 + v5)) then
          G_X9_copies_3 S n v0 v1 v2 v3 v4 (v5 + Int32.ofInt 1) (xi_wI m v2 (Int32.toNatClampNeg (v3 + v5)) (m.1 v0 (Int32.toNatClampNeg (v1 + v5))))
        else none
      else none
theorem xs_X9_copies_3 {S : xi_S} {res : xi_R} : ∀ (n : Nat) (v0 : Nat) (v1 : Int32) (v2 : Nat) (v3 : Int32) (v4 : Int32) (v5 : Int32) (m : xi_M), G_X9_copies_3 S n v0 v1 v2 v3 v4 v5 m = some res → xi_X S (P_X9_copies S) (3, [some (.ref v0), some (.int v1), some (.ref v2), some (.int v3), some (.int v4), some (.int v5)], [], m) res := by
  intro n
  induction n with
  | zero => intro v0 v1 v2 v3 v4 v5 m h; exact xi_no h
  | succ n ih =>
    intro v0 v1 v2 v3 v4 v5 m h
    unfold G_X9_copies_3 at h
    refine xr_iload i_X9_copies_3 rfl (q := 5) rfl ?_
    refine xr_iload i_X9_copies_5 rfl (q := 7) rfl ?_
    by_cases c3 : v4 ≤ v5
    · replace h := (if_pos c3).symm.trans h
      refine xr_if_icmp_ge_p i_X9_copies_7 c3 (q := 28) rfl (q2 := 10) rfl ?_
      exact xr_return i_X9_copies_28 rfl h
    · replace h := (if_neg c3).symm.trans h
      refine xr_if_icmp_ge_n i_X9_copies_7 c3 (q := 28) rfl (q2 := 10) rfl ?_
      refine xr_aload_n i_X9_copies_10 rfl (q := 11) rfl ?_
      refine xr_iload_n i_X9_copies_11 rfl (q := 12) rfl ?_
      refine xr_iload i_X9_copies_12 rfl (q := 14) rfl ?_
      refine xr_iadd i_X9_copies_14 (q := 15) rfl ?_
      refine xr_aload_n i_X9_copies_15 rfl (q := 16) rfl ?_
      refine xr_iload_n i_X9_copies_16 rfl (q := 17) rfl ?_
      refine xr_iload i_X9_copies_17 rfl (q := 19) rfl ?_
      refine xr_iadd i_X9_copies_19 (q := 20) rfl ?_
      obtain ⟨c1, h⟩ := xi_if_some h
      refine xr_iaload i_X9_copies_20 c1 (q := 21) rfl ?_
      obtain ⟨c2, h⟩ := xi_if_some h
      refine xr_iastore i_X9_copies_21 c2 (q := 22) rfl ?_
      refine xr_iinc i_X9_copies_22 rfl rfl (L2 := [some (.ref v0), some (.int v1), some (.ref v2), some (.int v3), some (.int v4), some (.int (v5 + Int32.ofInt 1))]) rfl (q := 25) rfl ?_
      refine xr_goto i_X9_copies_25 (q := 3) rfl ?_
      exact xi_X_le (xi_le_s (xi_le_s (xi_le_s (xi_le_s (xi_le_s (xi_le_s xi_le_z)))))) (ih _ _ _ _ _ _ _ h)
def E_X9_copies (S : xi_S) (v0 : Nat) (v1 : Int32) (v2 : Nat) (v3 : Int32) (v4 : Int32) (m : xi_M) : Option xi_R :=
  G_X9_copies_3 S 10000 v0 v1 v2 v3 v4 (Int32.ofInt 0) m
def F_X9_copies (S : xi_S) : xi_F := fun As m => match As with
  | [.ref v0, .int v1, .ref v2, .int v3, .int v4] => E_X9_copies S v0 v1 v2 v3 v4 m
  | _ => none
theorem xe_X9_copies {S : xi_S} {res : xi_R} (v0 : Nat) (v1 : Int32) (v2 : Nat) (v3 : Int32) (v4 : Int32) (m : xi_M) (h : E_X9_copies S v0 v1 v2 v3 v4 m = some res) : xi_X S (P_X9_copies S) (0, [some (.ref v0), some (.int v1), some (.ref v2), some (.int v3), some (.int v4), none], [], m) res := by
  unfold E_X9_copies at h
  refine xr_iconst i_X9_copies_0 (q := 1) rfl ?_
  refine xr_istore i_X9_copies_1 rfl (L2 := [some (.ref v0), some (.int v1), some (.ref v2), some (.int v3), some (.int v4), some (.int (Int32.ofInt 0))]) rfl (q := 3) rfl ?_
  exact xi_X_le (xi_le_s (xi_le_s (xi_le_s (xi_le_s (xi_le_s (xi_le_s xi_le_z)))))) (xs_X9_copies_3 10000 _ _ _ _ _ _ _ h)
theorem po_X9_copies {l : Launch} {E : xi_E} {S : xi_S} {D : va_G} {tys : List (ClassId × FieldType)} (hC : xCx E S tys) : xi_Pok l E S D vwCl tys xNs RX9 xTs cX9_copies 6 0 (P_X9_copies S) := ⟨xi_dc_ok, by rw [hC.2]; exact xfo_X9, xkio_X9, xklo_X9, xi_calls_ok (ins := .invokestatic) (fun _ h => absurd h List.not_mem_nil), xi_calls_ok (ins := .invokevirtual) (fun _ h => absurd h List.not_mem_nil)⟩
theorem sn_X9_copies {l : Launch} {E : xi_E} {S : xi_S} {D : va_G} {tys : List (ClassId × FieldType)} (hC : xCx E S tys) : ∀ As m1 r m2, F_X9_copies S As m1 = some (r, m2) → xi_Sound l E S D vwCl tys xNs xTs yX9_copies cX9_copies 6 none 0 As m1 r m2 := by
  intro As m1 r m2 h
  unfold F_X9_copies at h
  split at h
  · exact xi_meth (P := P_X9_copies S) (by decide) hC.1 (po_X9_copies hC) (Nat.le_of_ble_eq_true rfl) rfl (xe_X9_copies _ _ _ _ _ _ h)
  · exact xi_no h
