theorem i_X4_ofLetter_0 : xi_dc cX4_ofLetter 0 = some (.iload_n 0, 1) := by decide +kernel
theorem i_X4_ofLetter_1 : xi_dc cX4_ofLetter 1 = some (.lookupswitch 71 #[(98, 69), (104, 65), (107, 63), (112, 59), (116, 67), (119, 61)], 59) := by decide +kernel
theorem i_X4_ofLetter_60 : xi_dc cX4_ofLetter 60 = some (.iconst 0, 1) := by decide +kernel
theorem i_X4_ofLetter_61 : xi_dc cX4_ofLetter 61 = some (.ireturn, 1) := by decide +kernel
theorem i_X4_ofLetter_62 : xi_dc cX4_ofLetter 62 = some (.iconst 1, 1) := by decide +kernel
theorem i_X4_ofLetter_63 : xi_dc cX4_ofLetter 63 = some (.ireturn, 1) := by decide +kernel
theorem i_X4_ofLetter_64 : xi_dc cX4_ofLetter 64 = some (.iconst 2, 1) := by decide +kernel
theorem i_X4_ofLetter_65 : xi_dc cX4_ofLetter 65 = some (.ireturn, 1) := by decide +kernel
theorem i_X4_ofLetter_66 : xi_dc cX4_ofLetter 66 = some (.iconst 3, 1) := by decide +kernel
theorem i_X4_ofLetter_67 : xi_dc cX4_ofLetter 67 = some (.ireturn, 1) := by decide +kernel
theorem i_X4_ofLetter_68 : xi_dc cX4_ofLetter 68 = some (.iconst 4, 1) := by decide +kernel
theorem i_X4_ofLetter_69 : xi_dc cX4_ofLetter 69 = some (.ireturn, 1) := by decide +kernel
theorem i_X4_ofLetter_70 : xi_dc cX4_ofLetter 70 = some (.iconst 5, 1) := by decide +kernel
theorem i_X4_ofLetter_71 : xi_dc cX4_ofLetter 71 = some (.ireturn, 1) := by decide +kernel
theorem i_X4_ofLetter_72 : xi_dc cX4_ofLetter 72 = some (.bipush (-9), 2) := by decide +kernel
theorem i_X4_ofLetter_74 : xi_dc cX4_ofLetter 74 = some (.ireturn, 1) := by decide +kernel
def P_X4_ofLetter (S : xi_S) : xi_P := (xi_dc cX4_ofLetter, xi_tab xfl_X4, xi_tab xki_X4, xi_tab xkl_X4, xi_tab xcs_X4, xi_tab xcv_X4, xi_calls [], xi_calls [], 1)
def E_X4_ofLetter (S : xi_S) (v0 : Int32) (m : xi_M) : Option xi_R :=
  if 98 = Int32.toInt v0 then
    some (some (.int (Int32.ofInt 5)), m)
  else
    if 104 = Int32.toInt v0 then
      some (some (.int (Int32.ofInt 3)), m)
    else
      if 107 = Int32.toInt v0 then
        some (some (.int (Int32.ofInt 2)), m)
      else
        if 112 = Int32.toInt v0 then
          some (some (.int (Int32.ofInt 0)), m)
        else
          if 116 = Int32.toInt v0 then
            some (some (.int (Int32.ofInt 4)), m)
          else
            if 119 = Int32.toInt v0 then
              some (some (.int (Int32.ofInt 1)), m)
            else
              some (some (.int ((Int8.ofInt (-9)).toInt32)), m)
def F_X4_ofLetter (S : xi_S) : xi_F := fun As m => match As with
  | [.int v0] => E_X4_ofLetter S v0 m
  | _ => none
set_option maxRecDepth 100000 in
set_option maxHeartbeats 4000000 in
theorem xe_X4_ofLetter {S : xi_S} {res : xi_R} (v0 : Int32) (m : xi_M) (h : E_X4_ofLetter S v0 m = some res) : xi_X S (P_X4_ofLetter S) (0, [some (.int v0)], [], m) res := by
  unfold E_X4_ofLetter at h
  refine xr_iload_n i_X4_ofLetter_0 rfl (q := 1) rfl ?_
  by_cases c1 : 98 = Int32.toInt v0
  · replace h := (if_pos c1).symm.trans h
    refine xr_lookup i_X4_ofLetter_1 rfl (off := 69) (fun kk => xi_lk_hit c1) (q := 70) rfl ?_
    refine xr_iconst i_X4_ofLetter_70 (q := 71) rfl ?_
    exact xr_ireturn i_X4_ofLetter_71 rfl h
  · replace h := (if_neg c1).symm.trans h
    by_cases c2 : 104 = Int32.toInt v0
    · replace h := (if_pos c2).symm.trans h
      refine xr_lookup i_X4_ofLetter_1 rfl (off := 65) (fun kk => (xi_lk_miss c1).trans (xi_lk_hit c2)) (q := 66) rfl ?_
      refine xr_iconst i_X4_ofLetter_66 (q := 67) rfl ?_
      exact xr_ireturn i_X4_ofLetter_67 rfl h
    · replace h := (if_neg c2).symm.trans h
      by_cases c3 : 107 = Int32.toInt v0
      · replace h := (if_pos c3).symm.trans h
        refine xr_lookup i_X4_ofLetter_1 rfl (off := 63) (fun kk => (xi_lk_miss c1).trans ((xi_lk_miss c2).trans (xi_lk_hit c3))) (q := 64) rfl ?_
        refine xr_iconst i_X4_ofLetter_64 (q := 65) rfl ?_
        exact xr_ireturn i_X4_ofLetter_65 rfl h
      · replace h := (if_neg c3).symm.trans h
        by_cases c4 : 112 = Int32.toInt v0
        · replace h := (if_pos c4).symm.trans h
          refine xr_lookup i_X4_ofLetter_1 rfl (off := 59) (fun kk => (xi_lk_miss c1).trans ((xi_lk_miss c2).trans ((xi_lk_miss c3).trans (xi_lk_hit c4)))) (q := 60) rfl ?_
          refine xr_iconst i_X4_ofLetter_60 (q := 61) rfl ?_
          exact xr_ireturn i_X4_ofLetter_61 rfl h
        · replace h := (if_neg c4).symm.trans h
          by_cases c5 : 116 = Int32.toInt v0
          · replace h := (if_pos c5).symm.trans h
            refine xr_lookup i_X4_ofLetter_1 rfl (off := 67) (fun kk => (xi_lk_miss c1).trans ((xi_lk_miss c2).trans ((xi_lk_miss c3).trans ((xi_lk_miss c4).trans (xi_lk_hit c5))))) (q := 68) rfl ?_
            refine xr_iconst i_X4_ofLetter_68 (q := 69) rfl ?_
            exact xr_ireturn i_X4_ofLetter_69 rfl h
          · replace h := (if_neg c5).symm.trans h
            by_cases c6 : 119 = Int32.toInt v0
            · replace h := (if_pos c6).symm.trans h
              refine xr_lookup i_X4_ofLetter_1 rfl (off := 61) (fun kk => (xi_lk_miss c1).trans ((xi_lk_miss c2).trans ((xi_lk_miss c3).trans ((xi_lk_miss c4).trans ((xi_lk_miss c5).trans (xi_lk_hit c6)))))) (q := 62) rfl ?_
              refine xr_iconst i_X4_ofLetter_62 (q := 63) rfl ?_
              exact xr_ireturn i_X4_ofLetter_63 rfl h
            · replace h := (if_neg c6).symm.trans h
              refine xr_lookup i_X4_ofLetter_1 rfl (off := 71) (fun kk => (xi_lk_miss c1).trans ((xi_lk_miss c2).trans ((xi_lk_miss c3).trans ((xi_lk_miss c4).trans ((xi_lk_miss c5).trans ((xi_lk_miss c6).trans (rfl))))))) (q := 72) rfl ?_
              refine xr_bipush i_X4_ofLetter_72 (q := 74) rfl ?_
              exact xr_ireturn i_X4_ofLetter_74 rfl h
set_option maxRecDepth 100000 in
theorem po_X4_ofLetter {l : Launch} {E : xi_E} {S : xi_S} {D : va_G} {tys : List (ClassId × FieldType)} (hC : xCx E S tys) : xi_Pok l E S D vwCl tys xNs RX4 xTs cX4_ofLetter 1 0 (P_X4_ofLetter S) := ⟨xi_dc_ok, by rw [hC.2]; exact xfo_X4, xkio_X4, xklo_X4, xi_calls_ok (ins := .invokestatic) (fun _ h => absurd h List.not_mem_nil), xi_calls_ok (ins := .invokevirtual) (fun _ h => absurd h List.not_mem_nil)⟩
theorem sn_X4_ofLetter {l : Launch} {E : xi_E} {S : xi_S} {D : va_G} {tys : List (ClassId × FieldType)} (hC : xCx E S tys) : ∀ As m1 r m2, F_X4_ofLetter S As m1 = some (r, m2) → xi_Sound l E S D vwCl tys xNs xTs yX4_ofLetter cX4_ofLetter 1 (some .int) 0 As m1 r m2 := by
  intro As m1 r m2 h
  unfold F_X4_ofLetter at h
  split at h
  · exact xi_meth (P := P_X4_ofLetter S) (by decide) hC.1 (po_X4_ofLetter hC) (Nat.le_of_ble_eq_true rfl) rfl (xe_X4_ofLetter _ _ h)
  · exact xi_no h
theorem i_X6_clear_0 : xi_dc cX6_clear 0 = some (.aload_n 0, 1) := by decide +kernel
theorem i_X6_clear_1 : xi_dc cX6_clear 1 = some (.iconst 0, 1) := by decide +kernel
theorem i_X6_clear_2 : xi_dc cX6_clear 2 = some (.putfield 39, 3) := by decide +kernel
theorem i_X6_clear_5 : xi_dc cX6_clear 5 = some (.aload_n 0, 1) := by decide +kernel
theorem i_X6_clear_6 : xi_dc cX6_clear 6 = some (.iconst 0, 1) := by decide +kernel
theorem i_X6_clear_7 : xi_dc cX6_clear 7 = some (.putfield 43, 3) := by decide +kernel
theorem i_X6_clear_10 : xi_dc cX6_clear 10 = some (.aload_n 0, 1) := by decide +kernel
theorem i_X6_clear_11 : xi_dc cX6_clear 11 = some (.iconst 0, 1) := by decide +kernel
theorem i_X6_clear_12 : xi_dc cX6_clear 12 = some (.putfield 46, 3) := by decide +kernel
theorem i_X6_clear_15 : xi_dc cX6_clear 15 = some (.aload_n 0, 1) := by decide +kernel
theorem i_X6_clear_16 : xi_dc cX6_clear 16 = some (.iconst 0, 1) := by decide +kernel
theorem i_X6_clear_17 : xi_dc cX6_clear 17 = some (.putfield 49, 3) := by decide +kernel
theorem i_X6_clear_20 : xi_dc cX6_clear 20 = some (.aload_n 0, 1) := by decide +kernel
theorem i_X6_clear_21 : xi_dc cX6_clear 21 = some (.iconst 0, 1) := by decide +kernel
theorem i_X6_clear_22 : xi_dc cX6_clear 22 = some (.putfield 52, 3) := by decide +kernel
theorem i_X6_clear_25 : xi_dc cX6_clear 25 = some (.aload_n 0, 1) := by decide +kernel
theorem i_X6_clear_26 : xi_dc cX6_clear 26 = some (.getfield 9, 3) := by decide +kernel
theorem i_X6_clear_29 : xi_dc cX6_clear 29 = some (.iconst 0, 1) := by decide +kernel
theorem i_X6_clear_30 : xi_dc cX6_clear 30 = some (.invokestatic 55, 3) := by decide +kernel
theorem i_X6_clear_33 : xi_dc cX6_clear 33 = some (.aload_n 0, 1) := by decide +kernel
theorem i_X6_clear_34 : xi_dc cX6_clear 34 = some (.getfield 15, 3) := by decide +kernel
theorem i_X6_clear_37 : xi_dc cX6_clear 37 = some (.iconst 0, 1) := by decide +kernel
theorem i_X6_clear_38 : xi_dc cX6_clear 38 = some (.invokestatic 55, 3) := by decide +kernel
theorem i_X6_clear_41 : xi_dc cX6_clear 41 = some (.return_, 1) := by decide +kernel
def P_X6_clear (S : xi_S) : xi_P := (xi_dc cX6_clear, xi_tab xfl_X6, xi_tab xki_X6, xi_tab xkl_X6, xi_tab xcs_X6, xi_tab xcv_X6, xi_calls [(55, xi_wS 2 (F_J7_fill_53178 S))], xi_calls [], 0)
theorem cc_X6_clear_55 (S : xi_S) (a0 : Nat) (a1 : Int32) (m : xi_M) : (P_X6_clear S).2.2.2.2.2.2.1 55 [.ref a0, .int a1] m = (E_J7_fill_53178 S a0 a1 m) := by
  show xi_calls [(55, xi_wS 2 (F_J7_fill_53178 S))] 55 [.ref a0, .int a1] m = _
  refine Eq.trans (b := xi_wS 2 (F_J7_fill_53178 S) [.ref a0, .int a1] m) (xi_calls_hit rfl) ?_
  exact xi_wS_eq rfl
def E_X6_clear (S : xi_S) (v0 : Nat) (m : xi_M) : Option xi_R :=
  if S.1 v0 = 8 then
    if S.1 v0 = 8 then
      if S.1 v0 = 8 then
        if S.1 v0 = 8 then
          if S.1 v0 = 8 then
            if S.1 v0 = 8 then (S.2.2 v0 5).bind fun b7 =>
              xi_bV (E_J7_fill_53178 S b7 (Int32.ofInt 0) (xi_wI (xi_wI (xi_wI (xi_wI (xi_wI m v0 0 (Int32.ofInt 0)) v0 1 (Int32.ofInt 0)) v0 2 (Int32.ofInt 0)) v0 3 (Int32.ofInt 0)) v0 4 (Int32.ofInt 0))) fun m8 =>
              if S.1 v0 = 8 then (S.2.2 v0 6).bind fun b10 =>
                xi_bV (E_J7_fill_53178 S b10 (Int32.ofInt 0) m8) fun m11 =>
                some (none, m11)
              else none
            else none
          else none
        else none
      else none
    else none
  else none
def F_X6_clear (S : xi_S) : xi_F := fun As m => match As with
  | [.ref v0] => E_X6_clear S v0 m
  | _ => none
set_option maxRecDepth 100000 in
set_option maxHeartbeats 4000000 in
theorem xe_X6_clear {S : xi_S} {res : xi_R} (v0 : Nat) (m : xi_M) (h : E_X6_clear S v0 m = some res) : xi_X S (P_X6_clear S) (0, [some (.ref v0)], [], m) res := by
  unfold E_X6_clear at h
  refine xr_aload_n i_X6_clear_0 rfl (q := 1) rfl ?_
  refine xr_iconst i_X6_clear_1 (q := 2) rfl ?_
  obtain ⟨c1, h⟩ := xi_if_some h
  refine xr_putI i_X6_clear_2 xfe_X6_39 c1 (q := 5) rfl ?_
  refine xr_aload_n i_X6_clear_5 rfl (q := 6) rfl ?_
  refine xr_iconst i_X6_clear_6 (q := 7) rfl ?_
  obtain ⟨c2, h⟩ := xi_if_some h
  refine xr_putI i_X6_clear_7 xfe_X6_43 c2 (q := 10) rfl ?_
  refine xr_aload_n i_X6_clear_10 rfl (q := 11) rfl ?_
  refine xr_iconst i_X6_clear_11 (q := 12) rfl ?_
  obtain ⟨c3, h⟩ := xi_if_some h
  refine xr_putI i_X6_clear_12 xfe_X6_46 c3 (q := 15) rfl ?_
  refine xr_aload_n i_X6_clear_15 rfl (q := 16) rfl ?_
  refine xr_iconst i_X6_clear_16 (q := 17) rfl ?_
  obtain ⟨c4, h⟩ := xi_if_some h
  refine xr_putI i_X6_clear_17 xfe_X6_49 c4 (q := 20) rfl ?_
  refine xr_aload_n i_X6_clear_20 rfl (q := 21) rfl ?_
  refine xr_iconst i_X6_clear_21 (q := 22) rfl ?_
  obtain ⟨c5, h⟩ := xi_if_some h
  refine xr_putI i_X6_clear_22 xfe_X6_52 c5 (q := 25) rfl ?_
  refine xr_aload_n i_X6_clear_25 rfl (q := 26) rfl ?_
  obtain ⟨c6, h⟩ := xi_if_some h
  obtain ⟨b7, eb7, h⟩ := xi_bind_some h
  refine xr_getR i_X6_clear_26 xfe_X6_9 c6 eb7 (q := 29) rfl ?_
  refine xr_iconst i_X6_clear_29 (q := 30) rfl ?_
  obtain ⟨m8, em8, h⟩ := xi_bV_some h
  refine xr_SV i_X6_clear_30 xcse_X6_55 rfl (As := [.ref b7, .int (Int32.ofInt 0)]) rfl (rest := []) rfl ((cc_X6_clear_55 S _ _ _).trans em8) (q := 33) rfl ?_
  refine xr_aload_n i_X6_clear_33 rfl (q := 34) rfl ?_
  obtain ⟨c9, h⟩ := xi_if_some h
  obtain ⟨b10, eb10, h⟩ := xi_bind_some h
  refine xr_getR i_X6_clear_34 xfe_X6_15 c9 eb10 (q := 37) rfl ?_
  refine xr_iconst i_X6_clear_37 (q := 38) rfl ?_
  obtain ⟨m11, em11, h⟩ := xi_bV_some h
  refine xr_SV i_X6_clear_38 xcse_X6_55 rfl (As := [.ref b10, .int (Int32.ofInt 0)]) rfl (rest := []) rfl ((cc_X6_clear_55 S _ _ _).trans em11) (q := 41) rfl ?_
  exact xr_return i_X6_clear_41 rfl h
set_option maxRecDepth 100000 in
theorem po_X6_clear {l : Launch} {E : xi_E} {S : xi_S} {D : va_G} {tys : List (ClassId × FieldType)} (hC : xCx E S tys) : xi_Pok l E S D vwCl tys xNs RX6 xTs cX6_clear 1 1 (P_X6_clear S) := ⟨xi_dc_ok, by rw [hC.2]; exact xfo_X6, xkio_X6, xklo_X6, xi_calls_ok (ins := .invokestatic) (List.forall_mem_cons.mpr ⟨(xc_X6_55 (sn_J7_fill_53178 hC) (by decide)), fun _ h => absurd h List.not_mem_nil⟩), xi_calls_ok (ins := .invokevirtual) (fun _ h => absurd h List.not_mem_nil)⟩
theorem sn_X6_clear {l : Launch} {E : xi_E} {S : xi_S} {D : va_G} {tys : List (ClassId × FieldType)} (hC : xCx E S tys) : ∀ As m1 r m2, F_X6_clear S As m1 = some (r, m2) → xi_Sound l E S D vwCl tys xNs xTs yX6_clear cX6_clear 1 none 1 As m1 r m2 := by
  intro As m1 r m2 h
  unfold F_X6_clear at h
  split at h
  · exact xi_meth (P := P_X6_clear S) (by decide) hC.1 (po_X6_clear hC) (Nat.le_of_ble_eq_true rfl) rfl (xe_X6_clear _ _ h)
  · exact xi_no h
theorem i_X5_skipBlanks_0 : xi_dc cX5_skipBlanks 0 = some (.aload_n 0, 1) := by decide +kernel
theorem i_X5_skipBlanks_1 : xi_dc cX5_skipBlanks 1 = some (.getfield 57, 3) := by decide +kernel
theorem i_X5_skipBlanks_4 : xi_dc cX5_skipBlanks 4 = some (.aload_n 0, 1) := by decide +kernel
theorem i_X5_skipBlanks_5 : xi_dc cX5_skipBlanks 5 = some (.getfield 15, 3) := by decide +kernel
theorem i_X5_skipBlanks_8 : xi_dc cX5_skipBlanks 8 = some (.getfield 60, 3) := by decide +kernel
theorem i_X5_skipBlanks_11 : xi_dc cX5_skipBlanks 11 = some (.if_icmp .ge 33, 3) := by decide +kernel
theorem t_X5_skipBlanks_11 : ((11 : Nat) : Int) + 33 = ((44 : Nat) : Int) := by decide +kernel
theorem i_X5_skipBlanks_14 : xi_dc cX5_skipBlanks 14 = some (.aload_n 0, 1) := by decide +kernel
theorem i_X5_skipBlanks_15 : xi_dc cX5_skipBlanks 15 = some (.getfield 15, 3) := by decide +kernel
theorem i_X5_skipBlanks_18 : xi_dc cX5_skipBlanks 18 = some (.getfield 65, 3) := by decide +kernel
theorem i_X5_skipBlanks_21 : xi_dc cX5_skipBlanks 21 = some (.aload_n 0, 1) := by decide +kernel
theorem i_X5_skipBlanks_22 : xi_dc cX5_skipBlanks 22 = some (.getfield 57, 3) := by decide +kernel
theorem i_X5_skipBlanks_25 : xi_dc cX5_skipBlanks 25 = some (.iaload, 1) := by decide +kernel
theorem i_X5_skipBlanks_26 : xi_dc cX5_skipBlanks 26 = some (.bipush 32, 2) := by decide +kernel
theorem i_X5_skipBlanks_28 : xi_dc cX5_skipBlanks 28 = some (.if_icmp .ne 16, 3) := by decide +kernel
theorem t_X5_skipBlanks_28 : ((28 : Nat) : Int) + 16 = ((44 : Nat) : Int) := by decide +kernel
theorem i_X5_skipBlanks_31 : xi_dc cX5_skipBlanks 31 = some (.aload_n 0, 1) := by decide +kernel
theorem i_X5_skipBlanks_32 : xi_dc cX5_skipBlanks 32 = some (.dup, 1) := by decide +kernel
theorem i_X5_skipBlanks_33 : xi_dc cX5_skipBlanks 33 = some (.getfield 57, 3) := by decide +kernel
theorem i_X5_skipBlanks_36 : xi_dc cX5_skipBlanks 36 = some (.iconst 1, 1) := by decide +kernel
theorem i_X5_skipBlanks_37 : xi_dc cX5_skipBlanks 37 = some (.iadd, 1) := by decide +kernel
theorem i_X5_skipBlanks_38 : xi_dc cX5_skipBlanks 38 = some (.putfield 57, 3) := by decide +kernel
theorem i_X5_skipBlanks_41 : xi_dc cX5_skipBlanks 41 = some (.goto (-41), 3) := by decide +kernel
theorem t_X5_skipBlanks_41 : ((41 : Nat) : Int) + (-41) = ((0 : Nat) : Int) := by decide +kernel
theorem i_X5_skipBlanks_44 : xi_dc cX5_skipBlanks 44 = some (.return_, 1) := by decide +kernel
def P_X5_skipBlanks (S : xi_S) : xi_P := (xi_dc cX5_skipBlanks, xi_tab xfl_X5, xi_tab xki_X5, xi_tab xkl_X5, xi_tab xcs_X5, xi_tab xcv_X5, xi_calls [], xi_calls [], 0)
def G_X5_skipBlanks_0 (S : xi_S) : Nat → Nat → xi_M → Option xi_R
  | 0, _, _ => none
  | n + 1, v0, m =>
    if S.1 v0 = 7 then
      if S.1 v0 = 7 then (S.2.2 v0 0).bind fun b3 =>
        if S.1 b3 = 9 then
          if (m.1 b3 1) ≤ (m.1 v0 1) then
            some (none, m)
          else
            if S.1 v0 = 7 then (S.2.2 v0 0).bind fun b6 =>
              if S.1 b6 = 9 then (S.2.2 b6 2).bind fun b8 =>
                if S.1 v0 = 7 then
                  if S.1 b8 = 0 ∧ ¬ ((m.1 v0 1) < 0 ∨ S.2.1 b8 ≤ Int32.toNatClampNeg (m.1 v0 1)) then
                    if (m.1 b8 (Int32.toNatClampNeg (m.1 v0 1))) = ((Int8.ofInt 32).toInt32) then
                      if S.1 v0 = 7 then
                        if S.1 v0 = 7 then
                          G_X5_skipBlanks_0 S n v0 (xi_wI m v0 1 ((m.1 v0 1) + (Int32.ofInt 1)))
                        else none
                      else none
                    else
                      some (none, m)
                  else none
                else none
              else none
            else none
        else none
      else none
    else none
set_option maxRecDepth 100000 in
set_option maxHeartbeats 4000000 in
theorem xs_X5_skipBlanks_0 {S : xi_S} {res : xi_R} : ∀ (n : Nat) (v0 : Nat) (m : xi_M), G_X5_skipBlanks_0 S n v0 m = some res → xi_X S (P_X5_skipBlanks S) (0, [some (.ref v0)], [], m) res := by
  intro n
  induction n with
  | zero => intro v0 m h; exact xi_no h
  | succ n ih =>
    intro v0 m h
    unfold G_X5_skipBlanks_0 at h
    refine xr_aload_n i_X5_skipBlanks_0 rfl (q := 1) rfl ?_
    obtain ⟨c1, h⟩ := xi_if_some h
    refine xr_getI i_X5_skipBlanks_1 xfe_X5_57 c1 (q := 4) rfl ?_
    refine xr_aload_n i_X5_skipBlanks_4 rfl (q := 5) rfl ?_
    obtain ⟨c2, h⟩ := xi_if_some h
    obtain ⟨b3, eb3, h⟩ := xi_bind_some h
    refine xr_getR i_X5_skipBlanks_5 xfe_X5_15 c2 eb3 (q := 8) rfl ?_
    obtain ⟨c4, h⟩ := xi_if_some h
    refine xr_getI i_X5_skipBlanks_8 xfe_X5_60 c4 (q := 11) rfl ?_
    by_cases c14 : (m.1 b3 1) ≤ (m.1 v0 1)
    · replace h := (if_pos c14).symm.trans h
      refine xr_if_icmp_ge_p i_X5_skipBlanks_11 c14 (q := 44) t_X5_skipBlanks_11 (q2 := 14) rfl ?_
      exact xr_return i_X5_skipBlanks_44 rfl h
    · replace h := (if_neg c14).symm.trans h
      refine xr_if_icmp_ge_n i_X5_skipBlanks_11 c14 (q := 44) t_X5_skipBlanks_11 (q2 := 14) rfl ?_
      refine xr_aload_n i_X5_skipBlanks_14 rfl (q := 15) rfl ?_
      obtain ⟨c5, h⟩ := xi_if_some h
      obtain ⟨b6, eb6, h⟩ := xi_bind_some h
      refine xr_getR i_X5_skipBlanks_15 xfe_X5_15 c5 eb6 (q := 18) rfl ?_
      obtain ⟨c7, h⟩ := xi_if_some h
      obtain ⟨b8, eb8, h⟩ := xi_bind_some h
      refine xr_getR i_X5_skipBlanks_18 xfe_X5_65 c7 eb8 (q := 21) rfl ?_
      refine xr_aload_n i_X5_skipBlanks_21 rfl (q := 22) rfl ?_
      obtain ⟨c9, h⟩ := xi_if_some h
      refine xr_getI i_X5_skipBlanks_22 xfe_X5_57 c9 (q := 25) rfl ?_
      obtain ⟨c10, h⟩ := xi_if_some h
      refine xr_iaload i_X5_skipBlanks_25 c10 (q := 26) rfl ?_
      refine xr_bipush i_X5_skipBlanks_26 (q := 28) rfl ?_
      by_cases c13 : (m.1 b8 (Int32.toNatClampNeg (m.1 v0 1))) = ((Int8.ofInt 32).toInt32)
      · replace h := (if_pos c13).symm.trans h
        refine xr_if_icmp_ne_p i_X5_skipBlanks_28 c13 (q := 44) t_X5_skipBlanks_28 (q2 := 31) rfl ?_
        refine xr_aload_n i_X5_skipBlanks_31 rfl (q := 32) rfl ?_
        refine xr_dup_r i_X5_skipBlanks_32 (q := 33) rfl ?_
        obtain ⟨c11, h⟩ := xi_if_some h
        refine xr_getI i_X5_skipBlanks_33 xfe_X5_57 c11 (q := 36) rfl ?_
        refine xr_iconst i_X5_skipBlanks_36 (q := 37) rfl ?_
        refine xr_iadd i_X5_skipBlanks_37 (q := 38) rfl ?_
        obtain ⟨c12, h⟩ := xi_if_some h
        refine xr_putI i_X5_skipBlanks_38 xfe_X5_57 c12 (q := 41) rfl ?_
        refine xr_goto i_X5_skipBlanks_41 (q := 0) t_X5_skipBlanks_41 ?_
        exact xi_X_le (xi_le_s xi_le_z) (ih _ _ h)
      · replace h := (if_neg c13).symm.trans h
        refine xr_if_icmp_ne_n i_X5_skipBlanks_28 c13 (q := 44) t_X5_skipBlanks_28 (q2 := 31) rfl ?_
        exact xr_return i_X5_skipBlanks_44 rfl h
def E_X5_skipBlanks (S : xi_S) (v0 : Nat) (m : xi_M) : Option xi_R :=
  if S.1 v0 = 7 then
    if S.1 v0 = 7 then (S.2.2 v0 0).bind fun b3 =>
      if S.1 b3 = 9 then
        if (m.1 b3 1) ≤ (m.1 v0 1) then
          some (none, m)
        else
          if S.1 v0 = 7 then (S.2.2 v0 0).bind fun b6 =>
            if S.1 b6 = 9 then (S.2.2 b6 2).bind fun b8 =>
              if S.1 v0 = 7 then
                if S.1 b8 = 0 ∧ ¬ ((m.1 v0 1) < 0 ∨ S.2.1 b8 ≤ Int32.toNatClampNeg (m.1 v0 1)) then
                  if (m.1 b8 (Int32.toNatClampNeg (m.1 v0 1))) = ((Int8.ofInt 32).toInt32) then
                    if S.1 v0 = 7 then
                      if S.1 v0 = 7 then
                        G_X5_skipBlanks_0 S 10000 v0 (xi_wI m v0 1 ((m.1 v0 1) + (Int32.ofInt 1)))
                      else none
                    else none
                  else
                    some (none, m)
                else none
              else none
            else none
          else none
      else none
    else none
  else none
def F_X5_skipBlanks (S : xi_S) : xi_F := fun As m => match As with
  | [.ref v0] => E_X5_skipBlanks S v0 m
  | _ => none
set_option maxRecDepth 100000 in
set_option maxHeartbeats 4000000 in
theorem xe_X5_skipBlanks {S : xi_S} {res : xi_R} (v0 : Nat) (m : xi_M) (h : E_X5_skipBlanks S v0 m = some res) : xi_X S (P_X5_skipBlanks S) (0, [some (.ref v0)], [], m) res := by
  unfold E_X5_skipBlanks at h
  refine xr_aload_n i_X5_skipBlanks_0 rfl (q := 1) rfl ?_
  obtain ⟨c1, h⟩ := xi_if_some h
  refine xr_getI i_X5_skipBlanks_1 xfe_X5_57 c1 (q := 4) rfl ?_
  refine xr_aload_n i_X5_skipBlanks_4 rfl (q := 5) rfl ?_
  obtain ⟨c2, h⟩ := xi_if_some h
  obtain ⟨b3, eb3, h⟩ := xi_bind_some h
  refine xr_getR i_X5_skipBlanks_5 xfe_X5_15 c2 eb3 (q := 8) rfl ?_
  obtain ⟨c4, h⟩ := xi_if_some h
  refine xr_getI i_X5_skipBlanks_8 xfe_X5_60 c4 (q := 11) rfl ?_
  by_cases c14 : (m.1 b3 1) ≤ (m.1 v0 1)
  · replace h := (if_pos c14).symm.trans h
    refine xr_if_icmp_ge_p i_X5_skipBlanks_11 c14 (q := 44) t_X5_skipBlanks_11 (q2 := 14) rfl ?_
    exact xr_return i_X5_skipBlanks_44 rfl h
  · replace h := (if_neg c14).symm.trans h
    refine xr_if_icmp_ge_n i_X5_skipBlanks_11 c14 (q := 44) t_X5_skipBlanks_11 (q2 := 14) rfl ?_
    refine xr_aload_n i_X5_skipBlanks_14 rfl (q := 15) rfl ?_
    obtain ⟨c5, h⟩ := xi_if_some h
    obtain ⟨b6, eb6, h⟩ := xi_bind_some h
    refine xr_getR i_X5_skipBlanks_15 xfe_X5_15 c5 eb6 (q := 18) rfl ?_
    obtain ⟨c7, h⟩ := xi_if_some h
    obtain ⟨b8, eb8, h⟩ := xi_bind_some h
    refine xr_getR i_X5_skipBlanks_18 xfe_X5_65 c7 eb8 (q := 21) rfl ?_
    refine xr_aload_n i_X5_skipBlanks_21 rfl (q := 22) rfl ?_
    obtain ⟨c9, h⟩ := xi_if_some h
    refine xr_getI i_X5_skipBlanks_22 xfe_X5_57 c9 (q := 25) rfl ?_
    obtain ⟨c10, h⟩ := xi_if_some h
    refine xr_iaload i_X5_skipBlanks_25 c10 (q := 26) rfl ?_
    refine xr_bipush i_X5_skipBlanks_26 (q := 28) rfl ?_
    by_cases c13 : (m.1 b8 (Int32.toNatClampNeg (m.1 v0 1))) = ((Int8.ofInt 32).toInt32)
    · replace h := (if_pos c13).symm.trans h
      refine xr_if_icmp_ne_p i_X5_skipBlanks_28 c13 (q := 44) t_X5_skipBlanks_28 (q2 := 31) rfl ?_
      refine xr_aload_n i_X5_skipBlanks_31 rfl (q := 32) rfl ?_
      refine xr_dup_r i_X5_skipBlanks_32 (q := 33) rfl ?_
      obtain ⟨c11, h⟩ := xi_if_some h
      refine xr_getI i_X5_skipBlanks_33 xfe_X5_57 c11 (q := 36) rfl ?_
      refine xr_iconst i_X5_skipBlanks_36 (q := 37) rfl ?_
      refine xr_iadd i_X5_skipBlanks_37 (q := 38) rfl ?_
      obtain ⟨c12, h⟩ := xi_if_some h
      refine xr_putI i_X5_skipBlanks_38 xfe_X5_57 c12 (q := 41) rfl ?_
      refine xr_goto i_X5_skipBlanks_41 (q := 0) t_X5_skipBlanks_41 ?_
      exact xi_X_le (xi_le_s xi_le_z) (xs_X5_skipBlanks_0 10000 _ _ h)
    · replace h := (if_neg c13).symm.trans h
      refine xr_if_icmp_ne_n i_X5_skipBlanks_28 c13 (q := 44) t_X5_skipBlanks_28 (q2 := 31) rfl ?_
      exact xr_return i_X5_skipBlanks_44 rfl h
set_option maxRecDepth 100000 in
theorem po_X5_skipBlanks {l : Launch} {E : xi_E} {S : xi_S} {D : va_G} {tys : List (ClassId × FieldType)} (hC : xCx E S tys) : xi_Pok l E S D vwCl tys xNs RX5 xTs cX5_skipBlanks 1 0 (P_X5_skipBlanks S) := ⟨xi_dc_ok, by rw [hC.2]; exact xfo_X5, xkio_X5, xklo_X5, xi_calls_ok (ins := .invokestatic) (fun _ h => absurd h List.not_mem_nil), xi_calls_ok (ins := .invokevirtual) (fun _ h => absurd h List.not_mem_nil)⟩
theorem sn_X5_skipBlanks {l : Launch} {E : xi_E} {S : xi_S} {D : va_G} {tys : List (ClassId × FieldType)} (hC : xCx E S tys) : ∀ As m1 r m2, F_X5_skipBlanks S As m1 = some (r, m2) → xi_Sound l E S D vwCl tys xNs xTs yX5_skipBlanks cX5_skipBlanks 1 none 0 As m1 r m2 := by
  intro As m1 r m2 h
  unfold F_X5_skipBlanks at h
  split at h
  · exact xi_meth (P := P_X5_skipBlanks S) (by decide) hC.1 (po_X5_skipBlanks hC) (Nat.le_of_ble_eq_true rfl) rfl (xe_X5_skipBlanks _ _ h)
  · exact xi_no h
theorem i_X5_letter_0 : xi_dc cX5_letter 0 = some (.aload_n 0, 1) := by decide +kernel
theorem i_X5_letter_1 : xi_dc cX5_letter 1 = some (.getfield 9, 3) := by decide +kernel
theorem i_X5_letter_4 : xi_dc cX5_letter 4 = some (.bipush (-9), 2) := by decide +kernel
theorem i_X5_letter_6 : xi_dc cX5_letter 6 = some (.if_icmp .eq 4, 3) := by decide +kernel
theorem t_X5_letter_6 : ((6 : Nat) : Int) + 4 = ((10 : Nat) : Int) := by decide +kernel
theorem i_X5_letter_9 : xi_dc cX5_letter 9 = some (.return_, 1) := by decide +kernel
theorem i_X5_letter_10 : xi_dc cX5_letter 10 = some (.aload_n 0, 1) := by decide +kernel
theorem i_X5_letter_11 : xi_dc cX5_letter 11 = some (.getfield 57, 3) := by decide +kernel
theorem i_X5_letter_14 : xi_dc cX5_letter 14 = some (.aload_n 0, 1) := by decide +kernel
theorem i_X5_letter_15 : xi_dc cX5_letter 15 = some (.getfield 15, 3) := by decide +kernel
theorem i_X5_letter_18 : xi_dc cX5_letter 18 = some (.getfield 60, 3) := by decide +kernel
theorem i_X5_letter_21 : xi_dc cX5_letter 21 = some (.if_icmp .ge 19, 3) := by decide +kernel
theorem t_X5_letter_21 : ((21 : Nat) : Int) + 19 = ((40 : Nat) : Int) := by decide +kernel
theorem i_X5_letter_24 : xi_dc cX5_letter 24 = some (.aload_n 0, 1) := by decide +kernel
theorem i_X5_letter_25 : xi_dc cX5_letter 25 = some (.getfield 15, 3) := by decide +kernel
theorem i_X5_letter_28 : xi_dc cX5_letter 28 = some (.getfield 65, 3) := by decide +kernel
theorem i_X5_letter_31 : xi_dc cX5_letter 31 = some (.aload_n 0, 1) := by decide +kernel
theorem i_X5_letter_32 : xi_dc cX5_letter 32 = some (.getfield 57, 3) := by decide +kernel
theorem i_X5_letter_35 : xi_dc cX5_letter 35 = some (.iaload, 1) := by decide +kernel
theorem i_X5_letter_36 : xi_dc cX5_letter 36 = some (.iload_n 1, 1) := by decide +kernel
theorem i_X5_letter_37 : xi_dc cX5_letter 37 = some (.if_icmp .eq 12, 3) := by decide +kernel
theorem t_X5_letter_37 : ((37 : Nat) : Int) + 12 = ((49 : Nat) : Int) := by decide +kernel
theorem i_X5_letter_40 : xi_dc cX5_letter 40 = some (.aload_n 0, 1) := by decide +kernel
theorem i_X5_letter_41 : xi_dc cX5_letter 41 = some (.aload_n 0, 1) := by decide +kernel
theorem i_X5_letter_42 : xi_dc cX5_letter 42 = some (.getfield 57, 3) := by decide +kernel
theorem i_X5_letter_45 : xi_dc cX5_letter 45 = some (.putfield 9, 3) := by decide +kernel
theorem i_X5_letter_48 : xi_dc cX5_letter 48 = some (.return_, 1) := by decide +kernel
theorem i_X5_letter_49 : xi_dc cX5_letter 49 = some (.aload_n 0, 1) := by decide +kernel
theorem i_X5_letter_50 : xi_dc cX5_letter 50 = some (.dup, 1) := by decide +kernel
theorem i_X5_letter_51 : xi_dc cX5_letter 51 = some (.getfield 57, 3) := by decide +kernel
theorem i_X5_letter_54 : xi_dc cX5_letter 54 = some (.iconst 1, 1) := by decide +kernel
theorem i_X5_letter_55 : xi_dc cX5_letter 55 = some (.iadd, 1) := by decide +kernel
theorem i_X5_letter_56 : xi_dc cX5_letter 56 = some (.putfield 57, 3) := by decide +kernel
theorem i_X5_letter_59 : xi_dc cX5_letter 59 = some (.return_, 1) := by decide +kernel
def P_X5_letter (S : xi_S) : xi_P := (xi_dc cX5_letter, xi_tab xfl_X5, xi_tab xki_X5, xi_tab xkl_X5, xi_tab xcs_X5, xi_tab xcv_X5, xi_calls [], xi_calls [], 0)
def E_X5_letter (S : xi_S) (v0 : Nat) (v1 : Int32) (m : xi_M) : Option xi_R :=
  if S.1 v0 = 7 then
    if (m.1 v0 2) = ((Int8.ofInt (-9)).toInt32) then
      if S.1 v0 = 7 then
        if S.1 v0 = 7 then (S.2.2 v0 0).bind fun b4 =>
          if S.1 b4 = 9 then
            if (m.1 b4 1) ≤ (m.1 v0 1) then
              if S.1 v0 = 7 then
                if S.1 v0 = 7 then
                  some (none, (xi_wI m v0 2 (m.1 v0 1)))
                else none
              else none
            else
              if S.1 v0 = 7 then (S.2.2 v0 0).bind fun b9 =>
                if S.1 b9 = 9 then (S.2.2 b9 2).bind fun b11 =>
                  if S.1 v0 = 7 then
                    if S.1 b11 = 0 ∧ ¬ ((m.1 v0 1) < 0 ∨ S.2.1 b11 ≤ Int32.toNatClampNeg (m.1 v0 1)) then
                      if (m.1 b11 (Int32.toNatClampNeg (m.1 v0 1))) = v1 then
                        if S.1 v0 = 7 then
                          if S.1 v0 = 7 then
                            some (none, (xi_wI m v0 1 ((m.1 v0 1) + (Int32.ofInt 1))))
                          else none
                        else none
                      else
                        if S.1 v0 = 7 then
                          if S.1 v0 = 7 then
                            some (none, (xi_wI m v0 2 (m.1 v0 1)))
                          else none
                        else none
                    else none
                  else none
                else none
              else none
          else none
        else none
      else none
    else
      some (none, m)
  else none
def F_X5_letter (S : xi_S) : xi_F := fun As m => match As with
  | [.ref v0, .int v1] => E_X5_letter S v0 v1 m
  | _ => none
set_option maxRecDepth 100000 in
set_option maxHeartbeats 4000000 in
theorem xe_X5_letter {S : xi_S} {res : xi_R} (v0 : Nat) (v1 : Int32) (m : xi_M) (h : E_X5_letter S v0 v1 m = some res) : xi_X S (P_X5_letter S) (0, [some (.ref v0), some (.int v1)], [], m) res := by
  unfold E_X5_letter at h
  refine xr_aload_n i_X5_letter_0 rfl (q := 1) rfl ?_
  obtain ⟨c1, h⟩ := xi_if_some h
  refine xr_getI i_X5_letter_1 xfe_X5_9 c1 (q := 4) rfl ?_
  refine xr_bipush i_X5_letter_4 (q := 6) rfl ?_
  by_cases c20 : (m.1 v0 2) = ((Int8.ofInt (-9)).toInt32)
  · replace h := (if_pos c20).symm.trans h
    refine xr_if_icmp_eq_p i_X5_letter_6 c20 (q := 10) t_X5_letter_6 (q2 := 9) rfl ?_
    refine xr_aload_n i_X5_letter_10 rfl (q := 11) rfl ?_
    obtain ⟨c2, h⟩ := xi_if_some h
    refine xr_getI i_X5_letter_11 xfe_X5_57 c2 (q := 14) rfl ?_
    refine xr_aload_n i_X5_letter_14 rfl (q := 15) rfl ?_
    obtain ⟨c3, h⟩ := xi_if_some h
    obtain ⟨b4, eb4, h⟩ := xi_bind_some h
    refine xr_getR i_X5_letter_15 xfe_X5_15 c3 eb4 (q := 18) rfl ?_
    obtain ⟨c5, h⟩ := xi_if_some h
    refine xr_getI i_X5_letter_18 xfe_X5_60 c5 (q := 21) rfl ?_
    by_cases c19 : (m.1 b4 1) ≤ (m.1 v0 1)
    · replace h := (if_pos c19).symm.trans h
      refine xr_if_icmp_ge_p i_X5_letter_21 c19 (q := 40) t_X5_letter_21 (q2 := 24) rfl ?_
      refine xr_aload_n i_X5_letter_40 rfl (q := 41) rfl ?_
      refine xr_aload_n i_X5_letter_41 rfl (q := 42) rfl ?_
      obtain ⟨c6, h⟩ := xi_if_some h
      refine xr_getI i_X5_letter_42 xfe_X5_57 c6 (q := 45) rfl ?_
      obtain ⟨c7, h⟩ := xi_if_some h
      refine xr_putI i_X5_letter_45 xfe_X5_9 c7 (q := 48) rfl ?_
      exact xr_return i_X5_letter_48 rfl h
    · replace h := (if_neg c19).symm.trans h
      refine xr_if_icmp_ge_n i_X5_letter_21 c19 (q := 40) t_X5_letter_21 (q2 := 24) rfl ?_
      refine xr_aload_n i_X5_letter_24 rfl (q := 25) rfl ?_
      obtain ⟨c8, h⟩ := xi_if_some h
      obtain ⟨b9, eb9, h⟩ := xi_bind_some h
      refine xr_getR i_X5_letter_25 xfe_X5_15 c8 eb9 (q := 28) rfl ?_
      obtain ⟨c10, h⟩ := xi_if_some h
      obtain ⟨b11, eb11, h⟩ := xi_bind_some h
      refine xr_getR i_X5_letter_28 xfe_X5_65 c10 eb11 (q := 31) rfl ?_
      refine xr_aload_n i_X5_letter_31 rfl (q := 32) rfl ?_
      obtain ⟨c12, h⟩ := xi_if_some h
      refine xr_getI i_X5_letter_32 xfe_X5_57 c12 (q := 35) rfl ?_
      obtain ⟨c13, h⟩ := xi_if_some h
      refine xr_iaload i_X5_letter_35 c13 (q := 36) rfl ?_
      refine xr_iload_n i_X5_letter_36 rfl (q := 37) rfl ?_
      by_cases c18 : (m.1 b11 (Int32.toNatClampNeg (m.1 v0 1))) = v1
      · replace h := (if_pos c18).symm.trans h
        refine xr_if_icmp_eq_p i_X5_letter_37 c18 (q := 49) t_X5_letter_37 (q2 := 40) rfl ?_
        refine xr_aload_n i_X5_letter_49 rfl (q := 50) rfl ?_
        refine xr_dup_r i_X5_letter_50 (q := 51) rfl ?_
        obtain ⟨c14, h⟩ := xi_if_some h
        refine xr_getI i_X5_letter_51 xfe_X5_57 c14 (q := 54) rfl ?_
        refine xr_iconst i_X5_letter_54 (q := 55) rfl ?_
        refine xr_iadd i_X5_letter_55 (q := 56) rfl ?_
        obtain ⟨c15, h⟩ := xi_if_some h
        refine xr_putI i_X5_letter_56 xfe_X5_57 c15 (q := 59) rfl ?_
        exact xr_return i_X5_letter_59 rfl h
      · replace h := (if_neg c18).symm.trans h
        refine xr_if_icmp_eq_n i_X5_letter_37 c18 (q := 49) t_X5_letter_37 (q2 := 40) rfl ?_
        refine xr_aload_n i_X5_letter_40 rfl (q := 41) rfl ?_
        refine xr_aload_n i_X5_letter_41 rfl (q := 42) rfl ?_
        obtain ⟨c16, h⟩ := xi_if_some h
        refine xr_getI i_X5_letter_42 xfe_X5_57 c16 (q := 45) rfl ?_
        obtain ⟨c17, h⟩ := xi_if_some h
        refine xr_putI i_X5_letter_45 xfe_X5_9 c17 (q := 48) rfl ?_
        exact xr_return i_X5_letter_48 rfl h
  · replace h := (if_neg c20).symm.trans h
    refine xr_if_icmp_eq_n i_X5_letter_6 c20 (q := 10) t_X5_letter_6 (q2 := 9) rfl ?_
    exact xr_return i_X5_letter_9 rfl h
set_option maxRecDepth 100000 in
theorem po_X5_letter {l : Launch} {E : xi_E} {S : xi_S} {D : va_G} {tys : List (ClassId × FieldType)} (hC : xCx E S tys) : xi_Pok l E S D vwCl tys xNs RX5 xTs cX5_letter 2 0 (P_X5_letter S) := ⟨xi_dc_ok, by rw [hC.2]; exact xfo_X5, xkio_X5, xklo_X5, xi_calls_ok (ins := .invokestatic) (fun _ h => absurd h List.not_mem_nil), xi_calls_ok (ins := .invokevirtual) (fun _ h => absurd h List.not_mem_nil)⟩
theorem sn_X5_letter {l : Launch} {E : xi_E} {S : xi_S} {D : va_G} {tys : List (ClassId × FieldType)} (hC : xCx E S tys) : ∀ As m1 r m2, F_X5_letter S As m1 = some (r, m2) → xi_Sound l E S D vwCl tys xNs xTs yX5_letter cX5_letter 2 none 0 As m1 r m2 := by
  intro As m1 r m2 h
  unfold F_X5_letter at h
  split at h
  · exact xi_meth (P := P_X5_letter S) (by decide) hC.1 (po_X5_letter hC) (Nat.le_of_ble_eq_true rfl) rfl (xe_X5_letter _ _ _ h)
  · exact xi_no h
theorem i_X5_figure_0 : xi_dc cX5_figure 0 = some (.aload_n 0, 1) := by decide +kernel
theorem i_X5_figure_1 : xi_dc cX5_figure 1 = some (.getfield 9, 3) := by decide +kernel
theorem i_X5_figure_4 : xi_dc cX5_figure 4 = some (.bipush (-9), 2) := by decide +kernel
theorem i_X5_figure_6 : xi_dc cX5_figure 6 = some (.if_icmp .eq 5, 3) := by decide +kernel
theorem t_X5_figure_6 : ((6 : Nat) : Int) + 5 = ((11 : Nat) : Int) := by decide +kernel
theorem i_X5_figure_9 : xi_dc cX5_figure 9 = some (.iconst 0, 1) := by decide +kernel
theorem i_X5_figure_10 : xi_dc cX5_figure 10 = some (.ireturn, 1) := by decide +kernel
theorem i_X5_figure_11 : xi_dc cX5_figure 11 = some (.aload_n 0, 1) := by decide +kernel
theorem i_X5_figure_12 : xi_dc cX5_figure 12 = some (.getfield 57, 3) := by decide +kernel
theorem i_X5_figure_15 : xi_dc cX5_figure 15 = some (.aload_n 0, 1) := by decide +kernel
theorem i_X5_figure_16 : xi_dc cX5_figure 16 = some (.getfield 15, 3) := by decide +kernel
theorem i_X5_figure_19 : xi_dc cX5_figure 19 = some (.getfield 60, 3) := by decide +kernel
theorem i_X5_figure_22 : xi_dc cX5_figure 22 = some (.if_icmp .ge 21, 3) := by decide +kernel
theorem t_X5_figure_22 : ((22 : Nat) : Int) + 21 = ((43 : Nat) : Int) := by decide +kernel
theorem i_X5_figure_25 : xi_dc cX5_figure 25 = some (.aload_n 0, 1) := by decide +kernel
theorem i_X5_figure_26 : xi_dc cX5_figure 26 = some (.getfield 15, 3) := by decide +kernel
theorem i_X5_figure_29 : xi_dc cX5_figure 29 = some (.getfield 65, 3) := by decide +kernel
theorem i_X5_figure_32 : xi_dc cX5_figure 32 = some (.aload_n 0, 1) := by decide +kernel
theorem i_X5_figure_33 : xi_dc cX5_figure 33 = some (.getfield 57, 3) := by decide +kernel
theorem i_X5_figure_36 : xi_dc cX5_figure 36 = some (.iaload, 1) := by decide +kernel
theorem i_X5_figure_37 : xi_dc cX5_figure 37 = some (.bipush 48, 2) := by decide +kernel
theorem i_X5_figure_39 : xi_dc cX5_figure 39 = some (.isub, 1) := by decide +kernel
theorem i_X5_figure_40 : xi_dc cX5_figure 40 = some (.goto 5, 3) := by decide +kernel
theorem t_X5_figure_40 : ((40 : Nat) : Int) + 5 = ((45 : Nat) : Int) := by decide +kernel
theorem i_X5_figure_43 : xi_dc cX5_figure 43 = some (.bipush (-9), 2) := by decide +kernel
theorem i_X5_figure_45 : xi_dc cX5_figure 45 = some (.istore_n 3, 1) := by decide +kernel
theorem i_X5_figure_46 : xi_dc cX5_figure 46 = some (.iload_n 3, 1) := by decide +kernel
theorem i_X5_figure_47 : xi_dc cX5_figure 47 = some (.iload_n 1, 1) := by decide +kernel
theorem i_X5_figure_48 : xi_dc cX5_figure 48 = some (.if_icmp .lt 8, 3) := by decide +kernel
theorem t_X5_figure_48 : ((48 : Nat) : Int) + 8 = ((56 : Nat) : Int) := by decide +kernel
theorem i_X5_figure_51 : xi_dc cX5_figure 51 = some (.iload_n 3, 1) := by decide +kernel
theorem i_X5_figure_52 : xi_dc cX5_figure 52 = some (.iload_n 2, 1) := by decide +kernel
theorem i_X5_figure_53 : xi_dc cX5_figure 53 = some (.if_icmp .le 13, 3) := by decide +kernel
theorem t_X5_figure_53 : ((53 : Nat) : Int) + 13 = ((66 : Nat) : Int) := by decide +kernel
theorem i_X5_figure_56 : xi_dc cX5_figure 56 = some (.aload_n 0, 1) := by decide +kernel
theorem i_X5_figure_57 : xi_dc cX5_figure 57 = some (.aload_n 0, 1) := by decide +kernel
theorem i_X5_figure_58 : xi_dc cX5_figure 58 = some (.getfield 57, 3) := by decide +kernel
theorem i_X5_figure_61 : xi_dc cX5_figure 61 = some (.putfield 9, 3) := by decide +kernel
theorem i_X5_figure_64 : xi_dc cX5_figure 64 = some (.iconst 0, 1) := by decide +kernel
theorem i_X5_figure_65 : xi_dc cX5_figure 65 = some (.ireturn, 1) := by decide +kernel
theorem i_X5_figure_66 : xi_dc cX5_figure 66 = some (.aload_n 0, 1) := by decide +kernel
theorem i_X5_figure_67 : xi_dc cX5_figure 67 = some (.dup, 1) := by decide +kernel
theorem i_X5_figure_68 : xi_dc cX5_figure 68 = some (.getfield 57, 3) := by decide +kernel
theorem i_X5_figure_71 : xi_dc cX5_figure 71 = some (.iconst 1, 1) := by decide +kernel
theorem i_X5_figure_72 : xi_dc cX5_figure 72 = some (.iadd, 1) := by decide +kernel
theorem i_X5_figure_73 : xi_dc cX5_figure 73 = some (.putfield 57, 3) := by decide +kernel
theorem i_X5_figure_76 : xi_dc cX5_figure 76 = some (.iload_n 3, 1) := by decide +kernel
theorem i_X5_figure_77 : xi_dc cX5_figure 77 = some (.ireturn, 1) := by decide +kernel
def P_X5_figure (S : xi_S) : xi_P := (xi_dc cX5_figure, xi_tab xfl_X5, xi_tab xki_X5, xi_tab xkl_X5, xi_tab xcs_X5, xi_tab xcv_X5, xi_calls [], xi_calls [], 1)
def E_X5_figure (S : xi_S) (v0 : Nat) (v1 : Int32) (v2 : Int32) (m : xi_M) : Option xi_R :=
  if S.1 v0 = 7 then
    if (m.1 v0 2) = ((Int8.ofInt (-9)).toInt32) then
      if S.1 v0 = 7 then
        if S.1 v0 = 7 then (S.2.2 v0 0).bind fun b4 =>
          if S.1 b4 = 9 then
            if (m.1 b4 1) ≤ (m.1 v0 1) then
              if ((Int8.ofInt (-9)).toInt32) < v1 then
                if S.1 v0 = 7 then
                  if S.1 v0 = 7 then
                    some (some (.int (Int32.ofInt 0)), (xi_wI m v0 2 (m.1 v0 1)))
                  else none
                else none
              else
                if ((Int8.ofInt (-9)).toInt32) ≤ v2 then
                  if S.1 v0 = 7 then
                    if S.1 v0 = 7 then
                      some (some (.int ((Int8.ofInt (-9)).toInt32)), (xi_wI m v0 1 ((m.1 v0 1) + (Int32.ofInt 1))))
                    else none
                  else none
                else
                  if S.1 v0 = 7 then
                    if S.1 v0 = 7 then
                      some (some (.int (Int32.ofInt 0)), (xi_wI m v0 2 (m.1 v0 1)))
                    else none
                  else none
            else
              if S.1 v0 = 7 then (S.2.2 v0 0).bind fun b15 =>
                if S.1 b15 = 9 then (S.2.2 b15 2).bind fun b17 =>
                  if S.1 v0 = 7 then
                    if S.1 b17 = 0 ∧ ¬ ((m.1 v0 1) < 0 ∨ S.2.1 b17 ≤ Int32.toNatClampNeg (m.1 v0 1)) then
                      if ((m.1 b17 (Int32.toNatClampNeg (m.1 v0 1))) - ((Int8.ofInt 48).toInt32)) < v1 then
                        if S.1 v0 = 7 then
                          if S.1 v0 = 7 then
                            some (some (.int (Int32.ofInt 0)), (xi_wI m v0 2 (m.1 v0 1)))
                          else none
                        else none
                      else
                        if ((m.1 b17 (Int32.toNatClampNeg (m.1 v0 1))) - ((Int8.ofInt 48).toInt32)) ≤ v2 then
                          if S.1 v0 = 7 then
                            if S.1 v0 = 7 then
                              some (some (.int ((m.1 b17 (Int32.toNatClampNeg (m.1 v0 1))) - ((Int8.ofInt 48).toInt32))), (xi_wI m v0 1 ((m.1 v0 1) + (Int32.ofInt 1))))
                            else none
                          else none
                        else
                          if S.1 v0 = 7 then
                            if S.1 v0 = 7 then
                              some (some (.int (Int32.ofInt 0)), (xi_wI m v0 2 (m.1 v0 1)))
                            else none
                          else none
                    else none
                  else none
                else none
              else none
          else none
        else none
      else none
    else
      some (some (.int (Int32.ofInt 0)), m)
  else none
def F_X5_figure (S : xi_S) : xi_F := fun As m => match As with
  | [.ref v0, .int v1, .int v2] => E_X5_figure S v0 v1 v2 m
  | _ => none
set_option maxRecDepth 100000 in
set_option maxHeartbeats 4000000 in
theorem xe_X5_figure {S : xi_S} {res : xi_R} (v0 : Nat) (v1 : Int32) (v2 : Int32) (m : xi_M) (h : E_X5_figure S v0 v1 v2 m = some res) : xi_X S (P_X5_figure S) (0, [some (.ref v0), some (.int v1), some (.int v2), none], [], m) res := by
  unfold E_X5_figure at h
  refine xr_aload_n i_X5_figure_0 rfl (q := 1) rfl ?_
  obtain ⟨c1, h⟩ := xi_if_some h
  refine xr_getI i_X5_figure_1 xfe_X5_9 c1 (q := 4) rfl ?_
  refine xr_bipush i_X5_figure_4 (q := 6) rfl ?_
  by_cases c29 : (m.1 v0 2) = ((Int8.ofInt (-9)).toInt32)
  · replace h := (if_pos c29).symm.trans h
    refine xr_if_icmp_eq_p i_X5_figure_6 c29 (q := 11) t_X5_figure_6 (q2 := 9) rfl ?_
    refine xr_aload_n i_X5_figure_11 rfl (q := 12) rfl ?_
    obtain ⟨c2, h⟩ := xi_if_some h
    refine xr_getI i_X5_figure_12 xfe_X5_57 c2 (q := 15) rfl ?_
    refine xr_aload_n i_X5_figure_15 rfl (q := 16) rfl ?_
    obtain ⟨c3, h⟩ := xi_if_some h
    obtain ⟨b4, eb4, h⟩ := xi_bind_some h
    refine xr_getR i_X5_figure_16 xfe_X5_15 c3 eb4 (q := 19) rfl ?_
    obtain ⟨c5, h⟩ := xi_if_some h
    refine xr_getI i_X5_figure_19 xfe_X5_60 c5 (q := 22) rfl ?_
    by_cases c28 : (m.1 b4 1) ≤ (m.1 v0 1)
    · replace h := (if_pos c28).symm.trans h
      refine xr_if_icmp_ge_p i_X5_figure_22 c28 (q := 43) t_X5_figure_22 (q2 := 25) rfl ?_
      refine xr_bipush i_X5_figure_43 (q := 45) rfl ?_
      refine xr_istore_n i_X5_figure_45 rfl (L2 := [some (.ref v0), some (.int v1), some (.int v2), some (.int ((Int8.ofInt (-9)).toInt32))]) rfl (q := 46) rfl ?_
      refine xr_iload_n i_X5_figure_46 rfl (q := 47) rfl ?_
      refine xr_iload_n i_X5_figure_47 rfl (q := 48) rfl ?_
      by_cases c13 : ((Int8.ofInt (-9)).toInt32) < v1
      · replace h := (if_pos c13).symm.trans h
        refine xr_if_icmp_lt_p i_X5_figure_48 c13 (q := 56) t_X5_figure_48 (q2 := 51) rfl ?_
        refine xr_aload_n i_X5_figure_56 rfl (q := 57) rfl ?_
        refine xr_aload_n i_X5_figure_57 rfl (q := 58) rfl ?_
        obtain ⟨c6, h⟩ := xi_if_some h
        refine xr_getI i_X5_figure_58 xfe_X5_57 c6 (q := 61) rfl ?_
        obtain ⟨c7, h⟩ := xi_if_some h
        refine xr_putI i_X5_figure_61 xfe_X5_9 c7 (q := 64) rfl ?_
        refine xr_iconst i_X5_figure_64 (q := 65) rfl ?_
        exact xr_ireturn i_X5_figure_65 rfl h
      · replace h := (if_neg c13).symm.trans h
        refine xr_if_icmp_lt_n i_X5_figure_48 c13 (q := 56) t_X5_figure_48 (q2 := 51) rfl ?_
        refine xr_iload_n i_X5_figure_51 rfl (q := 52) rfl ?_
        refine xr_iload_n i_X5_figure_52 rfl (q := 53) rfl ?_
        by_cases c12 : ((Int8.ofInt (-9)).toInt32) ≤ v2
        · replace h := (if_pos c12).symm.trans h
          refine xr_if_icmp_le_p i_X5_figure_53 c12 (q := 66) t_X5_figure_53 (q2 := 56) rfl ?_
          refine xr_aload_n i_X5_figure_66 rfl (q := 67) rfl ?_
          refine xr_dup_r i_X5_figure_67 (q := 68) rfl ?_
          obtain ⟨c8, h⟩ := xi_if_some h
          refine xr_getI i_X5_figure_68 xfe_X5_57 c8 (q := 71) rfl ?_
          refine xr_iconst i_X5_figure_71 (q := 72) rfl ?_
          refine xr_iadd i_X5_figure_72 (q := 73) rfl ?_
          obtain ⟨c9, h⟩ := xi_if_some h
          refine xr_putI i_X5_figure_73 xfe_X5_57 c9 (q := 76) rfl ?_
          refine xr_iload_n i_X5_figure_76 rfl (q := 77) rfl ?_
          exact xr_ireturn i_X5_figure_77 rfl h
        · replace h := (if_neg c12).symm.trans h
          refine xr_if_icmp_le_n i_X5_figure_53 c12 (q := 66) t_X5_figure_53 (q2 := 56) rfl ?_
          refine xr_aload_n i_X5_figure_56 rfl (q := 57) rfl ?_
          refine xr_aload_n i_X5_figure_57 rfl (q := 58) rfl ?_
          obtain ⟨c10, h⟩ := xi_if_some h
          refine xr_getI i_X5_figure_58 xfe_X5_57 c10 (q := 61) rfl ?_
          obtain ⟨c11, h⟩ := xi_if_some h
          refine xr_putI i_X5_figure_61 xfe_X5_9 c11 (q := 64) rfl ?_
          refine xr_iconst i_X5_figure_64 (q := 65) rfl ?_
          exact xr_ireturn i_X5_figure_65 rfl h
    · replace h := (if_neg c28).symm.trans h
      refine xr_if_icmp_ge_n i_X5_figure_22 c28 (q := 43) t_X5_figure_22 (q2 := 25) rfl ?_
      refine xr_aload_n i_X5_figure_25 rfl (q := 26) rfl ?_
      obtain ⟨c14, h⟩ := xi_if_some h
      obtain ⟨b15, eb15, h⟩ := xi_bind_some h
      refine xr_getR i_X5_figure_26 xfe_X5_15 c14 eb15 (q := 29) rfl ?_
      obtain ⟨c16, h⟩ := xi_if_some h
      obtain ⟨b17, eb17, h⟩ := xi_bind_some h
      refine xr_getR i_X5_figure_29 xfe_X5_65 c16 eb17 (q := 32) rfl ?_
      refine xr_aload_n i_X5_figure_32 rfl (q := 33) rfl ?_
      obtain ⟨c18, h⟩ := xi_if_some h
      refine xr_getI i_X5_figure_33 xfe_X5_57 c18 (q := 36) rfl ?_
      obtain ⟨c19, h⟩ := xi_if_some h
      refine xr_iaload i_X5_figure_36 c19 (q := 37) rfl ?_
      refine xr_bipush i_X5_figure_37 (q := 39) rfl ?_
      refine xr_isub i_X5_figure_39 (q := 40) rfl ?_
      refine xr_goto i_X5_figure_40 (q := 45) t_X5_figure_40 ?_
      refine xr_istore_n i_X5_figure_45 rfl (L2 := [some (.ref v0), some (.int v1), some (.int v2), some (.int ((m.1 b17 (Int32.toNatClampNeg (m.1 v0 1))) - ((Int8.ofInt 48).toInt32)))]) rfl (q := 46) rfl ?_
      refine xr_iload_n i_X5_figure_46 rfl (q := 47) rfl ?_
      refine xr_iload_n i_X5_figure_47 rfl (q := 48) rfl ?_
      by_cases c27 : ((m.1 b17 (Int32.toNatClampNeg (m.1 v0 1))) - ((Int8.ofInt 48).toInt32)) < v1
      · replace h := (if_pos c27).symm.trans h
        refine xr_if_icmp_lt_p i_X5_figure_48 c27 (q := 56) t_X5_figure_48 (q2 := 51) rfl ?_
        refine xr_aload_n i_X5_figure_56 rfl (q := 57) rfl ?_
        refine xr_aload_n i_X5_figure_57 rfl (q := 58) rfl ?_
        obtain ⟨c20, h⟩ := xi_if_some h
        refine xr_getI i_X5_figure_58 xfe_X5_57 c20 (q := 61) rfl ?_
        obtain ⟨c21, h⟩ := xi_if_some h
        refine xr_putI i_X5_figure_61 xfe_X5_9 c21 (q := 64) rfl ?_
        refine xr_iconst i_X5_figure_64 (q := 65) rfl ?_
        exact xr_ireturn i_X5_figure_65 rfl h
      · replace h := (if_neg c27).symm.trans h
        refine xr_if_icmp_lt_n i_X5_figure_48 c27 (q := 56) t_X5_figure_48 (q2 := 51) rfl ?_
        refine xr_iload_n i_X5_figure_51 rfl (q := 52) rfl ?_
        refine xr_iload_n i_X5_figure_52 rfl (q := 53) rfl ?_
        by_cases c26 : ((m.1 b17 (Int32.toNatClampNeg (m.1 v0 1))) - ((Int8.ofInt 48).toInt32)) ≤ v2
        · replace h := (if_pos c26).symm.trans h
          refine xr_if_icmp_le_p i_X5_figure_53 c26 (q := 66) t_X5_figure_53 (q2 := 56) rfl ?_
          refine xr_aload_n i_X5_figure_66 rfl (q := 67) rfl ?_
          refine xr_dup_r i_X5_figure_67 (q := 68) rfl ?_
          obtain ⟨c22, h⟩ := xi_if_some h
          refine xr_getI i_X5_figure_68 xfe_X5_57 c22 (q := 71) rfl ?_
          refine xr_iconst i_X5_figure_71 (q := 72) rfl ?_
          refine xr_iadd i_X5_figure_72 (q := 73) rfl ?_
          obtain ⟨c23, h⟩ := xi_if_some h
          refine xr_putI i_X5_figure_73 xfe_X5_57 c23 (q := 76) rfl ?_
          refine xr_iload_n i_X5_figure_76 rfl (q := 77) rfl ?_
          exact xr_ireturn i_X5_figure_77 rfl h
        · replace h := (if_neg c26).symm.trans h
          refine xr_if_icmp_le_n i_X5_figure_53 c26 (q := 66) t_X5_figure_53 (q2 := 56) rfl ?_
          refine xr_aload_n i_X5_figure_56 rfl (q := 57) rfl ?_
          refine xr_aload_n i_X5_figure_57 rfl (q := 58) rfl ?_
          obtain ⟨c24, h⟩ := xi_if_some h
          refine xr_getI i_X5_figure_58 xfe_X5_57 c24 (q := 61) rfl ?_
          obtain ⟨c25, h⟩ := xi_if_some h
          refine xr_putI i_X5_figure_61 xfe_X5_9 c25 (q := 64) rfl ?_
          refine xr_iconst i_X5_figure_64 (q := 65) rfl ?_
          exact xr_ireturn i_X5_figure_65 rfl h
  · replace h := (if_neg c29).symm.trans h
    refine xr_if_icmp_eq_n i_X5_figure_6 c29 (q := 11) t_X5_figure_6 (q2 := 9) rfl ?_
    refine xr_iconst i_X5_figure_9 (q := 10) rfl ?_
    exact xr_ireturn i_X5_figure_10 rfl h
set_option maxRecDepth 100000 in
theorem po_X5_figure {l : Launch} {E : xi_E} {S : xi_S} {D : va_G} {tys : List (ClassId × FieldType)} (hC : xCx E S tys) : xi_Pok l E S D vwCl tys xNs RX5 xTs cX5_figure 4 0 (P_X5_figure S) := ⟨xi_dc_ok, by rw [hC.2]; exact xfo_X5, xkio_X5, xklo_X5, xi_calls_ok (ins := .invokestatic) (fun _ h => absurd h List.not_mem_nil), xi_calls_ok (ins := .invokevirtual) (fun _ h => absurd h List.not_mem_nil)⟩
theorem sn_X5_figure {l : Launch} {E : xi_E} {S : xi_S} {D : va_G} {tys : List (ClassId × FieldType)} (hC : xCx E S tys) : ∀ As m1 r m2, F_X5_figure S As m1 = some (r, m2) → xi_Sound l E S D vwCl tys xNs xTs yX5_figure cX5_figure 4 (some .int) 0 As m1 r m2 := by
  intro As m1 r m2 h
  unfold F_X5_figure at h
  split at h
  · exact xi_meth (P := P_X5_figure S) (by decide) hC.1 (po_X5_figure hC) (Nat.le_of_ble_eq_true rfl) rfl (xe_X5_figure _ _ _ _ h)
  · exact xi_no h
theorem i_X5_readSchool_0 : xi_dc cX5_readSchool 0 = some (.aload_n 0, 1) := by decide +kernel
theorem i_X5_readSchool_1 : xi_dc cX5_readSchool 1 = some (.invokevirtual 35, 3) := by decide +kernel
theorem i_X5_readSchool_4 : xi_dc cX5_readSchool 4 = some (.aload_n 0, 1) := by decide +kernel
theorem i_X5_readSchool_5 : xi_dc cX5_readSchool 5 = some (.bipush 103, 2) := by decide +kernel
theorem i_X5_readSchool_7 : xi_dc cX5_readSchool 7 = some (.invokevirtual 38, 3) := by decide +kernel
theorem i_X5_readSchool_10 : xi_dc cX5_readSchool 10 = some (.aload_n 1, 1) := by decide +kernel
theorem i_X5_readSchool_11 : xi_dc cX5_readSchool 11 = some (.aload_n 0, 1) := by decide +kernel
theorem i_X5_readSchool_12 : xi_dc cX5_readSchool 12 = some (.iconst 0, 1) := by decide +kernel
theorem i_X5_readSchool_13 : xi_dc cX5_readSchool 13 = some (.iconst 1, 1) := by decide +kernel
theorem i_X5_readSchool_14 : xi_dc cX5_readSchool 14 = some (.invokevirtual 42, 3) := by decide +kernel
theorem i_X5_readSchool_17 : xi_dc cX5_readSchool 17 = some (.putfield 46, 3) := by decide +kernel
theorem i_X5_readSchool_20 : xi_dc cX5_readSchool 20 = some (.return_, 1) := by decide +kernel
def P_X5_readSchool (S : xi_S) : xi_P := (xi_dc cX5_readSchool, xi_tab xfl_X5, xi_tab xki_X5, xi_tab xkl_X5, xi_tab xcs_X5, xi_tab xcv_X5, xi_calls [], xi_calls [(35, xi_wV S 7 0 (F_X5_skipBlanks S)), (38, xi_wV S 7 1 (F_X5_letter S)), (42, xi_wV S 7 2 (F_X5_figure S))], 0)
theorem cc_X5_readSchool_35 (S : xi_S) (a0 : Nat) (m : xi_M) : (P_X5_readSchool S).2.2.2.2.2.2.2.1 35 [.ref a0] m = (if S.1 a0 = 7 then E_X5_skipBlanks S a0 m else none) := by
  show xi_calls [(35, xi_wV S 7 0 (F_X5_skipBlanks S)), (38, xi_wV S 7 1 (F_X5_letter S)), (42, xi_wV S 7 2 (F_X5_figure S))] 35 [.ref a0] m = _
  refine Eq.trans (b := xi_wV S 7 0 (F_X5_skipBlanks S) [.ref a0] m) (xi_calls_hit rfl) ?_
  exact xi_wV_eq rfl
theorem cc_X5_readSchool_38 (S : xi_S) (a0 : Nat) (a1 : Int32) (m : xi_M) : (P_X5_readSchool S).2.2.2.2.2.2.2.1 38 [.ref a0, .int a1] m = (if S.1 a0 = 7 then E_X5_letter S a0 a1 m else none) := by
  show xi_calls [(35, xi_wV S 7 0 (F_X5_skipBlanks S)), (38, xi_wV S 7 1 (F_X5_letter S)), (42, xi_wV S 7 2 (F_X5_figure S))] 38 [.ref a0, .int a1] m = _
  refine Eq.trans (b := xi_calls [(38, xi_wV S 7 1 (F_X5_letter S)), (42, xi_wV S 7 2 (F_X5_figure S))] 38 [.ref a0, .int a1] m) (xi_calls_miss rfl) ?_
  refine Eq.trans (b := xi_wV S 7 1 (F_X5_letter S) [.ref a0, .int a1] m) (xi_calls_hit rfl) ?_
  exact xi_wV_eq rfl
theorem cc_X5_readSchool_42 (S : xi_S) (a0 : Nat) (a1 : Int32) (a2 : Int32) (m : xi_M) : (P_X5_readSchool S).2.2.2.2.2.2.2.1 42 [.ref a0, .int a1, .int a2] m = (if S.1 a0 = 7 then E_X5_figure S a0 a1 a2 m else none) := by
  show xi_calls [(35, xi_wV S 7 0 (F_X5_skipBlanks S)), (38, xi_wV S 7 1 (F_X5_letter S)), (42, xi_wV S 7 2 (F_X5_figure S))] 42 [.ref a0, .int a1, .int a2] m = _
  refine Eq.trans (b := xi_calls [(38, xi_wV S 7 1 (F_X5_letter S)), (42, xi_wV S 7 2 (F_X5_figure S))] 42 [.ref a0, .int a1, .int a2] m) (xi_calls_miss rfl) ?_
  refine Eq.trans (b := xi_calls [(42, xi_wV S 7 2 (F_X5_figure S))] 42 [.ref a0, .int a1, .int a2] m) (xi_calls_miss rfl) ?_
  refine Eq.trans (b := xi_wV S 7 2 (F_X5_figure S) [.ref a0, .int a1, .int a2] m) (xi_calls_hit rfl) ?_
  exact xi_wV_eq rfl
def E_X5_readSchool (S : xi_S) (v0 : Nat) (v1 : Nat) (m : xi_M) : Option xi_R :=
  xi_bV (if S.1 v0 = 7 then E_X5_skipBlanks S v0 m else none) fun m1 =>
  xi_bV (if S.1 v0 = 7 then E_X5_letter S v0 ((Int8.ofInt 103).toInt32) m1 else none) fun m2 =>
  xi_bI (if S.1 v0 = 7 then E_X5_figure S v0 (Int32.ofInt 0) (Int32.ofInt 1) m2 else none) fun x4 m3 =>
  if S.1 v1 = 8 then
    some (none, (xi_wI m3 v1 0 x4))
  else none
def F_X5_readSchool (S : xi_S) : xi_F := fun As m => match As with
  | [.ref v0, .ref v1] => E_X5_readSchool S v0 v1 m
  | _ => none
set_option maxRecDepth 100000 in
set_option maxHeartbeats 4000000 in
theorem xe_X5_readSchool {S : xi_S} {res : xi_R} (v0 : Nat) (v1 : Nat) (m : xi_M) (h : E_X5_readSchool S v0 v1 m = some res) : xi_X S (P_X5_readSchool S) (0, [some (.ref v0), some (.ref v1)], [], m) res := by
  unfold E_X5_readSchool at h
  refine xr_aload_n i_X5_readSchool_0 rfl (q := 1) rfl ?_
  obtain ⟨m1, em1, h⟩ := xi_bV_some h
  refine xr_VV i_X5_readSchool_1 xcve_X5_35 rfl (As := [.ref v0]) rfl (rest := []) rfl ((cc_X5_readSchool_35 S _ _).trans em1) (q := 4) rfl ?_
  refine xr_aload_n i_X5_readSchool_4 rfl (q := 5) rfl ?_
  refine xr_bipush i_X5_readSchool_5 (q := 7) rfl ?_
  obtain ⟨m2, em2, h⟩ := xi_bV_some h
  refine xr_VV i_X5_readSchool_7 xcve_X5_38 rfl (As := [.ref v0, .int ((Int8.ofInt 103).toInt32)]) rfl (rest := []) rfl ((cc_X5_readSchool_38 S _ _ _).trans em2) (q := 10) rfl ?_
  refine xr_aload_n i_X5_readSchool_10 rfl (q := 11) rfl ?_
  refine xr_aload_n i_X5_readSchool_11 rfl (q := 12) rfl ?_
  refine xr_iconst i_X5_readSchool_12 (q := 13) rfl ?_
  refine xr_iconst i_X5_readSchool_13 (q := 14) rfl ?_
  obtain ⟨x4, m3, em3, h⟩ := xi_bI_some h
  refine xr_VI i_X5_readSchool_14 xcve_X5_42 rfl (As := [.ref v0, .int (Int32.ofInt 0), .int (Int32.ofInt 1)]) rfl (rest := [.ref v1]) rfl ((cc_X5_readSchool_42 S _ _ _ _).trans em3) (q := 17) rfl ?_
  obtain ⟨c5, h⟩ := xi_if_some h
  refine xr_putI i_X5_readSchool_17 xfe_X5_46 c5 (q := 20) rfl ?_
  exact xr_return i_X5_readSchool_20 rfl h
set_option maxRecDepth 100000 in
theorem po_X5_readSchool {l : Launch} {E : xi_E} {S : xi_S} {D : va_G} {tys : List (ClassId × FieldType)} (hC : xCx E S tys) : xi_Pok l E S D vwCl tys xNs RX5 xTs cX5_readSchool 2 1 (P_X5_readSchool S) := ⟨xi_dc_ok, by rw [hC.2]; exact xfo_X5, xkio_X5, xklo_X5, xi_calls_ok (ins := .invokestatic) (fun _ h => absurd h List.not_mem_nil), xi_calls_ok (ins := .invokevirtual) (List.forall_mem_cons.mpr ⟨(xc_X5_35 hC.1 (sn_X5_skipBlanks hC) (by decide)), List.forall_mem_cons.mpr ⟨(xc_X5_38 hC.1 (sn_X5_letter hC) (by decide)), List.forall_mem_cons.mpr ⟨(xc_X5_42 hC.1 (sn_X5_figure hC) (by decide)), fun _ h => absurd h List.not_mem_nil⟩⟩⟩)⟩
theorem sn_X5_readSchool {l : Launch} {E : xi_E} {S : xi_S} {D : va_G} {tys : List (ClassId × FieldType)} (hC : xCx E S tys) : ∀ As m1 r m2, F_X5_readSchool S As m1 = some (r, m2) → xi_Sound l E S D vwCl tys xNs xTs yX5_readSchool cX5_readSchool 2 none 1 As m1 r m2 := by
  intro As m1 r m2 h
  unfold F_X5_readSchool at h
  split at h
  · exact xi_meth (P := P_X5_readSchool S) (by decide) hC.1 (po_X5_readSchool hC) (Nat.le_of_ble_eq_true rfl) rfl (xe_X5_readSchool _ _ _ h)
  · exact xi_no h
theorem i_X5_twoFigures_0 : xi_dc cX5_twoFigures 0 = some (.aload_n 0, 1) := by decide +kernel
theorem i_X5_twoFigures_1 : xi_dc cX5_twoFigures 1 = some (.getfield 57, 3) := by decide +kernel
theorem i_X5_twoFigures_4 : xi_dc cX5_twoFigures 4 = some (.istore_n 2, 1) := by decide +kernel
theorem i_X5_twoFigures_5 : xi_dc cX5_twoFigures 5 = some (.bipush 10, 2) := by decide +kernel
theorem i_X5_twoFigures_7 : xi_dc cX5_twoFigures 7 = some (.aload_n 0, 1) := by decide +kernel
theorem i_X5_twoFigures_8 : xi_dc cX5_twoFigures 8 = some (.iconst 0, 1) := by decide +kernel
theorem i_X5_twoFigures_9 : xi_dc cX5_twoFigures 9 = some (.bipush 9, 2) := by decide +kernel
theorem i_X5_twoFigures_11 : xi_dc cX5_twoFigures 11 = some (.invokevirtual 42, 3) := by decide +kernel
theorem i_X5_twoFigures_14 : xi_dc cX5_twoFigures 14 = some (.imul, 1) := by decide +kernel
theorem i_X5_twoFigures_15 : xi_dc cX5_twoFigures 15 = some (.aload_n 0, 1) := by decide +kernel
theorem i_X5_twoFigures_16 : xi_dc cX5_twoFigures 16 = some (.iconst 0, 1) := by decide +kernel
theorem i_X5_twoFigures_17 : xi_dc cX5_twoFigures 17 = some (.bipush 9, 2) := by decide +kernel
theorem i_X5_twoFigures_19 : xi_dc cX5_twoFigures 19 = some (.invokevirtual 42, 3) := by decide +kernel
theorem i_X5_twoFigures_22 : xi_dc cX5_twoFigures 22 = some (.iadd, 1) := by decide +kernel
theorem i_X5_twoFigures_23 : xi_dc cX5_twoFigures 23 = some (.istore_n 3, 1) := by decide +kernel
theorem i_X5_twoFigures_24 : xi_dc cX5_twoFigures 24 = some (.aload_n 0, 1) := by decide +kernel
theorem i_X5_twoFigures_25 : xi_dc cX5_twoFigures 25 = some (.getfield 9, 3) := by decide +kernel
theorem i_X5_twoFigures_28 : xi_dc cX5_twoFigures 28 = some (.bipush (-9), 2) := by decide +kernel
theorem i_X5_twoFigures_30 : xi_dc cX5_twoFigures 30 = some (.if_icmp .ne 19, 3) := by decide +kernel
theorem t_X5_twoFigures_30 : ((30 : Nat) : Int) + 19 = ((49 : Nat) : Int) := by decide +kernel
theorem i_X5_twoFigures_33 : xi_dc cX5_twoFigures 33 = some (.iload_n 3, 1) := by decide +kernel
theorem i_X5_twoFigures_34 : xi_dc cX5_twoFigures 34 = some (.iload_n 1, 1) := by decide +kernel
theorem i_X5_twoFigures_35 : xi_dc cX5_twoFigures 35 = some (.if_icmp .lt 9, 3) := by decide +kernel
theorem t_X5_twoFigures_35 : ((35 : Nat) : Int) + 9 = ((44 : Nat) : Int) := by decide +kernel
theorem i_X5_twoFigures_38 : xi_dc cX5_twoFigures 38 = some (.iload_n 3, 1) := by decide +kernel
theorem i_X5_twoFigures_39 : xi_dc cX5_twoFigures 39 = some (.bipush 20, 2) := by decide +kernel
theorem i_X5_twoFigures_41 : xi_dc cX5_twoFigures 41 = some (.if_icmp .le 8, 3) := by decide +kernel
theorem t_X5_twoFigures_41 : ((41 : Nat) : Int) + 8 = ((49 : Nat) : Int) := by decide +kernel
theorem i_X5_twoFigures_44 : xi_dc cX5_twoFigures 44 = some (.aload_n 0, 1) := by decide +kernel
theorem i_X5_twoFigures_45 : xi_dc cX5_twoFigures 45 = some (.iload_n 2, 1) := by decide +kernel
theorem i_X5_twoFigures_46 : xi_dc cX5_twoFigures 46 = some (.putfield 9, 3) := by decide +kernel
theorem i_X5_twoFigures_49 : xi_dc cX5_twoFigures 49 = some (.iload_n 3, 1) := by decide +kernel
theorem i_X5_twoFigures_50 : xi_dc cX5_twoFigures 50 = some (.ireturn, 1) := by decide +kernel
def P_X5_twoFigures (S : xi_S) : xi_P := (xi_dc cX5_twoFigures, xi_tab xfl_X5, xi_tab xki_X5, xi_tab xkl_X5, xi_tab xcs_X5, xi_tab xcv_X5, xi_calls [], xi_calls [(42, xi_wV S 7 2 (F_X5_figure S))], 1)
theorem cc_X5_twoFigures_42 (S : xi_S) (a0 : Nat) (a1 : Int32) (a2 : Int32) (m : xi_M) : (P_X5_twoFigures S).2.2.2.2.2.2.2.1 42 [.ref a0, .int a1, .int a2] m = (if S.1 a0 = 7 then E_X5_figure S a0 a1 a2 m else none) := by
  show xi_calls [(42, xi_wV S 7 2 (F_X5_figure S))] 42 [.ref a0, .int a1, .int a2] m = _
  refine Eq.trans (b := xi_wV S 7 2 (F_X5_figure S) [.ref a0, .int a1, .int a2] m) (xi_calls_hit rfl) ?_
  exact xi_wV_eq rfl
def E_X5_twoFigures (S : xi_S) (v0 : Nat) (v1 : Int32) (m : xi_M) : Option xi_R :=
  if S.1 v0 = 7 then
    xi_bI (if S.1 v0 = 7 then E_X5_figure S v0 (Int32.ofInt 0) ((Int8.ofInt 9).toInt32) m else none) fun x3 m2 =>
    xi_bI (if S.1 v0 = 7 then E_X5_figure S v0 (Int32.ofInt 0) ((Int8.ofInt 9).toInt32) m2 else none) fun x5 m4 =>
    if S.1 v0 = 7 then
      if (m4.1 v0 2) = ((Int8.ofInt (-9)).toInt32) then
        if ((((Int8.ofInt 10).toInt32) * x3) + x5) < v1 then
          if S.1 v0 = 7 then
            some (some (.int ((((Int8.ofInt 10).toInt32) * x3) + x5)), (xi_wI m4 v0 2 (m.1 v0 1)))
          else none
        else
          if ((((Int8.ofInt 10).toInt32) * x3) + x5) ≤ ((Int8.ofInt 20).toInt32) then
            some (some (.int ((((Int8.ofInt 10).toInt32) * x3) + x5)), m4)
          else
            if S.1 v0 = 7 then
              some (some (.int ((((Int8.ofInt 10).toInt32) * x3) + x5)), (xi_wI m4 v0 2 (m.1 v0 1)))
            else none
      else
        some (some (.int ((((Int8.ofInt 10).toInt32) * x3) + x5)), m4)
    else none
  else none
def F_X5_twoFigures (S : xi_S) : xi_F := fun As m => match As with
  | [.ref v0, .int v1] => E_X5_twoFigures S v0 v1 m
  | _ => none
set_option maxRecDepth 100000 in
set_option maxHeartbeats 4000000 in
theorem xe_X5_twoFigures {S : xi_S} {res : xi_R} (v0 : Nat) (v1 : Int32) (m : xi_M) (h : E_X5_twoFigures S v0 v1 m = some res) : xi_X S (P_X5_twoFigures S) (0, [some (.ref v0), some (.int v1), none, none], [], m) res := by
  unfold E_X5_twoFigures at h
  refine xr_aload_n i_X5_twoFigures_0 rfl (q := 1) rfl ?_
  obtain ⟨c1, h⟩ := xi_if_some h
  refine xr_getI i_X5_twoFigures_1 xfe_X5_57 c1 (q := 4) rfl ?_
  refine xr_istore_n i_X5_twoFigures_4 rfl (L2 := [some (.ref v0), some (.int v1), some (.int (m.1 v0 1)), none]) rfl (q := 5) rfl ?_
  refine xr_bipush i_X5_twoFigures_5 (q := 7) rfl ?_
  refine xr_aload_n i_X5_twoFigures_7 rfl (q := 8) rfl ?_
  refine xr_iconst i_X5_twoFigures_8 (q := 9) rfl ?_
  refine xr_bipush i_X5_twoFigures_9 (q := 11) rfl ?_
  obtain ⟨x3, m2, em2, h⟩ := xi_bI_some h
  refine xr_VI i_X5_twoFigures_11 xcve_X5_42 rfl (As := [.ref v0, .int (Int32.ofInt 0), .int ((Int8.ofInt 9).toInt32)]) rfl (rest := [.int ((Int8.ofInt 10).toInt32)]) rfl ((cc_X5_twoFigures_42 S _ _ _ _).trans em2) (q := 14) rfl ?_
  refine xr_imul i_X5_twoFigures_14 (q := 15) rfl ?_
  refine xr_aload_n i_X5_twoFigures_15 rfl (q := 16) rfl ?_
  refine xr_iconst i_X5_twoFigures_16 (q := 17) rfl ?_
  refine xr_bipush i_X5_twoFigures_17 (q := 19) rfl ?_
  obtain ⟨x5, m4, em4, h⟩ := xi_bI_some h
  refine xr_VI i_X5_twoFigures_19 xcve_X5_42 rfl (As := [.ref v0, .int (Int32.ofInt 0), .int ((Int8.ofInt 9).toInt32)]) rfl (rest := [.int (((Int8.ofInt 10).toInt32) * x3)]) rfl ((cc_X5_twoFigures_42 S _ _ _ _).trans em4) (q := 22) rfl ?_
  refine xr_iadd i_X5_twoFigures_22 (q := 23) rfl ?_
  refine xr_istore_n i_X5_twoFigures_23 rfl (L2 := [some (.ref v0), some (.int v1), some (.int (m.1 v0 1)), some (.int ((((Int8.ofInt 10).toInt32) * x3) + x5))]) rfl (q := 24) rfl ?_
  refine xr_aload_n i_X5_twoFigures_24 rfl (q := 25) rfl ?_
  obtain ⟨c6, h⟩ := xi_if_some h
  refine xr_getI i_X5_twoFigures_25 xfe_X5_9 c6 (q := 28) rfl ?_
  refine xr_bipush i_X5_twoFigures_28 (q := 30) rfl ?_
  by_cases c11 : (m4.1 v0 2) = ((Int8.ofInt (-9)).toInt32)
  · replace h := (if_pos c11).symm.trans h
    refine xr_if_icmp_ne_p i_X5_twoFigures_30 c11 (q := 49) t_X5_twoFigures_30 (q2 := 33) rfl ?_
    refine xr_iload_n i_X5_twoFigures_33 rfl (q := 34) rfl ?_
    refine xr_iload_n i_X5_twoFigures_34 rfl (q := 35) rfl ?_
    by_cases c10 : ((((Int8.ofInt 10).toInt32) * x3) + x5) < v1
    · replace h := (if_pos c10).symm.trans h
      refine xr_if_icmp_lt_p i_X5_twoFigures_35 c10 (q := 44) t_X5_twoFigures_35 (q2 := 38) rfl ?_
      refine xr_aload_n i_X5_twoFigures_44 rfl (q := 45) rfl ?_
      refine xr_iload_n i_X5_twoFigures_45 rfl (q := 46) rfl ?_
      obtain ⟨c7, h⟩ := xi_if_some h
      refine xr_putI i_X5_twoFigures_46 xfe_X5_9 c7 (q := 49) rfl ?_
      refine xr_iload_n i_X5_twoFigures_49 rfl (q := 50) rfl ?_
      exact xr_ireturn i_X5_twoFigures_50 rfl h
    · replace h := (if_neg c10).symm.trans h
      refine xr_if_icmp_lt_n i_X5_twoFigures_35 c10 (q := 44) t_X5_twoFigures_35 (q2 := 38) rfl ?_
      refine xr_iload_n i_X5_twoFigures_38 rfl (q := 39) rfl ?_
      refine xr_bipush i_X5_twoFigures_39 (q := 41) rfl ?_
      by_cases c9 : ((((Int8.ofInt 10).toInt32) * x3) + x5) ≤ ((Int8.ofInt 20).toInt32)
      · replace h := (if_pos c9).symm.trans h
        refine xr_if_icmp_le_p i_X5_twoFigures_41 c9 (q := 49) t_X5_twoFigures_41 (q2 := 44) rfl ?_
        refine xr_iload_n i_X5_twoFigures_49 rfl (q := 50) rfl ?_
        exact xr_ireturn i_X5_twoFigures_50 rfl h
      · replace h := (if_neg c9).symm.trans h
        refine xr_if_icmp_le_n i_X5_twoFigures_41 c9 (q := 49) t_X5_twoFigures_41 (q2 := 44) rfl ?_
        refine xr_aload_n i_X5_twoFigures_44 rfl (q := 45) rfl ?_
        refine xr_iload_n i_X5_twoFigures_45 rfl (q := 46) rfl ?_
        obtain ⟨c8, h⟩ := xi_if_some h
        refine xr_putI i_X5_twoFigures_46 xfe_X5_9 c8 (q := 49) rfl ?_
        refine xr_iload_n i_X5_twoFigures_49 rfl (q := 50) rfl ?_
        exact xr_ireturn i_X5_twoFigures_50 rfl h
  · replace h := (if_neg c11).symm.trans h
    refine xr_if_icmp_ne_n i_X5_twoFigures_30 c11 (q := 49) t_X5_twoFigures_30 (q2 := 33) rfl ?_
    refine xr_iload_n i_X5_twoFigures_49 rfl (q := 50) rfl ?_
    exact xr_ireturn i_X5_twoFigures_50 rfl h
set_option maxRecDepth 100000 in
theorem po_X5_twoFigures {l : Launch} {E : xi_E} {S : xi_S} {D : va_G} {tys : List (ClassId × FieldType)} (hC : xCx E S tys) : xi_Pok l E S D vwCl tys xNs RX5 xTs cX5_twoFigures 4 1 (P_X5_twoFigures S) := ⟨xi_dc_ok, by rw [hC.2]; exact xfo_X5, xkio_X5, xklo_X5, xi_calls_ok (ins := .invokestatic) (fun _ h => absurd h List.not_mem_nil), xi_calls_ok (ins := .invokevirtual) (List.forall_mem_cons.mpr ⟨(xc_X5_42 hC.1 (sn_X5_figure hC) (by decide)), fun _ h => absurd h List.not_mem_nil⟩)⟩
theorem sn_X5_twoFigures {l : Launch} {E : xi_E} {S : xi_S} {D : va_G} {tys : List (ClassId × FieldType)} (hC : xCx E S tys) : ∀ As m1 r m2, F_X5_twoFigures S As m1 = some (r, m2) → xi_Sound l E S D vwCl tys xNs xTs yX5_twoFigures cX5_twoFigures 4 (some .int) 1 As m1 r m2 := by
  intro As m1 r m2 h
  unfold F_X5_twoFigures at h
  split at h
  · exact xi_meth (P := P_X5_twoFigures S) (by decide) hC.1 (po_X5_twoFigures hC) (Nat.le_of_ble_eq_true rfl) rfl (xe_X5_twoFigures _ _ _ h)
  · exact xi_no h
theorem i_X5_readCoat_0 : xi_dc cX5_readCoat 0 = some (.aload_n 0, 1) := by decide +kernel
theorem i_X5_readCoat_1 : xi_dc cX5_readCoat 1 = some (.invokevirtual 35, 3) := by decide +kernel
theorem i_X5_readCoat_4 : xi_dc cX5_readCoat 4 = some (.aload_n 0, 1) := by decide +kernel
theorem i_X5_readCoat_5 : xi_dc cX5_readCoat 5 = some (.bipush 99, 2) := by decide +kernel
theorem i_X5_readCoat_7 : xi_dc cX5_readCoat 7 = some (.invokevirtual 38, 3) := by decide +kernel
theorem i_X5_readCoat_10 : xi_dc cX5_readCoat 10 = some (.iload_n 2, 1) := by decide +kernel
theorem i_X5_readCoat_11 : xi_dc cX5_readCoat 11 = some (.iconst 1, 1) := by decide +kernel
theorem i_X5_readCoat_12 : xi_dc cX5_readCoat 12 = some (.iand, 1) := by decide +kernel
theorem i_X5_readCoat_13 : xi_dc cX5_readCoat 13 = some (.iconst 1, 1) := by decide +kernel
theorem i_X5_readCoat_14 : xi_dc cX5_readCoat 14 = some (.if_icmp .ne 7, 3) := by decide +kernel
theorem t_X5_readCoat_14 : ((14 : Nat) : Int) + 7 = ((21 : Nat) : Int) := by decide +kernel
theorem i_X5_readCoat_17 : xi_dc cX5_readCoat 17 = some (.iconst 1, 1) := by decide +kernel
theorem i_X5_readCoat_18 : xi_dc cX5_readCoat 18 = some (.goto 4, 3) := by decide +kernel
theorem t_X5_readCoat_18 : ((18 : Nat) : Int) + 4 = ((22 : Nat) : Int) := by decide +kernel
theorem i_X5_readCoat_21 : xi_dc cX5_readCoat 21 = some (.iconst 0, 1) := by decide +kernel
theorem i_X5_readCoat_22 : xi_dc cX5_readCoat 22 = some (.istore_n 3, 1) := by decide +kernel
theorem i_X5_readCoat_23 : xi_dc cX5_readCoat 23 = some (.aload_n 1, 1) := by decide +kernel
theorem i_X5_readCoat_24 : xi_dc cX5_readCoat 24 = some (.getfield 49, 3) := by decide +kernel
theorem i_X5_readCoat_27 : xi_dc cX5_readCoat 27 = some (.iload_n 2, 1) := by decide +kernel
theorem i_X5_readCoat_28 : xi_dc cX5_readCoat 28 = some (.aload_n 0, 1) := by decide +kernel
theorem i_X5_readCoat_29 : xi_dc cX5_readCoat 29 = some (.iload_n 3, 1) := by decide +kernel
theorem i_X5_readCoat_30 : xi_dc cX5_readCoat 30 = some (.ifCond .eq 16, 3) := by decide +kernel
theorem t_X5_readCoat_30 : ((30 : Nat) : Int) + 16 = ((46 : Nat) : Int) := by decide +kernel
theorem i_X5_readCoat_33 : xi_dc cX5_readCoat 33 = some (.aload_n 1, 1) := by decide +kernel
theorem i_X5_readCoat_34 : xi_dc cX5_readCoat 34 = some (.getfield 49, 3) := by decide +kernel
theorem i_X5_readCoat_37 : xi_dc cX5_readCoat 37 = some (.iload_n 2, 1) := by decide +kernel
theorem i_X5_readCoat_38 : xi_dc cX5_readCoat 38 = some (.iconst 1, 1) := by decide +kernel
theorem i_X5_readCoat_39 : xi_dc cX5_readCoat 39 = some (.isub, 1) := by decide +kernel
theorem i_X5_readCoat_40 : xi_dc cX5_readCoat 40 = some (.iaload, 1) := by decide +kernel
theorem i_X5_readCoat_41 : xi_dc cX5_readCoat 41 = some (.iconst 1, 1) := by decide +kernel
theorem i_X5_readCoat_42 : xi_dc cX5_readCoat 42 = some (.iadd, 1) := by decide +kernel
theorem i_X5_readCoat_43 : xi_dc cX5_readCoat 43 = some (.goto 4, 3) := by decide +kernel
theorem t_X5_readCoat_43 : ((43 : Nat) : Int) + 4 = ((47 : Nat) : Int) := by decide +kernel
theorem i_X5_readCoat_46 : xi_dc cX5_readCoat 46 = some (.iconst 0, 1) := by decide +kernel
theorem i_X5_readCoat_47 : xi_dc cX5_readCoat 47 = some (.invokevirtual 53, 3) := by decide +kernel
theorem i_X5_readCoat_50 : xi_dc cX5_readCoat 50 = some (.iastore, 1) := by decide +kernel
theorem i_X5_readCoat_51 : xi_dc cX5_readCoat 51 = some (.return_, 1) := by decide +kernel
def P_X5_readCoat (S : xi_S) : xi_P := (xi_dc cX5_readCoat, xi_tab xfl_X5, xi_tab xki_X5, xi_tab xkl_X5, xi_tab xcs_X5, xi_tab xcv_X5, xi_calls [], xi_calls [(35, xi_wV S 7 0 (F_X5_skipBlanks S)), (38, xi_wV S 7 1 (F_X5_letter S)), (53, xi_wV S 7 1 (F_X5_twoFigures S))], 0)
theorem cc_X5_readCoat_35 (S : xi_S) (a0 : Nat) (m : xi_M) : (P_X5_readCoat S).2.2.2.2.2.2.2.1 35 [.ref a0] m = (if S.1 a0 = 7 then E_X5_skipBlanks S a0 m else none) := by
  show xi_calls [(35, xi_wV S 7 0 (F_X5_skipBlanks S)), (38, xi_wV S 7 1 (F_X5_letter S)), (53, xi_wV S 7 1 (F_X5_twoFigures S))] 35 [.ref a0] m = _
  refine Eq.trans (b := xi_wV S 7 0 (F_X5_skipBlanks S) [.ref a0] m) (xi_calls_hit rfl) ?_
  exact xi_wV_eq rfl
theorem cc_X5_readCoat_38 (S : xi_S) (a0 : Nat) (a1 : Int32) (m : xi_M) : (P_X5_readCoat S).2.2.2.2.2.2.2.1 38 [.ref a0, .int a1] m = (if S.1 a0 = 7 then E_X5_letter S a0 a1 m else none) := by
  show xi_calls [(35, xi_wV S 7 0 (F_X5_skipBlanks S)), (38, xi_wV S 7 1 (F_X5_letter S)), (53, xi_wV S 7 1 (F_X5_twoFigures S))] 38 [.ref a0, .int a1] m = _
  refine Eq.trans (b := xi_calls [(38, xi_wV S 7 1 (F_X5_letter S)), (53, xi_wV S 7 1 (F_X5_twoFigures S))] 38 [.ref a0, .int a1] m) (xi_calls_miss rfl) ?_
  refine Eq.trans (b := xi_wV S 7 1 (F_X5_letter S) [.ref a0, .int a1] m) (xi_calls_hit rfl) ?_
  exact xi_wV_eq rfl
theorem cc_X5_readCoat_53 (S : xi_S) (a0 : Nat) (a1 : Int32) (m : xi_M) : (P_X5_readCoat S).2.2.2.2.2.2.2.1 53 [.ref a0, .int a1] m = (if S.1 a0 = 7 then E_X5_twoFigures S a0 a1 m else none) := by
  show xi_calls [(35, xi_wV S 7 0 (F_X5_skipBlanks S)), (38, xi_wV S 7 1 (F_X5_letter S)), (53, xi_wV S 7 1 (F_X5_twoFigures S))] 53 [.ref a0, .int a1] m = _
  refine Eq.trans (b := xi_calls [(38, xi_wV S 7 1 (F_X5_letter S)), (53, xi_wV S 7 1 (F_X5_twoFigures S))] 53 [.ref a0, .int a1] m) (xi_calls_miss rfl) ?_
  refine Eq.trans (b := xi_calls [(53, xi_wV S 7 1 (F_X5_twoFigures S))] 53 [.ref a0, .int a1] m) (xi_calls_miss rfl) ?_
  refine Eq.trans (b := xi_wV S 7 1 (F_X5_twoFigures S) [.ref a0, .int a1] m) (xi_calls_hit rfl) ?_
  exact xi_wV_eq rfl
def E_X5_readCoat (S : xi_S) (v0 : Nat) (v1 : Nat) (v2 : Int32) (m : xi_M) : Option xi_R :=
  xi_bV (if S.1 v0 = 7 then E_X5_skipBlanks S v0 m else none) fun m1 =>
  xi_bV (if S.1 v0 = 7 then E_X5_letter S v0 ((Int8.ofInt 99).toInt32) m1 else none) fun m2 =>
  if (v2 &&& (Int32.ofInt 1)) = (Int32.ofInt 1) then
    if S.1 v1 = 8 then (S.2.2 v1 5).bind fun b16 =>
      if (Int32.ofInt 1) = 0 then
        xi_bI (if S.1 v0 = 7 then E_X5_twoFigures S v0 (Int32.ofInt 0) m2 else none) fun x18 m17 =>
        if S.1 b16 = 0 ∧ ¬ (v2 < 0 ∨ S.2.1 b16 ≤ Int32.toNatClampNeg v2) then
          some (none, (xi_wI m17 b16 (Int32.toNatClampNeg v2) x18))
        else none
      else
        if S.1 v1 = 8 then (S.2.2 v1 5).bind fun b21 =>
          if S.1 b21 = 0 ∧ ¬ ((v2 - (Int32.ofInt 1)) < 0 ∨ S.2.1 b21 ≤ Int32.toNatClampNeg (v2 - (Int32.ofInt 1))) then
            xi_bI (if S.1 v0 = 7 then E_X5_twoFigures S v0 ((m2.1 b21 (Int32.toNatClampNeg (v2 - (Int32.ofInt 1)))) + (Int32.ofInt 1)) m2 else none) fun x24 m23 =>
            if S.1 b16 = 0 ∧ ¬ (v2 < 0 ∨ S.2.1 b16 ≤ Int32.toNatClampNeg v2) then
              some (none, (xi_wI m23 b16 (Int32.toNatClampNeg v2) x24))
            else none
          else none
        else none
    else none
  else
    if S.1 v1 = 8 then (S.2.2 v1 5).bind fun b4 =>
      if (Int32.ofInt 0) = 0 then
        xi_bI (if S.1 v0 = 7 then E_X5_twoFigures S v0 (Int32.ofInt 0) m2 else none) fun x6 m5 =>
        if S.1 b4 = 0 ∧ ¬ (v2 < 0 ∨ S.2.1 b4 ≤ Int32.toNatClampNeg v2) then
          some (none, (xi_wI m5 b4 (Int32.toNatClampNeg v2) x6))
        else none
      else
        if S.1 v1 = 8 then (S.2.2 v1 5).bind fun b9 =>
          if S.1 b9 = 0 ∧ ¬ ((v2 - (Int32.ofInt 1)) < 0 ∨ S.2.1 b9 ≤ Int32.toNatClampNeg (v2 - (Int32.ofInt 1))) then
            xi_bI (if S.1 v0 = 7 then E_X5_twoFigures S v0 ((m2.1 b9 (Int32.toNatClampNeg (v2 - (Int32.ofInt 1)))) + (Int32.ofInt 1)) m2 else none) fun x12 m11 =>
            if S.1 b4 = 0 ∧ ¬ (v2 < 0 ∨ S.2.1 b4 ≤ Int32.toNatClampNeg v2) then
              some (none, (xi_wI m11 b4 (Int32.toNatClampNeg v2) x12))
            else none
          else none
        else none
    else none
def F_X5_readCoat (S : xi_S) : xi_F := fun As m => match As with
  | [.ref v0, .ref v1, .int v2] => E_X5_readCoat S v0 v1 v2 m
  | _ => none
set_option maxRecDepth 100000 in
set_option maxHeartbeats 4000000 in
theorem xe_X5_readCoat {S : xi_S} {res : xi_R} (v0 : Nat) (v1 : Nat) (v2 : Int32) (m : xi_M) (h : E_X5_readCoat S v0 v1 v2 m = some res) : xi_X S (P_X5_readCoat S) (0, [some (.ref v0), some (.ref v1), some (.int v2), none], [], m) res := by
  unfold E_X5_readCoat at h
  refine xr_aload_n i_X5_readCoat_0 rfl (q := 1) rfl ?_
  obtain ⟨m1, em1, h⟩ := xi_bV_some h
  refine xr_VV i_X5_readCoat_1 xcve_X5_35 rfl (As := [.ref v0]) rfl (rest := []) rfl ((cc_X5_readCoat_35 S _ _).trans em1) (q := 4) rfl ?_
  refine xr_aload_n i_X5_readCoat_4 rfl (q := 5) rfl ?_
  refine xr_bipush i_X5_readCoat_5 (q := 7) rfl ?_
  obtain ⟨m2, em2, h⟩ := xi_bV_some h
  refine xr_VV i_X5_readCoat_7 xcve_X5_38 rfl (As := [.ref v0, .int ((Int8.ofInt 99).toInt32)]) rfl (rest := []) rfl ((cc_X5_readCoat_38 S _ _ _).trans em2) (q := 10) rfl ?_
  refine xr_iload_n i_X5_readCoat_10 rfl (q := 11) rfl ?_
  refine xr_iconst i_X5_readCoat_11 (q := 12) rfl ?_
  refine xr_iand i_X5_readCoat_12 (q := 13) rfl ?_
  refine xr_iconst i_X5_readCoat_13 (q := 14) rfl ?_
  by_cases c27 : (v2 &&& (Int32.ofInt 1)) = (Int32.ofInt 1)
  · replace h := (if_pos c27).symm.trans h
    refine xr_if_icmp_ne_p i_X5_readCoat_14 c27 (q := 21) t_X5_readCoat_14 (q2 := 17) rfl ?_
    refine xr_iconst i_X5_readCoat_17 (q := 18) rfl ?_
    refine xr_goto i_X5_readCoat_18 (q := 22) t_X5_readCoat_18 ?_
    refine xr_istore_n i_X5_readCoat_22 rfl (L2 := [some (.ref v0), some (.ref v1), some (.int v2), some (.int (Int32.ofInt 1))]) rfl (q := 23) rfl ?_
    refine xr_aload_n i_X5_readCoat_23 rfl (q := 24) rfl ?_
    obtain ⟨c15, h⟩ := xi_if_some h
    obtain ⟨b16, eb16, h⟩ := xi_bind_some h
    refine xr_getR i_X5_readCoat_24 xfe_X5_49 c15 eb16 (q := 27) rfl ?_
    refine xr_iload_n i_X5_readCoat_27 rfl (q := 28) rfl ?_
    refine xr_aload_n i_X5_readCoat_28 rfl (q := 29) rfl ?_
    refine xr_iload_n i_X5_readCoat_29 rfl (q := 30) rfl ?_
    by_cases c26 : (Int32.ofInt 1) = 0
    · replace h := (if_pos c26).symm.trans h
      refine xr_ifCond_eq_p i_X5_readCoat_30 c26 (q := 46) t_X5_readCoat_30 (q2 := 33) rfl ?_
      refine xr_iconst i_X5_readCoat_46 (q := 47) rfl ?_
      obtain ⟨x18, m17, em17, h⟩ := xi_bI_some h
      refine xr_VI i_X5_readCoat_47 xcve_X5_53 rfl (As := [.ref v0, .int (Int32.ofInt 0)]) rfl (rest := [.int v2, .ref b16]) rfl ((cc_X5_readCoat_53 S _ _ _).trans em17) (q := 50) rfl ?_
      obtain ⟨c19, h⟩ := xi_if_some h
      refine xr_iastore i_X5_readCoat_50 c19 (q := 51) rfl ?_
      exact xr_return i_X5_readCoat_51 rfl h
    · replace h := (if_neg c26).symm.trans h
      refine xr_ifCond_eq_n i_X5_readCoat_30 c26 (q := 46) t_X5_readCoat_30 (q2 := 33) rfl ?_
      refine xr_aload_n i_X5_readCoat_33 rfl (q := 34) rfl ?_
      obtain ⟨c20, h⟩ := xi_if_some h
      obtain ⟨b21, eb21, h⟩ := xi_bind_some h
      refine xr_getR i_X5_readCoat_34 xfe_X5_49 c20 eb21 (q := 37) rfl ?_
      refine xr_iload_n i_X5_readCoat_37 rfl (q := 38) rfl ?_
      refine xr_iconst i_X5_readCoat_38 (q := 39) rfl ?_
      refine xr_isub i_X5_readCoat_39 (q := 40) rfl ?_
      obtain ⟨c22, h⟩ := xi_if_some h
      refine xr_iaload i_X5_readCoat_40 c22 (q := 41) rfl ?_
      refine xr_iconst i_X5_readCoat_41 (q := 42) rfl ?_
      refine xr_iadd i_X5_readCoat_42 (q := 43) rfl ?_
      refine xr_goto i_X5_readCoat_43 (q := 47) t_X5_readCoat_43 ?_
      obtain ⟨x24, m23, em23, h⟩ := xi_bI_some h
      refine xr_VI i_X5_readCoat_47 xcve_X5_53 rfl (As := [.ref v0, .int ((m2.1 b21 (Int32.toNatClampNeg (v2 - (Int32.ofInt 1)))) + (Int32.ofInt 1))]) rfl (rest := [.int v2, .ref b16]) rfl ((cc_X5_readCoat_53 S _ _ _).trans em23) (q := 50) rfl ?_
      obtain ⟨c25, h⟩ := xi_if_some h
      refine xr_iastore i_X5_readCoat_50 c25 (q := 51) rfl ?_
      exact xr_return i_X5_readCoat_51 rfl h
  · replace h := (if_neg c27).symm.trans h
    refine xr_if_icmp_ne_n i_X5_readCoat_14 c27 (q := 21) t_X5_readCoat_14 (q2 := 17) rfl ?_
    refine xr_iconst i_X5_readCoat_21 (q := 22) rfl ?_
    refine xr_istore_n i_X5_readCoat_22 rfl (L2 := [some (.ref v0), some (.ref v1), some (.int v2), some (.int (Int32.ofInt 0))]) rfl (q := 23) rfl ?_
    refine xr_aload_n i_X5_readCoat_23 rfl (q := 24) rfl ?_
    obtain ⟨c3, h⟩ := xi_if_some h
    obtain ⟨b4, eb4, h⟩ := xi_bind_some h
    refine xr_getR i_X5_readCoat_24 xfe_X5_49 c3 eb4 (q := 27) rfl ?_
    refine xr_iload_n i_X5_readCoat_27 rfl (q := 28) rfl ?_
    refine xr_aload_n i_X5_readCoat_28 rfl (q := 29) rfl ?_
    refine xr_iload_n i_X5_readCoat_29 rfl (q := 30) rfl ?_
    by_cases c14 : (Int32.ofInt 0) = 0
    · replace h := (if_pos c14).symm.trans h
      refine xr_ifCond_eq_p i_X5_readCoat_30 c14 (q := 46) t_X5_readCoat_30 (q2 := 33) rfl ?_
      refine xr_iconst i_X5_readCoat_46 (q := 47) rfl ?_
      obtain ⟨x6, m5, em5, h⟩ := xi_bI_some h
      refine xr_VI i_X5_readCoat_47 xcve_X5_53 rfl (As := [.ref v0, .int (Int32.ofInt 0)]) rfl (rest := [.int v2, .ref b4]) rfl ((cc_X5_readCoat_53 S _ _ _).trans em5) (q := 50) rfl ?_
      obtain ⟨c7, h⟩ := xi_if_some h
      refine xr_iastore i_X5_readCoat_50 c7 (q := 51) rfl ?_
      exact xr_return i_X5_readCoat_51 rfl h
    · replace h := (if_neg c14).symm.trans h
      refine xr_ifCond_eq_n i_X5_readCoat_30 c14 (q := 46) t_X5_readCoat_30 (q2 := 33) rfl ?_
      refine xr_aload_n i_X5_readCoat_33 rfl (q := 34) rfl ?_
      obtain ⟨c8, h⟩ := xi_if_some h
      obtain ⟨b9, eb9, h⟩ := xi_bind_some h
      refine xr_getR i_X5_readCoat_34 xfe_X5_49 c8 eb9 (q := 37) rfl ?_
      refine xr_iload_n i_X5_readCoat_37 rfl (q := 38) rfl ?_
      refine xr_iconst i_X5_readCoat_38 (q := 39) rfl ?_
      refine xr_isub i_X5_readCoat_39 (q := 40) rfl ?_
      obtain ⟨c10, h⟩ := xi_if_some h
      refine xr_iaload i_X5_readCoat_40 c10 (q := 41) rfl ?_
      refine xr_iconst i_X5_readCoat_41 (q := 42) rfl ?_
      refine xr_iadd i_X5_readCoat_42 (q := 43) rfl ?_
      refine xr_goto i_X5_readCoat_43 (q := 47) t_X5_readCoat_43 ?_
      obtain ⟨x12, m11, em11, h⟩ := xi_bI_some h
      refine xr_VI i_X5_readCoat_47 xcve_X5_53 rfl (As := [.ref v0, .int ((m2.1 b9 (Int32.toNatClampNeg (v2 - (Int32.ofInt 1)))) + (Int32.ofInt 1))]) rfl (rest := [.int v2, .ref b4]) rfl ((cc_X5_readCoat_53 S _ _ _).trans em11) (q := 50) rfl ?_
      obtain ⟨c13, h⟩ := xi_if_some h
      refine xr_iastore i_X5_readCoat_50 c13 (q := 51) rfl ?_
      exact xr_return i_X5_readCoat_51 rfl h
set_option maxRecDepth 100000 in
theorem po_X5_readCoat {l : Launch} {E : xi_E} {S : xi_S} {D : va_G} {tys : List (ClassId × FieldType)} (hC : xCx E S tys) : xi_Pok l E S D vwCl tys xNs RX5 xTs cX5_readCoat 4 2 (P_X5_readCoat S) := ⟨xi_dc_ok, by rw [hC.2]; exact xfo_X5, xkio_X5, xklo_X5, xi_calls_ok (ins := .invokestatic) (fun _ h => absurd h List.not_mem_nil), xi_calls_ok (ins := .invokevirtual) (List.forall_mem_cons.mpr ⟨(xc_X5_35 hC.1 (sn_X5_skipBlanks hC) (by decide)), List.forall_mem_cons.mpr ⟨(xc_X5_38 hC.1 (sn_X5_letter hC) (by decide)), List.forall_mem_cons.mpr ⟨(xc_X5_53 hC.1 (sn_X5_twoFigures hC) (by decide)), fun _ h => absurd h List.not_mem_nil⟩⟩⟩)⟩
theorem sn_X5_readCoat {l : Launch} {E : xi_E} {S : xi_S} {D : va_G} {tys : List (ClassId × FieldType)} (hC : xCx E S tys) : ∀ As m1 r m2, F_X5_readCoat S As m1 = some (r, m2) → xi_Sound l E S D vwCl tys xNs xTs yX5_readCoat cX5_readCoat 4 none 2 As m1 r m2 := by
  intro As m1 r m2 h
  unfold F_X5_readCoat at h
  split at h
  · exact xi_meth (P := P_X5_readCoat S) (by decide) hC.1 (po_X5_readCoat hC) (Nat.le_of_ble_eq_true rfl) rfl (xe_X5_readCoat _ _ _ _ h)
  · exact xi_no h
theorem i_X5_readPlayer_0 : xi_dc cX5_readPlayer 0 = some (.aload_n 0, 1) := by decide +kernel
theorem i_X5_readPlayer_1 : xi_dc cX5_readPlayer 1 = some (.invokevirtual 35, 3) := by decide +kernel
theorem i_X5_readPlayer_4 : xi_dc cX5_readPlayer 4 = some (.aload_n 0, 1) := by decide +kernel
theorem i_X5_readPlayer_5 : xi_dc cX5_readPlayer 5 = some (.getfield 9, 3) := by decide +kernel
theorem i_X5_readPlayer_8 : xi_dc cX5_readPlayer 8 = some (.bipush (-9), 2) := by decide +kernel
theorem i_X5_readPlayer_10 : xi_dc cX5_readPlayer 10 = some (.if_icmp .ne 21, 3) := by decide +kernel
theorem t_X5_readPlayer_10 : ((10 : Nat) : Int) + 21 = ((31 : Nat) : Int) := by decide +kernel
theorem i_X5_readPlayer_13 : xi_dc cX5_readPlayer 13 = some (.aload_n 0, 1) := by decide +kernel
theorem i_X5_readPlayer_14 : xi_dc cX5_readPlayer 14 = some (.getfield 57, 3) := by decide +kernel
theorem i_X5_readPlayer_17 : xi_dc cX5_readPlayer 17 = some (.aload_n 0, 1) := by decide +kernel
theorem i_X5_readPlayer_18 : xi_dc cX5_readPlayer 18 = some (.getfield 15, 3) := by decide +kernel
theorem i_X5_readPlayer_21 : xi_dc cX5_readPlayer 21 = some (.getfield 60, 3) := by decide +kernel
theorem i_X5_readPlayer_24 : xi_dc cX5_readPlayer 24 = some (.if_icmp .lt 8, 3) := by decide +kernel
theorem t_X5_readPlayer_24 : ((24 : Nat) : Int) + 8 = ((32 : Nat) : Int) := by decide +kernel
theorem i_X5_readPlayer_27 : xi_dc cX5_readPlayer 27 = some (.iload_n 2, 1) := by decide +kernel
theorem i_X5_readPlayer_28 : xi_dc cX5_readPlayer 28 = some (.ifCond .le 4, 3) := by decide +kernel
theorem t_X5_readPlayer_28 : ((28 : Nat) : Int) + 4 = ((32 : Nat) : Int) := by decide +kernel
theorem i_X5_readPlayer_31 : xi_dc cX5_readPlayer 31 = some (.return_, 1) := by decide +kernel
theorem i_X5_readPlayer_32 : xi_dc cX5_readPlayer 32 = some (.aload_n 0, 1) := by decide +kernel
theorem i_X5_readPlayer_33 : xi_dc cX5_readPlayer 33 = some (.getfield 57, 3) := by decide +kernel
theorem i_X5_readPlayer_36 : xi_dc cX5_readPlayer 36 = some (.aload_n 0, 1) := by decide +kernel
theorem i_X5_readPlayer_37 : xi_dc cX5_readPlayer 37 = some (.getfield 15, 3) := by decide +kernel
theorem i_X5_readPlayer_40 : xi_dc cX5_readPlayer 40 = some (.getfield 60, 3) := by decide +kernel
theorem i_X5_readPlayer_43 : xi_dc cX5_readPlayer 43 = some (.if_icmp .ge 21, 3) := by decide +kernel
theorem t_X5_readPlayer_43 : ((43 : Nat) : Int) + 21 = ((64 : Nat) : Int) := by decide +kernel
theorem i_X5_readPlayer_46 : xi_dc cX5_readPlayer 46 = some (.aload_n 0, 1) := by decide +kernel
theorem i_X5_readPlayer_47 : xi_dc cX5_readPlayer 47 = some (.getfield 15, 3) := by decide +kernel
theorem i_X5_readPlayer_50 : xi_dc cX5_readPlayer 50 = some (.getfield 65, 3) := by decide +kernel
theorem i_X5_readPlayer_53 : xi_dc cX5_readPlayer 53 = some (.aload_n 0, 1) := by decide +kernel
theorem i_X5_readPlayer_54 : xi_dc cX5_readPlayer 54 = some (.getfield 57, 3) := by decide +kernel
theorem i_X5_readPlayer_57 : xi_dc cX5_readPlayer 57 = some (.iaload, 1) := by decide +kernel
theorem i_X5_readPlayer_58 : xi_dc cX5_readPlayer 58 = some (.invokestatic 68, 3) := by decide +kernel
theorem i_X5_readPlayer_61 : xi_dc cX5_readPlayer 61 = some (.goto 5, 3) := by decide +kernel
theorem t_X5_readPlayer_61 : ((61 : Nat) : Int) + 5 = ((66 : Nat) : Int) := by decide +kernel
theorem i_X5_readPlayer_64 : xi_dc cX5_readPlayer 64 = some (.bipush (-9), 2) := by decide +kernel
theorem i_X5_readPlayer_66 : xi_dc cX5_readPlayer 66 = some (.istore_n 3, 1) := by decide +kernel
theorem i_X5_readPlayer_67 : xi_dc cX5_readPlayer 67 = some (.iload_n 3, 1) := by decide +kernel
theorem i_X5_readPlayer_68 : xi_dc cX5_readPlayer 68 = some (.bipush (-9), 2) := by decide +kernel
theorem i_X5_readPlayer_70 : xi_dc cX5_readPlayer 70 = some (.if_icmp .eq 9, 3) := by decide +kernel
theorem t_X5_readPlayer_70 : ((70 : Nat) : Int) + 9 = ((79 : Nat) : Int) := by decide +kernel
theorem i_X5_readPlayer_73 : xi_dc cX5_readPlayer 73 = some (.iload_n 2, 1) := by decide +kernel
theorem i_X5_readPlayer_74 : xi_dc cX5_readPlayer 74 = some (.bipush 6, 2) := by decide +kernel
theorem i_X5_readPlayer_76 : xi_dc cX5_readPlayer 76 = some (.if_icmp .lt 12, 3) := by decide +kernel
theorem t_X5_readPlayer_76 : ((76 : Nat) : Int) + 12 = ((88 : Nat) : Int) := by decide +kernel
theorem i_X5_readPlayer_79 : xi_dc cX5_readPlayer 79 = some (.aload_n 0, 1) := by decide +kernel
theorem i_X5_readPlayer_80 : xi_dc cX5_readPlayer 80 = some (.aload_n 0, 1) := by decide +kernel
theorem i_X5_readPlayer_81 : xi_dc cX5_readPlayer 81 = some (.getfield 57, 3) := by decide +kernel
theorem i_X5_readPlayer_84 : xi_dc cX5_readPlayer 84 = some (.putfield 9, 3) := by decide +kernel
theorem i_X5_readPlayer_87 : xi_dc cX5_readPlayer 87 = some (.return_, 1) := by decide +kernel
theorem i_X5_readPlayer_88 : xi_dc cX5_readPlayer 88 = some (.aload_n 0, 1) := by decide +kernel
theorem i_X5_readPlayer_89 : xi_dc cX5_readPlayer 89 = some (.dup, 1) := by decide +kernel
theorem i_X5_readPlayer_90 : xi_dc cX5_readPlayer 90 = some (.getfield 57, 3) := by decide +kernel
theorem i_X5_readPlayer_93 : xi_dc cX5_readPlayer 93 = some (.iconst 1, 1) := by decide +kernel
theorem i_X5_readPlayer_94 : xi_dc cX5_readPlayer 94 = some (.iadd, 1) := by decide +kernel
theorem i_X5_readPlayer_95 : xi_dc cX5_readPlayer 95 = some (.putfield 57, 3) := by decide +kernel
theorem i_X5_readPlayer_98 : xi_dc cX5_readPlayer 98 = some (.aload_n 1, 1) := by decide +kernel
theorem i_X5_readPlayer_99 : xi_dc cX5_readPlayer 99 = some (.getfield 73, 3) := by decide +kernel
theorem i_X5_readPlayer_102 : xi_dc cX5_readPlayer 102 = some (.iload_n 2, 1) := by decide +kernel
theorem i_X5_readPlayer_103 : xi_dc cX5_readPlayer 103 = some (.iload_n 3, 1) := by decide +kernel
theorem i_X5_readPlayer_104 : xi_dc cX5_readPlayer 104 = some (.iastore, 1) := by decide +kernel
theorem i_X5_readPlayer_105 : xi_dc cX5_readPlayer 105 = some (.aload_n 1, 1) := by decide +kernel
theorem i_X5_readPlayer_106 : xi_dc cX5_readPlayer 106 = some (.getfield 76, 3) := by decide +kernel
theorem i_X5_readPlayer_109 : xi_dc cX5_readPlayer 109 = some (.iload_n 2, 1) := by decide +kernel
theorem i_X5_readPlayer_110 : xi_dc cX5_readPlayer 110 = some (.aload_n 0, 1) := by decide +kernel
theorem i_X5_readPlayer_111 : xi_dc cX5_readPlayer 111 = some (.iconst 0, 1) := by decide +kernel
theorem i_X5_readPlayer_112 : xi_dc cX5_readPlayer 112 = some (.iconst 1, 1) := by decide +kernel
theorem i_X5_readPlayer_113 : xi_dc cX5_readPlayer 113 = some (.invokevirtual 42, 3) := by decide +kernel
theorem i_X5_readPlayer_116 : xi_dc cX5_readPlayer 116 = some (.iastore, 1) := by decide +kernel
theorem i_X5_readPlayer_117 : xi_dc cX5_readPlayer 117 = some (.aload_n 1, 1) := by decide +kernel
theorem i_X5_readPlayer_118 : xi_dc cX5_readPlayer 118 = some (.getfield 79, 3) := by decide +kernel
theorem i_X5_readPlayer_121 : xi_dc cX5_readPlayer 121 = some (.iload_n 2, 1) := by decide +kernel
theorem i_X5_readPlayer_122 : xi_dc cX5_readPlayer 122 = some (.aload_n 0, 1) := by decide +kernel
theorem i_X5_readPlayer_123 : xi_dc cX5_readPlayer 123 = some (.iconst 0, 1) := by decide +kernel
theorem i_X5_readPlayer_124 : xi_dc cX5_readPlayer 124 = some (.invokevirtual 53, 3) := by decide +kernel
theorem i_X5_readPlayer_127 : xi_dc cX5_readPlayer 127 = some (.iastore, 1) := by decide +kernel
theorem i_X5_readPlayer_128 : xi_dc cX5_readPlayer 128 = some (.aload_n 1, 1) := by decide +kernel
theorem i_X5_readPlayer_129 : xi_dc cX5_readPlayer 129 = some (.getfield 82, 3) := by decide +kernel
theorem i_X5_readPlayer_132 : xi_dc cX5_readPlayer 132 = some (.iload_n 2, 1) := by decide +kernel
theorem i_X5_readPlayer_133 : xi_dc cX5_readPlayer 133 = some (.aload_n 0, 1) := by decide +kernel
theorem i_X5_readPlayer_134 : xi_dc cX5_readPlayer 134 = some (.iconst 1, 1) := by decide +kernel
theorem i_X5_readPlayer_135 : xi_dc cX5_readPlayer 135 = some (.bipush 9, 2) := by decide +kernel
theorem i_X5_readPlayer_137 : xi_dc cX5_readPlayer 137 = some (.invokevirtual 42, 3) := by decide +kernel
theorem i_X5_readPlayer_140 : xi_dc cX5_readPlayer 140 = some (.iastore, 1) := by decide +kernel
theorem i_X5_readPlayer_141 : xi_dc cX5_readPlayer 141 = some (.aload_n 1, 1) := by decide +kernel
theorem i_X5_readPlayer_142 : xi_dc cX5_readPlayer 142 = some (.iload_n 2, 1) := by decide +kernel
theorem i_X5_readPlayer_143 : xi_dc cX5_readPlayer 143 = some (.iconst 1, 1) := by decide +kernel
theorem i_X5_readPlayer_144 : xi_dc cX5_readPlayer 144 = some (.iadd, 1) := by decide +kernel
theorem i_X5_readPlayer_145 : xi_dc cX5_readPlayer 145 = some (.putfield 85, 3) := by decide +kernel
theorem i_X5_readPlayer_148 : xi_dc cX5_readPlayer 148 = some (.return_, 1) := by decide +kernel
def P_X5_readPlayer (S : xi_S) : xi_P := (xi_dc cX5_readPlayer, xi_tab xfl_X5, xi_tab xki_X5, xi_tab xkl_X5, xi_tab xcs_X5, xi_tab xcv_X5, xi_calls [(68, xi_wS 1 (F_X4_ofLetter S))], xi_calls [(35, xi_wV S 7 0 (F_X5_skipBlanks S)), (42, xi_wV S 7 2 (F_X5_figure S)), (53, xi_wV S 7 1 (F_X5_twoFigures S))], 0)
theorem cc_X5_readPlayer_68 (S : xi_S) (a0 : Int32) (m : xi_M) : (P_X5_readPlayer S).2.2.2.2.2.2.1 68 [.int a0] m = (E_X4_ofLetter S a0 m) := by
  show xi_calls [(68, xi_wS 1 (F_X4_ofLetter S))] 68 [.int a0] m = _
  refine Eq.trans (b := xi_wS 1 (F_X4_ofLetter S) [.int a0] m) (xi_calls_hit rfl) ?_
  exact xi_wS_eq rfl
theorem cc_X5_readPlayer_35 (S : xi_S) (a0 : Nat) (m : xi_M) : (P_X5_readPlayer S).2.2.2.2.2.2.2.1 35 [.ref a0] m = (if S.1 a0 = 7 then E_X5_skipBlanks S a0 m else none) := by
  show xi_calls [(35, xi_wV S 7 0 (F_X5_skipBlanks S)), (42, xi_wV S 7 2 (F_X5_figure S)), (53, xi_wV S 7 1 (F_X5_twoFigures S))] 35 [.ref a0] m = _
  refine Eq.trans (b := xi_wV S 7 0 (F_X5_skipBlanks S) [.ref a0] m) (xi_calls_hit rfl) ?_
  exact xi_wV_eq rfl
theorem cc_X5_readPlayer_42 (S : xi_S) (a0 : Nat) (a1 : Int32) (a2 : Int32) (m : xi_M) : (P_X5_readPlayer S).2.2.2.2.2.2.2.1 42 [.ref a0, .int a1, .int a2] m = (if S.1 a0 = 7 then E_X5_figure S a0 a1 a2 m else none) := by
  show xi_calls [(35, xi_wV S 7 0 (F_X5_skipBlanks S)), (42, xi_wV S 7 2 (F_X5_figure S)), (53, xi_wV S 7 1 (F_X5_twoFigures S))] 42 [.ref a0, .int a1, .int a2] m = _
  refine Eq.trans (b := xi_calls [(42, xi_wV S 7 2 (F_X5_figure S)), (53, xi_wV S 7 1 (F_X5_twoFigures S))] 42 [.ref a0, .int a1, .int a2] m) (xi_calls_miss rfl) ?_
  refine Eq.trans (b := xi_wV S 7 2 (F_X5_figure S) [.ref a0, .int a1, .int a2] m) (xi_calls_hit rfl) ?_
  exact xi_wV_eq rfl
theorem cc_X5_readPlayer_53 (S : xi_S) (a0 : Nat) (a1 : Int32) (m : xi_M) : (P_X5_readPlayer S).2.2.2.2.2.2.2.1 53 [.ref a0, .int a1] m = (if S.1 a0 = 7 then E_X5_twoFigures S a0 a1 m else none) := by
  show xi_calls [(35, xi_wV S 7 0 (F_X5_skipBlanks S)), (42, xi_wV S 7 2 (F_X5_figure S)), (53, xi_wV S 7 1 (F_X5_twoFigures S))] 53 [.ref a0, .int a1] m = _
  refine Eq.trans (b := xi_calls [(42, xi_wV S 7 2 (F_X5_figure S)), (53, xi_wV S 7 1 (F_X5_twoFigures S))] 53 [.ref a0, .int a1] m) (xi_calls_miss rfl) ?_
  refine Eq.trans (b := xi_calls [(53, xi_wV S 7 1 (F_X5_twoFigures S))] 53 [.ref a0, .int a1] m) (xi_calls_miss rfl) ?_
  refine Eq.trans (b := xi_wV S 7 1 (F_X5_twoFigures S) [.ref a0, .int a1] m) (xi_calls_hit rfl) ?_
  exact xi_wV_eq rfl
def E_X5_readPlayer (S : xi_S) (v0 : Nat) (v1 : Nat) (v2 : Int32) (m : xi_M) : Option xi_R :=
  xi_bV (if S.1 v0 = 7 then E_X5_skipBlanks S v0 m else none) fun m1 =>
  if S.1 v0 = 7 then
    if (m1.1 v0 2) = ((Int8.ofInt (-9)).toInt32) then
      if S.1 v0 = 7 then
        if S.1 v0 = 7 then (S.2.2 v0 0).bind fun b5 =>
          if S.1 b5 = 9 then
            if (m1.1 v0 1) < (m1.1 b5 1) then
              if S.1 v0 = 7 then
                if S.1 v0 = 7 then (S.2.2 v0 0).bind fun b9 =>
                  if S.1 b9 = 9 then
                    if (m1.1 b9 1) ≤ (m1.1 v0 1) then
                      if ((Int8.ofInt (-9)).toInt32) = ((Int8.ofInt (-9)).toInt32) then
                        if S.1 v0 = 7 then
                          if S.1 v0 = 7 then
                            some (none, (xi_wI m1 v0 2 (m1.1 v0 1)))
                          else none
                        else none
                      else
                        if v2 < ((Int8.ofInt 6).toInt32) then
                          if S.1 v0 = 7 then
                            if S.1 v0 = 7 then
                              if S.1 v1 = 8 then (S.2.2 v1 7).bind fun b16 =>
                                if S.1 b16 = 0 ∧ ¬ (v2 < 0 ∨ S.2.1 b16 ≤ Int32.toNatClampNeg v2) then
                                  if S.1 v1 = 8 then (S.2.2 v1 8).bind fun b19 =>
                                    xi_bI (if S.1 v0 = 7 then E_X5_figure S v0 (Int32.ofInt 0) (Int32.ofInt 1) (xi_wI (xi_wI m1 v0 1 ((m1.1 v0 1) + (Int32.ofInt 1))) b16 (Int32.toNatClampNeg v2) ((Int8.ofInt (-9)).toInt32)) else none) fun x21 m20 =>
                                    if S.1 b19 = 0 ∧ ¬ (v2 < 0 ∨ S.2.1 b19 ≤ Int32.toNatClampNeg v2) then
                                      if S.1 v1 = 8 then (S.2.2 v1 9).bind fun b24 =>
                                        xi_bI (if S.1 v0 = 7 then E_X5_twoFigures S v0 (Int32.ofInt 0) (xi_wI m20 b19 (Int32.toNatClampNeg v2) x21) else none) fun x26 m25 =>
                                        if S.1 b24 = 0 ∧ ¬ (v2 < 0 ∨ S.2.1 b24 ≤ Int32.toNatClampNeg v2) then
                                          if S.1 v1 = 8 then (S.2.2 v1 10).bind fun b29 =>
                                            xi_bI (if S.1 v0 = 7 then E_X5_figure S v0 (Int32.ofInt 1) ((Int8.ofInt 9).toInt32) (xi_wI m25 b24 (Int32.toNatClampNeg v2) x26) else none) fun x31 m30 =>
                                            if S.1 b29 = 0 ∧ ¬ (v2 < 0 ∨ S.2.1 b29 ≤ Int32.toNatClampNeg v2) then
                                              if S.1 v1 = 8 then
                                                some (none, (xi_wI (xi_wI m30 b29 (Int32.toNatClampNeg v2) x31) v1 1 (v2 + (Int32.ofInt 1))))
                                              else none
                                            else none
                                          else none
                                        else none
                                      else none
                                    else none
                                  else none
                                else none
                              else none
                            else none
                          else none
                        else
                          if S.1 v0 = 7 then
                            if S.1 v0 = 7 then
                              some (none, (xi_wI m1 v0 2 (m1.1 v0 1)))
                            else none
                          else none
                    else
                      if S.1 v0 = 7 then (S.2.2 v0 0).bind fun b39 =>
                        if S.1 b39 = 9 then (S.2.2 b39 2).bind fun b41 =>
                          if S.1 v0 = 7 then
                            if S.1 b41 = 0 ∧ ¬ ((m1.1 v0 1) < 0 ∨ S.2.1 b41 ≤ Int32.toNatClampNeg (m1.1 v0 1)) then
                              xi_bI (E_X4_ofLetter S (m1.1 b41 (Int32.toNatClampNeg (m1.1 v0 1))) m1) fun x45 m44 =>
                              if x45 = ((Int8.ofInt (-9)).toInt32) then
                                if S.1 v0 = 7 then
                                  if S.1 v0 = 7 then
                                    some (none, (xi_wI m44 v0 2 (m44.1 v0 1)))
                                  else none
                                else none
                              else
                                if v2 < ((Int8.ofInt 6).toInt32) then
                                  if S.1 v0 = 7 then
                                    if S.1 v0 = 7 then
                                      if S.1 v1 = 8 then (S.2.2 v1 7).bind fun b51 =>
                                        if S.1 b51 = 0 ∧ ¬ (v2 < 0 ∨ S.2.1 b51 ≤ Int32.toNatClampNeg v2) then
                                          if S.1 v1 = 8 then (S.2.2 v1 8).bind fun b54 =>
                                            xi_bI (if S.1 v0 = 7 then E_X5_figure S v0 (Int32.ofInt 0) (Int32.ofInt 1) (xi_wI (xi_wI m44 v0 1 ((m44.1 v0 1) + (Int32.ofInt 1))) b51 (Int32.toNatClampNeg v2) x45) else none) fun x56 m55 =>
                                            if S.1 b54 = 0 ∧ ¬ (v2 < 0 ∨ S.2.1 b54 ≤ Int32.toNatClampNeg v2) then
                                              if S.1 v1 = 8 then (S.2.2 v1 9).bind fun b59 =>
                                                xi_bI (if S.1 v0 = 7 then E_X5_twoFigures S v0 (Int32.ofInt 0) (xi_wI m55 b54 (Int32.toNatClampNeg v2) x56) else none) fun x61 m60 =>
                                                if S.1 b59 = 0 ∧ ¬ (v2 < 0 ∨ S.2.1 b59 ≤ Int32.toNatClampNeg v2) then
                                                  if S.1 v1 = 8 then (S.2.2 v1 10).bind fun b64 =>
                                                    xi_bI (if S.1 v0 = 7 then E_X5_figure S v0 (Int32.ofInt 1) ((Int8.ofInt 9).toInt32) (xi_wI m60 b59 (Int32.toNatClampNeg v2) x61) else none) fun x66 m65 =>
                                                    if S.1 b64 = 0 ∧ ¬ (v2 < 0 ∨ S.2.1 b64 ≤ Int32.toNatClampNeg v2) then
                                                      if S.1 v1 = 8 then
                                                        some (none, (xi_wI (xi_wI m65 b64 (Int32.toNatClampNeg v2) x66) v1 1 (v2 + (Int32.ofInt 1))))
                                                      else none
                                                    else none
                                                  else none
                                                else none
                                              else none
                                            else none
                                          else none
                                        else none
                                      else none
                                    else none
                                  else none
                                else
                                  if S.1 v0 = 7 then
                                    if S.1 v0 = 7 then
                                      some (none, (xi_wI m44 v0 2 (m44.1 v0 1)))
                                    else none
                                  else none
                            else none
                          else none
                        else none
                      else none
                  else none
                else none
              else none
            else
              if v2 ≤ 0 then
                if S.1 v0 = 7 then
                  if S.1 v0 = 7 then (S.2.2 v0 0).bind fun b76 =>
                    if S.1 b76 = 9 then
                      if (m1.1 b76 1) ≤ (m1.1 v0 1) then
                        if ((Int8.ofInt (-9)).toInt32) = ((Int8.ofInt (-9)).toInt32) then
                          if S.1 v0 = 7 then
                            if S.1 v0 = 7 then
                              some (none, (xi_wI m1 v0 2 (m1.1 v0 1)))
                            else none
                          else none
                        else
                          if v2 < ((Int8.ofInt 6).toInt32) then
                            if S.1 v0 = 7 then
                              if S.1 v0 = 7 then
                                if S.1 v1 = 8 then (S.2.2 v1 7).bind fun b83 =>
                                  if S.1 b83 = 0 ∧ ¬ (v2 < 0 ∨ S.2.1 b83 ≤ Int32.toNatClampNeg v2) then
                                    if S.1 v1 = 8 then (S.2.2 v1 8).bind fun b86 =>
                                      xi_bI (if S.1 v0 = 7 then E_X5_figure S v0 (Int32.ofInt 0) (Int32.ofInt 1) (xi_wI (xi_wI m1 v0 1 ((m1.1 v0 1) + (Int32.ofInt 1))) b83 (Int32.toNatClampNeg v2) ((Int8.ofInt (-9)).toInt32)) else none) fun x88 m87 =>
                                      if S.1 b86 = 0 ∧ ¬ (v2 < 0 ∨ S.2.1 b86 ≤ Int32.toNatClampNeg v2) then
                                        if S.1 v1 = 8 then (S.2.2 v1 9).bind fun b91 =>
                                          xi_bI (if S.1 v0 = 7 then E_X5_twoFigures S v0 (Int32.ofInt 0) (xi_wI m87 b86 (Int32.toNatClampNeg v2) x88) else none) fun x93 m92 =>
                                          if S.1 b91 = 0 ∧ ¬ (v2 < 0 ∨ S.2.1 b91 ≤ Int32.toNatClampNeg v2) then
                                            if S.1 v1 = 8 then (S.2.2 v1 10).bind fun b96 =>
                                              xi_bI (if S.1 v0 = 7 then E_X5_figure S v0 (Int32.ofInt 1) ((Int8.ofInt 9).toInt32) (xi_wI m92 b91 (Int32.toNatClampNeg v2) x93) else none) fun x98 m97 =>
                                              if S.1 b96 = 0 ∧ ¬ (v2 < 0 ∨ S.2.1 b96 ≤ Int32.toNatClampNeg v2) then
                                                if S.1 v1 = 8 then
                                                  some (none, (xi_wI (xi_wI m97 b96 (Int32.toNatClampNeg v2) x98) v1 1 (v2 + (Int32.ofInt 1))))
                                                else none
                                              else none
                                            else none
                                          else none
                                        else none
                                      else none
                                    else none
                                  else none
                                else none
                              else none
                            else none
                          else
                            if S.1 v0 = 7 then
                              if S.1 v0 = 7 then
                                some (none, (xi_wI m1 v0 2 (m1.1 v0 1)))
                              else none
                            else none
                      else
                        if S.1 v0 = 7 then (S.2.2 v0 0).bind fun b106 =>
                          if S.1 b106 = 9 then (S.2.2 b106 2).bind fun b108 =>
                            if S.1 v0 = 7 then
                              if S.1 b108 = 0 ∧ ¬ ((m1.1 v0 1) < 0 ∨ S.2.1 b108 ≤ Int32.toNatClampNeg (m1.1 v0 1)) then
                                xi_bI (E_X4_ofLetter S (m1.1 b108 (Int32.toNatClampNeg (m1.1 v0 1))) m1) fun x112 m111 =>
                                if x112 = ((Int8.ofInt (-9)).toInt32) then
                                  if S.1 v0 = 7 then
                                    if S.1 v0 = 7 then
                                      some (none, (xi_wI m111 v0 2 (m111.1 v0 1)))
                                    else none
                                  else none
                                else
                                  if v2 < ((Int8.ofInt 6).toInt32) then
                                    if S.1 v0 = 7 then
                                      if S.1 v0 = 7 then
                                        if S.1 v1 = 8 then (S.2.2 v1 7).bind fun b118 =>
                                          if S.1 b118 = 0 ∧ ¬ (v2 < 0 ∨ S.2.1 b118 ≤ Int32.toNatClampNeg v2) then
                                            if S.1 v1 = 8 then (S.2.2 v1 8).bind fun b121 =>
                                              xi_bI (if S.1 v0 = 7 then E_X5_figure S v0 (Int32.ofInt 0) (Int32.ofInt 1) (xi_wI (xi_wI m111 v0 1 ((m111.1 v0 1) + (Int32.ofInt 1))) b118 (Int32.toNatClampNeg v2) x112) else none) fun x123 m122 =>
                                              if S.1 b121 = 0 ∧ ¬ (v2 < 0 ∨ S.2.1 b121 ≤ Int32.toNatClampNeg v2) then
                                                if S.1 v1 = 8 then (S.2.2 v1 9).bind fun b126 =>
                                                  xi_bI (if S.1 v0 = 7 then E_X5_twoFigures S v0 (Int32.ofInt 0) (xi_wI m122 b121 (Int32.toNatClampNeg v2) x123) else none) fun x128 m127 =>
                                                  if S.1 b126 = 0 ∧ ¬ (v2 < 0 ∨ S.2.1 b126 ≤ Int32.toNatClampNeg v2) then
                                                    if S.1 v1 = 8 then (S.2.2 v1 10).bind fun b131 =>
                                                      xi_bI (if S.1 v0 = 7 then E_X5_figure S v0 (Int32.ofInt 1) ((Int8.ofInt 9).toInt32) (xi_wI m127 b126 (Int32.toNatClampNeg v2) x128) else none) fun x133 m132 =>
                                                      if S.1 b131 = 0 ∧ ¬ (v2 < 0 ∨ S.2.1 b131 ≤ Int32.toNatClampNeg v2) then
                                                        if S.1 v1 = 8 then
                                                          some (none, (xi_wI (xi_wI m132 b131 (Int32.toNatClampNeg v2) x133) v1 1 (v2 + (Int32.ofInt 1))))
                                                        else none
                                                      else none
                                                    else none
                                                  else none
                                                else none
                                              else none
                                            else none
                                          else none
                                        else none
                                      else none
                                    else none
                                  else
                                    if S.1 v0 = 7 then
                                      if S.1 v0 = 7 then
                                        some (none, (xi_wI m111 v0 2 (m111.1 v0 1)))
                                      else none
                                    else none
                              else none
                            else none
                          else none
                        else none
                    else none
                  else none
                else none
              else
                some (none, m1)
          else none
        else none
      else none
    else
      some (none, m1)
  else none
def F_X5_readPlayer (S : xi_S) : xi_F := fun As m => match As with
  | [.ref v0, .ref v1, .int v2] => E_X5_readPlayer S v0 v1 v2 m
  | _ => none
set_option maxRecDepth 100000 in
set_option maxHeartbeats 4000000 in
theorem xe_X5_readPlayer {S : xi_S} {res : xi_R} (v0 : Nat) (v1 : Nat) (v2 : Int32) (m : xi_M) (h : E_X5_readPlayer S v0 v1 v2 m = some res) : xi_X S (P_X5_readPlayer S) (0, [some (.ref v0), some (.ref v1), some (.int v2), none], [], m) res := by
  unfold E_X5_readPlayer at h
  refine xr_aload_n i_X5_readPlayer_0 rfl (q := 1) rfl ?_
  obtain ⟨m1, em1, h⟩ := xi_bV_some h
  refine xr_VV i_X5_readPlayer_1 xcve_X5_35 rfl (As := [.ref v0]) rfl (rest := []) rfl ((cc_X5_readPlayer_35 S _ _).trans em1) (q := 4) rfl ?_
  refine xr_aload_n i_X5_readPlayer_4 rfl (q := 5) rfl ?_
  obtain ⟨c2, h⟩ := xi_if_some h
  refine xr_getI i_X5_readPlayer_5 xfe_X5_9 c2 (q := 8) rfl ?_
  refine xr_bipush i_X5_readPlayer_8 (q := 10) rfl ?_
  by_cases c143 : (m1.1 v0 2) = ((Int8.ofInt (-9)).toInt32)
  · replace h := (if_pos c143).symm.trans h
    refine xr_if_icmp_ne_p i_X5_readPlayer_10 c143 (q := 31) t_X5_readPlayer_10 (q2 := 13) rfl ?_
    refine xr_aload_n i_X5_readPlayer_13 rfl (q := 14) rfl ?_
    obtain ⟨c3, h⟩ := xi_if_some h
    refine xr_getI i_X5_readPlayer_14 xfe_X5_57 c3 (q := 17) rfl ?_
    refine xr_aload_n i_X5_readPlayer_17 rfl (q := 18) rfl ?_
    obtain ⟨c4, h⟩ := xi_if_some h
    obtain ⟨b5, eb5, h⟩ := xi_bind_some h
    refine xr_getR i_X5_readPlayer_18 xfe_X5_15 c4 eb5 (q := 21) rfl ?_
    obtain ⟨c6, h⟩ := xi_if_some h
    refine xr_getI i_X5_readPlayer_21 xfe_X5_60 c6 (q := 24) rfl ?_
    by_cases c142 : (m1.1 v0 1) < (m1.1 b5 1)
    · replace h := (if_pos c142).symm.trans h
      refine xr_if_icmp_lt_p i_X5_readPlayer_24 c142 (q := 32) t_X5_readPlayer_24 (q2 := 27) rfl ?_
      refine xr_aload_n i_X5_readPlayer_32 rfl (q := 33) rfl ?_
      obtain ⟨c7, h⟩ := xi_if_some h
      refine xr_getI i_X5_readPlayer_33 xfe_X5_57 c7 (q := 36) rfl ?_
      refine xr_aload_n i_X5_readPlayer_36 rfl (q := 37) rfl ?_
      obtain ⟨c8, h⟩ := xi_if_some h
      obtain ⟨b9, eb9, h⟩ := xi_bind_some h
      refine xr_getR i_X5_readPlayer_37 xfe_X5_15 c8 eb9 (q := 40) rfl ?_
      obtain ⟨c10, h⟩ := xi_if_some h
      refine xr_getI i_X5_readPlayer_40 xfe_X5_60 c10 (q := 43) rfl ?_
      by_cases c73 : (m1.1 b9 1) ≤ (m1.1 v0 1)
      · replace h := (if_pos c73).symm.trans h
        refine xr_if_icmp_ge_p i_X5_readPlayer_43 c73 (q := 64) t_X5_readPlayer_43 (q2 := 46) rfl ?_
        refine xr_bipush i_X5_readPlayer_64 (q := 66) rfl ?_
        refine xr_istore_n i_X5_readPlayer_66 rfl (L2 := [some (.ref v0), some (.ref v1), some (.int v2), some (.int ((Int8.ofInt (-9)).toInt32))]) rfl (q := 67) rfl ?_
        refine xr_iload_n i_X5_readPlayer_67 rfl (q := 68) rfl ?_
        refine xr_bipush i_X5_readPlayer_68 (q := 70) rfl ?_
        by_cases c37 : ((Int8.ofInt (-9)).toInt32) = ((Int8.ofInt (-9)).toInt32)
        · replace h := (if_pos c37).symm.trans h
          refine xr_if_icmp_eq_p i_X5_readPlayer_70 c37 (q := 79) t_X5_readPlayer_70 (q2 := 73) rfl ?_
          refine xr_aload_n i_X5_readPlayer_79 rfl (q := 80) rfl ?_
          refine xr_aload_n i_X5_readPlayer_80 rfl (q := 81) rfl ?_
          obtain ⟨c11, h⟩ := xi_if_some h
          refine xr_getI i_X5_readPlayer_81 xfe_X5_57 c11 (q := 84) rfl ?_
          obtain ⟨c12, h⟩ := xi_if_some h
          refine xr_putI i_X5_readPlayer_84 xfe_X5_9 c12 (q := 87) rfl ?_
          exact xr_return i_X5_readPlayer_87 rfl h
        · replace h := (if_neg c37).symm.trans h
          refine xr_if_icmp_eq_n i_X5_readPlayer_70 c37 (q := 79) t_X5_readPlayer_70 (q2 := 73) rfl ?_
          refine xr_iload_n i_X5_readPlayer_73 rfl (q := 74) rfl ?_
          refine xr_bipush i_X5_readPlayer_74 (q := 76) rfl ?_
          by_cases c36 : v2 < ((Int8.ofInt 6).toInt32)
          · replace h := (if_pos c36).symm.trans h
            refine xr_if_icmp_lt_p i_X5_readPlayer_76 c36 (q := 88) t_X5_readPlayer_76 (q2 := 79) rfl ?_
            refine xr_aload_n i_X5_readPlayer_88 rfl (q := 89) rfl ?_
            refine xr_dup_r i_X5_readPlayer_89 (q := 90) rfl ?_
            obtain ⟨c13, h⟩ := xi_if_some h
            refine xr_getI i_X5_readPlayer_90 xfe_X5_57 c13 (q := 93) rfl ?_
            refine xr_iconst i_X5_readPlayer_93 (q := 94) rfl ?_
            refine xr_iadd i_X5_readPlayer_94 (q := 95) rfl ?_
            obtain ⟨c14, h⟩ := xi_if_some h
            refine xr_putI i_X5_readPlayer_95 xfe_X5_57 c14 (q := 98) rfl ?_
            refine xr_aload_n i_X5_readPlayer_98 rfl (q := 99) rfl ?_
            obtain ⟨c15, h⟩ := xi_if_some h
            obtain ⟨b16, eb16, h⟩ := xi_bind_some h
            refine xr_getR i_X5_readPlayer_99 xfe_X5_73 c15 eb16 (q := 102) rfl ?_
            refine xr_iload_n i_X5_readPlayer_102 rfl (q := 103) rfl ?_
            refine xr_iload_n i_X5_readPlayer_103 rfl (q := 104) rfl ?_
            obtain ⟨c17, h⟩ := xi_if_some h
            refine xr_iastore i_X5_readPlayer_104 c17 (q := 105) rfl ?_
            refine xr_aload_n i_X5_readPlayer_105 rfl (q := 106) rfl ?_
            obtain ⟨c18, h⟩ := xi_if_some h
            obtain ⟨b19, eb19, h⟩ := xi_bind_some h
            refine xr_getR i_X5_readPlayer_106 xfe_X5_76 c18 eb19 (q := 109) rfl ?_
            refine xr_iload_n i_X5_readPlayer_109 rfl (q := 110) rfl ?_
            refine xr_aload_n i_X5_readPlayer_110 rfl (q := 111) rfl ?_
            refine xr_iconst i_X5_readPlayer_111 (q := 112) rfl ?_
            refine xr_iconst i_X5_readPlayer_112 (q := 113) rfl ?_
            obtain ⟨x21, m20, em20, h⟩ := xi_bI_some h
            refine xr_VI i_X5_readPlayer_113 xcve_X5_42 rfl (As := [.ref v0, .int (Int32.ofInt 0), .int (Int32.ofInt 1)]) rfl (rest := [.int v2, .ref b19]) rfl ((cc_X5_readPlayer_42 S _ _ _ _).trans em20) (q := 116) rfl ?_
            obtain ⟨c22, h⟩ := xi_if_some h
            refine xr_iastore i_X5_readPlayer_116 c22 (q := 117) rfl ?_
            refine xr_aload_n i_X5_readPlayer_117 rfl (q := 118) rfl ?_
            obtain ⟨c23, h⟩ := xi_if_some h
            obtain ⟨b24, eb24, h⟩ := xi_bind_some h
            refine xr_getR i_X5_readPlayer_118 xfe_X5_79 c23 eb24 (q := 121) rfl ?_
            refine xr_iload_n i_X5_readPlayer_121 rfl (q := 122) rfl ?_
            refine xr_aload_n i_X5_readPlayer_122 rfl (q := 123) rfl ?_
            refine xr_iconst i_X5_readPlayer_123 (q := 124) rfl ?_
            obtain ⟨x26, m25, em25, h⟩ := xi_bI_some h
            refine xr_VI i_X5_readPlayer_124 xcve_X5_53 rfl (As := [.ref v0, .int (Int32.ofInt 0)]) rfl (rest := [.int v2, .ref b24]) rfl ((cc_X5_readPlayer_53 S _ _ _).trans em25) (q := 127) rfl ?_
            obtain ⟨c27, h⟩ := xi_if_some h
            refine xr_iastore i_X5_readPlayer_127 c27 (q := 128) rfl ?_
            refine xr_aload_n i_X5_readPlayer_128 rfl (q := 129) rfl ?_
            obtain ⟨c28, h⟩ := xi_if_some h
            obtain ⟨b29, eb29, h⟩ := xi_bind_some h
            refine xr_getR i_X5_readPlayer_129 xfe_X5_82 c28 eb29 (q := 132) rfl ?_
            refine xr_iload_n i_X5_readPlayer_132 rfl (q := 133) rfl ?_
            refine xr_aload_n i_X5_readPlayer_133 rfl (q := 134) rfl ?_
            refine xr_iconst i_X5_readPlayer_134 (q := 135) rfl ?_
            refine xr_bipush i_X5_readPlayer_135 (q := 137) rfl ?_
            obtain ⟨x31, m30, em30, h⟩ := xi_bI_some h
            refine xr_VI i_X5_readPlayer_137 xcve_X5_42 rfl (As := [.ref v0, .int (Int32.ofInt 1), .int ((Int8.ofInt 9).toInt32)]) rfl (rest := [.int v2, .ref b29]) rfl ((cc_X5_readPlayer_42 S _ _ _ _).trans em30) (q := 140) rfl ?_
            obtain ⟨c32, h⟩ := xi_if_some h
            refine xr_iastore i_X5_readPlayer_140 c32 (q := 141) rfl ?_
            refine xr_aload_n i_X5_readPlayer_141 rfl (q := 142) rfl ?_
            refine xr_iload_n i_X5_readPlayer_142 rfl (q := 143) rfl ?_
            refine xr_iconst i_X5_readPlayer_143 (q := 144) rfl ?_
            refine xr_iadd i_X5_readPlayer_144 (q := 145) rfl ?_
            obtain ⟨c33, h⟩ := xi_if_some h
            refine xr_putI i_X5_readPlayer_145 xfe_X5_85 c33 (q := 148) rfl ?_
            exact xr_return i_X5_readPlayer_148 rfl h
          · replace h := (if_neg c36).symm.trans h
            refine xr_if_icmp_lt_n i_X5_readPlayer_76 c36 (q := 88) t_X5_readPlayer_76 (q2 := 79) rfl ?_
            refine xr_aload_n i_X5_readPlayer_79 rfl (q := 80) rfl ?_
            refine xr_aload_n i_X5_readPlayer_80 rfl (q := 81) rfl ?_
            obtain ⟨c34, h⟩ := xi_if_some h
            refine xr_getI i_X5_readPlayer_81 xfe_X5_57 c34 (q := 84) rfl ?_
            obtain ⟨c35, h⟩ := xi_if_some h
            refine xr_putI i_X5_readPlayer_84 xfe_X5_9 c35 (q := 87) rfl ?_
            exact xr_return i_X5_readPlayer_87 rfl h
      · replace h := (if_neg c73).symm.trans h
        refine xr_if_icmp_ge_n i_X5_readPlayer_43 c73 (q := 64) t_X5_readPlayer_43 (q2 := 46) rfl ?_
        refine xr_aload_n i_X5_readPlayer_46 rfl (q := 47) rfl ?_
        obtain ⟨c38, h⟩ := xi_if_some h
        obtain ⟨b39, eb39, h⟩ := xi_bind_some h
        refine xr_getR i_X5_readPlayer_47 xfe_X5_15 c38 eb39 (q := 50) rfl ?_
        obtain ⟨c40, h⟩ := xi_if_some h
        obtain ⟨b41, eb41, h⟩ := xi_bind_some h
        refine xr_getR i_X5_readPlayer_50 xfe_X5_65 c40 eb41 (q := 53) rfl ?_
        refine xr_aload_n i_X5_readPlayer_53 rfl (q := 54) rfl ?_
        obtain ⟨c42, h⟩ := xi_if_some h
        refine xr_getI i_X5_readPlayer_54 xfe_X5_57 c42 (q := 57) rfl ?_
        obtain ⟨c43, h⟩ := xi_if_some h
        refine xr_iaload i_X5_readPlayer_57 c43 (q := 58) rfl ?_
        obtain ⟨x45, m44, em44, h⟩ := xi_bI_some h
        refine xr_SI i_X5_readPlayer_58 xcse_X5_68 rfl (As := [.int (m1.1 b41 (Int32.toNatClampNeg (m1.1 v0 1)))]) rfl (rest := []) rfl ((cc_X5_readPlayer_68 S _ _).trans em44) (q := 61) rfl ?_
        refine xr_goto i_X5_readPlayer_61 (q := 66) t_X5_readPlayer_61 ?_
        refine xr_istore_n i_X5_readPlayer_66 rfl (L2 := [some (.ref v0), some (.ref v1), some (.int v2), some (.int x45)]) rfl (q := 67) rfl ?_
        refine xr_iload_n i_X5_readPlayer_67 rfl (q := 68) rfl ?_
        refine xr_bipush i_X5_readPlayer_68 (q := 70) rfl ?_
        by_cases c72 : x45 = ((Int8.ofInt (-9)).toInt32)
        · replace h := (if_pos c72).symm.trans h
          refine xr_if_icmp_eq_p i_X5_readPlayer_70 c72 (q := 79) t_X5_readPlayer_70 (q2 := 73) rfl ?_
          refine xr_aload_n i_X5_readPlayer_79 rfl (q := 80) rfl ?_
          refine xr_aload_n i_X5_readPlayer_80 rfl (q := 81) rfl ?_
          obtain ⟨c46, h⟩ := xi_if_some h
          refine xr_getI i_X5_readPlayer_81 xfe_X5_57 c46 (q := 84) rfl ?_
          obtain ⟨c47, h⟩ := xi_if_some h
          refine xr_putI i_X5_readPlayer_84 xfe_X5_9 c47 (q := 87) rfl ?_
          exact xr_return i_X5_readPlayer_87 rfl h
        · replace h := (if_neg c72).symm.trans h
          refine xr_if_icmp_eq_n i_X5_readPlayer_70 c72 (q := 79) t_X5_readPlayer_70 (q2 := 73) rfl ?_
          refine xr_iload_n i_X5_readPlayer_73 rfl (q := 74) rfl ?_
          refine xr_bipush i_X5_readPlayer_74 (q := 76) rfl ?_
          by_cases c71 : v2 < ((Int8.ofInt 6).toInt32)
          · replace h := (if_pos c71).symm.trans h
            refine xr_if_icmp_lt_p i_X5_readPlayer_76 c71 (q := 88) t_X5_readPlayer_76 (q2 := 79) rfl ?_
            refine xr_aload_n i_X5_readPlayer_88 rfl (q := 89) rfl ?_
            refine xr_dup_r i_X5_readPlayer_89 (q := 90) rfl ?_
            obtain ⟨c48, h⟩ := xi_if_some h
            refine xr_getI i_X5_readPlayer_90 xfe_X5_57 c48 (q := 93) rfl ?_
            refine xr_iconst i_X5_readPlayer_93 (q := 94) rfl ?_
            refine xr_iadd i_X5_readPlayer_94 (q := 95) rfl ?_
            obtain ⟨c49, h⟩ := xi_if_some h
            refine xr_putI i_X5_readPlayer_95 xfe_X5_57 c49 (q := 98) rfl ?_
            refine xr_aload_n i_X5_readPlayer_98 rfl (q := 99) rfl ?_
            obtain ⟨c50, h⟩ := xi_if_some h
            obtain ⟨b51, eb51, h⟩ := xi_bind_some h
            refine xr_getR i_X5_readPlayer_99 xfe_X5_73 c50 eb51 (q := 102) rfl ?_
            refine xr_iload_n i_X5_readPlayer_102 rfl (q := 103) rfl ?_
            refine xr_iload_n i_X5_readPlayer_103 rfl (q := 104) rfl ?_
            obtain ⟨c52, h⟩ := xi_if_some h
            refine xr_iastore i_X5_readPlayer_104 c52 (q := 105) rfl ?_
            refine xr_aload_n i_X5_readPlayer_105 rfl (q := 106) rfl ?_
            obtain ⟨c53, h⟩ := xi_if_some h
            obtain ⟨b54, eb54, h⟩ := xi_bind_some h
            refine xr_getR i_X5_readPlayer_106 xfe_X5_76 c53 eb54 (q := 109) rfl ?_
            refine xr_iload_n i_X5_readPlayer_109 rfl (q := 110) rfl ?_
            refine xr_aload_n i_X5_readPlayer_110 rfl (q := 111) rfl ?_
            refine xr_iconst i_X5_readPlayer_111 (q := 112) rfl ?_
            refine xr_iconst i_X5_readPlayer_112 (q := 113) rfl ?_
            obtain ⟨x56, m55, em55, h⟩ := xi_bI_some h
            refine xr_VI i_X5_readPlayer_113 xcve_X5_42 rfl (As := [.ref v0, .int (Int32.ofInt 0), .int (Int32.ofInt 1)]) rfl (rest := [.int v2, .ref b54]) rfl ((cc_X5_readPlayer_42 S _ _ _ _).trans em55) (q := 116) rfl ?_
            obtain ⟨c57, h⟩ := xi_if_some h
            refine xr_iastore i_X5_readPlayer_116 c57 (q := 117) rfl ?_
            refine xr_aload_n i_X5_readPlayer_117 rfl (q := 118) rfl ?_
            obtain ⟨c58, h⟩ := xi_if_some h
            obtain ⟨b59, eb59, h⟩ := xi_bind_some h
            refine xr_getR i_X5_readPlayer_118 xfe_X5_79 c58 eb59 (q := 121) rfl ?_
            refine xr_iload_n i_X5_readPlayer_121 rfl (q := 122) rfl ?_
            refine xr_aload_n i_X5_readPlayer_122 rfl (q := 123) rfl ?_
            refine xr_iconst i_X5_readPlayer_123 (q := 124) rfl ?_
            obtain ⟨x61, m60, em60, h⟩ := xi_bI_some h
            refine xr_VI i_X5_readPlayer_124 xcve_X5_53 rfl (As := [.ref v0, .int (Int32.ofInt 0)]) rfl (rest := [.int v2, .ref b59]) rfl ((cc_X5_readPlayer_53 S _ _ _).trans em60) (q := 127) rfl ?_
            obtain ⟨c62, h⟩ := xi_if_some h
            refine xr_iastore i_X5_readPlayer_127 c62 (q := 128) rfl ?_
            refine xr_aload_n i_X5_readPlayer_128 rfl (q := 129) rfl ?_
            obtain ⟨c63, h⟩ := xi_if_some h
            obtain ⟨b64, eb64, h⟩ := xi_bind_some h
            refine xr_getR i_X5_readPlayer_129 xfe_X5_82 c63 eb64 (q := 132) rfl ?_
            refine xr_iload_n i_X5_readPlayer_132 rfl (q := 133) rfl ?_
            refine xr_aload_n i_X5_readPlayer_133 rfl (q := 134) rfl ?_
            refine xr_iconst i_X5_readPlayer_134 (q := 135) rfl ?_
            refine xr_bipush i_X5_readPlayer_135 (q := 137) rfl ?_
            obtain ⟨x66, m65, em65, h⟩ := xi_bI_some h
            refine xr_VI i_X5_readPlayer_137 xcve_X5_42 rfl (As := [.ref v0, .int (Int32.ofInt 1), .int ((Int8.ofInt 9).toInt32)]) rfl (rest := [.int v2, .ref b64]) rfl ((cc_X5_readPlayer_42 S _ _ _ _).trans em65) (q := 140) rfl ?_
            obtain ⟨c67, h⟩ := xi_if_some h
            refine xr_iastore i_X5_readPlayer_140 c67 (q := 141) rfl ?_
            refine xr_aload_n i_X5_readPlayer_141 rfl (q := 142) rfl ?_
            refine xr_iload_n i_X5_readPlayer_142 rfl (q := 143) rfl ?_
            refine xr_iconst i_X5_readPlayer_143 (q := 144) rfl ?_
            refine xr_iadd i_X5_readPlayer_144 (q := 145) rfl ?_
            obtain ⟨c68, h⟩ := xi_if_some h
            refine xr_putI i_X5_readPlayer_145 xfe_X5_85 c68 (q := 148) rfl ?_
            exact xr_return i_X5_readPlayer_148 rfl h
          · replace h := (if_neg c71).symm.trans h
            refine xr_if_icmp_lt_n i_X5_readPlayer_76 c71 (q := 88) t_X5_readPlayer_76 (q2 := 79) rfl ?_
            refine xr_aload_n i_X5_readPlayer_79 rfl (q := 80) rfl ?_
            refine xr_aload_n i_X5_readPlayer_80 rfl (q := 81) rfl ?_
            obtain ⟨c69, h⟩ := xi_if_some h
            refine xr_getI i_X5_readPlayer_81 xfe_X5_57 c69 (q := 84) rfl ?_
            obtain ⟨c70, h⟩ := xi_if_some h
            refine xr_putI i_X5_readPlayer_84 xfe_X5_9 c70 (q := 87) rfl ?_
            exact xr_return i_X5_readPlayer_87 rfl h
    · replace h := (if_neg c142).symm.trans h
      refine xr_if_icmp_lt_n i_X5_readPlayer_24 c142 (q := 32) t_X5_readPlayer_24 (q2 := 27) rfl ?_
      refine xr_iload_n i_X5_readPlayer_27 rfl (q := 28) rfl ?_
      by_cases c141 : v2 ≤ 0
      · replace h := (if_pos c141).symm.trans h
        refine xr_ifCond_le_p i_X5_readPlayer_28 c141 (q := 32) t_X5_readPlayer_28 (q2 := 31) rfl ?_
        refine xr_aload_n i_X5_readPlayer_32 rfl (q := 33) rfl ?_
        obtain ⟨c74, h⟩ := xi_if_some h
        refine xr_getI i_X5_readPlayer_33 xfe_X5_57 c74 (q := 36) rfl ?_
        refine xr_aload_n i_X5_readPlayer_36 rfl (q := 37) rfl ?_
        obtain ⟨c75, h⟩ := xi_if_some h
        obtain ⟨b76, eb76, h⟩ := xi_bind_some h
        refine xr_getR i_X5_readPlayer_37 xfe_X5_15 c75 eb76 (q := 40) rfl ?_
        obtain ⟨c77, h⟩ := xi_if_some h
        refine xr_getI i_X5_readPlayer_40 xfe_X5_60 c77 (q := 43) rfl ?_
        by_cases c140 : (m1.1 b76 1) ≤ (m1.1 v0 1)
        · replace h := (if_pos c140).symm.trans h
          refine xr_if_icmp_ge_p i_X5_readPlayer_43 c140 (q := 64) t_X5_readPlayer_43 (q2 := 46) rfl ?_
          refine xr_bipush i_X5_readPlayer_64 (q := 66) rfl ?_
          refine xr_istore_n i_X5_readPlayer_66 rfl (L2 := [some (.ref v0), some (.ref v1), some (.int v2), some (.int ((Int8.ofInt (-9)).toInt32))]) rfl (q := 67) rfl ?_
          refine xr_iload_n i_X5_readPlayer_67 rfl (q := 68) rfl ?_
          refine xr_bipush i_X5_readPlayer_68 (q := 70) rfl ?_
          by_cases c104 : ((Int8.ofInt (-9)).toInt32) = ((Int8.ofInt (-9)).toInt32)
          · replace h := (if_pos c104).symm.trans h
            refine xr_if_icmp_eq_p i_X5_readPlayer_70 c104 (q := 79) t_X5_readPlayer_70 (q2 := 73) rfl ?_
            refine xr_aload_n i_X5_readPlayer_79 rfl (q := 80) rfl ?_
            refine xr_aload_n i_X5_readPlayer_80 rfl (q := 81) rfl ?_
            obtain ⟨c78, h⟩ := xi_if_some h
            refine xr_getI i_X5_readPlayer_81 xfe_X5_57 c78 (q := 84) rfl ?_
            obtain ⟨c79, h⟩ := xi_if_some h
            refine xr_putI i_X5_readPlayer_84 xfe_X5_9 c79 (q := 87) rfl ?_
            exact xr_return i_X5_readPlayer_87 rfl h
          · replace h := (if_neg c104).symm.trans h
            refine xr_if_icmp_eq_n i_X5_readPlayer_70 c104 (q := 79) t_X5_readPlayer_70 (q2 := 73) rfl ?_
            refine xr_iload_n i_X5_readPlayer_73 rfl (q := 74) rfl ?_
            refine xr_bipush i_X5_readPlayer_74 (q := 76) rfl ?_
            by_cases c103 : v2 < ((Int8.ofInt 6).toInt32)
            · replace h := (if_pos c103).symm.trans h
              refine xr_if_icmp_lt_p i_X5_readPlayer_76 c103 (q := 88) t_X5_readPlayer_76 (q2 := 79) rfl ?_
              refine xr_aload_n i_X5_readPlayer_88 rfl (q := 89) rfl ?_
              refine xr_dup_r i_X5_readPlayer_89 (q := 90) rfl ?_
              obtain ⟨c80, h⟩ := xi_if_some h
              refine xr_getI i_X5_readPlayer_90 xfe_X5_57 c80 (q := 93) rfl ?_
              refine xr_iconst i_X5_readPlayer_93 (q := 94) rfl ?_
              refine xr_iadd i_X5_readPlayer_94 (q := 95) rfl ?_
              obtain ⟨c81, h⟩ := xi_if_some h
              refine xr_putI i_X5_readPlayer_95 xfe_X5_57 c81 (q := 98) rfl ?_
              refine xr_aload_n i_X5_readPlayer_98 rfl (q := 99) rfl ?_
              obtain ⟨c82, h⟩ := xi_if_some h
              obtain ⟨b83, eb83, h⟩ := xi_bind_some h
              refine xr_getR i_X5_readPlayer_99 xfe_X5_73 c82 eb83 (q := 102) rfl ?_
              refine xr_iload_n i_X5_readPlayer_102 rfl (q := 103) rfl ?_
              refine xr_iload_n i_X5_readPlayer_103 rfl (q := 104) rfl ?_
              obtain ⟨c84, h⟩ := xi_if_some h
              refine xr_iastore i_X5_readPlayer_104 c84 (q := 105) rfl ?_
              refine xr_aload_n i_X5_readPlayer_105 rfl (q := 106) rfl ?_
              obtain ⟨c85, h⟩ := xi_if_some h
              obtain ⟨b86, eb86, h⟩ := xi_bind_some h
              refine xr_getR i_X5_readPlayer_106 xfe_X5_76 c85 eb86 (q := 109) rfl ?_
              refine xr_iload_n i_X5_readPlayer_109 rfl (q := 110) rfl ?_
              refine xr_aload_n i_X5_readPlayer_110 rfl (q := 111) rfl ?_
              refine xr_iconst i_X5_readPlayer_111 (q := 112) rfl ?_
              refine xr_iconst i_X5_readPlayer_112 (q := 113) rfl ?_
              obtain ⟨x88, m87, em87, h⟩ := xi_bI_some h
              refine xr_VI i_X5_readPlayer_113 xcve_X5_42 rfl (As := [.ref v0, .int (Int32.ofInt 0), .int (Int32.ofInt 1)]) rfl (rest := [.int v2, .ref b86]) rfl ((cc_X5_readPlayer_42 S _ _ _ _).trans em87) (q := 116) rfl ?_
              obtain ⟨c89, h⟩ := xi_if_some h
              refine xr_iastore i_X5_readPlayer_116 c89 (q := 117) rfl ?_
              refine xr_aload_n i_X5_readPlayer_117 rfl (q := 118) rfl ?_
              obtain ⟨c90, h⟩ := xi_if_some h
              obtain ⟨b91, eb91, h⟩ := xi_bind_some h
              refine xr_getR i_X5_readPlayer_118 xfe_X5_79 c90 eb91 (q := 121) rfl ?_
              refine xr_iload_n i_X5_readPlayer_121 rfl (q := 122) rfl ?_
              refine xr_aload_n i_X5_readPlayer_122 rfl (q := 123) rfl ?_
              refine xr_iconst i_X5_readPlayer_123 (q := 124) rfl ?_
              obtain ⟨x93, m92, em92, h⟩ := xi_bI_some h
              refine xr_VI i_X5_readPlayer_124 xcve_X5_53 rfl (As := [.ref v0, .int (Int32.ofInt 0)]) rfl (rest := [.int v2, .ref b91]) rfl ((cc_X5_readPlayer_53 S _ _ _).trans em92) (q := 127) rfl ?_
              obtain ⟨c94, h⟩ := xi_if_some h
              refine xr_iastore i_X5_readPlayer_127 c94 (q := 128) rfl ?_
              refine xr_aload_n i_X5_readPlayer_128 rfl (q := 129) rfl ?_
              obtain ⟨c95, h⟩ := xi_if_some h
              obtain ⟨b96, eb96, h⟩ := xi_bind_some h
              refine xr_getR i_X5_readPlayer_129 xfe_X5_82 c95 eb96 (q := 132) rfl ?_
              refine xr_iload_n i_X5_readPlayer_132 rfl (q := 133) rfl ?_
              refine xr_aload_n i_X5_readPlayer_133 rfl (q := 134) rfl ?_
              refine xr_iconst i_X5_readPlayer_134 (q := 135) rfl ?_
              refine xr_bipush i_X5_readPlayer_135 (q := 137) rfl ?_
              obtain ⟨x98, m97, em97, h⟩ := xi_bI_some h
              refine xr_VI i_X5_readPlayer_137 xcve_X5_42 rfl (As := [.ref v0, .int (Int32.ofInt 1), .int ((Int8.ofInt 9).toInt32)]) rfl (rest := [.int v2, .ref b96]) rfl ((cc_X5_readPlayer_42 S _ _ _ _).trans em97) (q := 140) rfl ?_
              obtain ⟨c99, h⟩ := xi_if_some h
              refine xr_iastore i_X5_readPlayer_140 c99 (q := 141) rfl ?_
              refine xr_aload_n i_X5_readPlayer_141 rfl (q := 142) rfl ?_
              refine xr_iload_n i_X5_readPlayer_142 rfl (q := 143) rfl ?_
              refine xr_iconst i_X5_readPlayer_143 (q := 144) rfl ?_
              refine xr_iadd i_X5_readPlayer_144 (q := 145) rfl ?_
              obtain ⟨c100, h⟩ := xi_if_some h
              refine xr_putI i_X5_readPlayer_145 xfe_X5_85 c100 (q := 148) rfl ?_
              exact xr_return i_X5_readPlayer_148 rfl h
            · replace h := (if_neg c103).symm.trans h
              refine xr_if_icmp_lt_n i_X5_readPlayer_76 c103 (q := 88) t_X5_readPlayer_76 (q2 := 79) rfl ?_
              refine xr_aload_n i_X5_readPlayer_79 rfl (q := 80) rfl ?_
              refine xr_aload_n i_X5_readPlayer_80 rfl (q := 81) rfl ?_
              obtain ⟨c101, h⟩ := xi_if_some h
              refine xr_getI i_X5_readPlayer_81 xfe_X5_57 c101 (q := 84) rfl ?_
              obtain ⟨c102, h⟩ := xi_if_some h
              refine xr_putI i_X5_readPlayer_84 xfe_X5_9 c102 (q := 87) rfl ?_
              exact xr_return i_X5_readPlayer_87 rfl h
        · replace h := (if_neg c140).symm.trans h
          refine xr_if_icmp_ge_n i_X5_readPlayer_43 c140 (q := 64) t_X5_readPlayer_43 (q2 := 46) rfl ?_
          refine xr_aload_n i_X5_readPlayer_46 rfl (q := 47) rfl ?_
          obtain ⟨c105, h⟩ := xi_if_some h
          obtain ⟨b106, eb106, h⟩ := xi_bind_some h
          refine xr_getR i_X5_readPlayer_47 xfe_X5_15 c105 eb106 (q := 50) rfl ?_
          obtain ⟨c107, h⟩ := xi_if_some h
          obtain ⟨b108, eb108, h⟩ := xi_bind_some h
          refine xr_getR i_X5_readPlayer_50 xfe_X5_65 c107 eb108 (q := 53) rfl ?_
          refine xr_aload_n i_X5_readPlayer_53 rfl (q := 54) rfl ?_
          obtain ⟨c109, h⟩ := xi_if_some h
          refine xr_getI i_X5_readPlayer_54 xfe_X5_57 c109 (q := 57) rfl ?_
          obtain ⟨c110, h⟩ := xi_if_some h
          refine xr_iaload i_X5_readPlayer_57 c110 (q := 58) rfl ?_
          obtain ⟨x112, m111, em111, h⟩ := xi_bI_some h
          refine xr_SI i_X5_readPlayer_58 xcse_X5_68 rfl (As := [.int (m1.1 b108 (Int32.toNatClampNeg (m1.1 v0 1)))]) rfl (rest := []) rfl ((cc_X5_readPlayer_68 S _ _).trans em111) (q := 61) rfl ?_
          refine xr_goto i_X5_readPlayer_61 (q := 66) t_X5_readPlayer_61 ?_
          refine xr_istore_n i_X5_readPlayer_66 rfl (L2 := [some (.ref v0), some (.ref v1), some (.int v2), some (.int x112)]) rfl (q := 67) rfl ?_
          refine xr_iload_n i_X5_readPlayer_67 rfl (q := 68) rfl ?_
          refine xr_bipush i_X5_readPlayer_68 (q := 70) rfl ?_
          by_cases c139 : x112 = ((Int8.ofInt (-9)).toInt32)
          · replace h := (if_pos c139).symm.trans h
            refine xr_if_icmp_eq_p i_X5_readPlayer_70 c139 (q := 79) t_X5_readPlayer_70 (q2 := 73) rfl ?_
            refine xr_aload_n i_X5_readPlayer_79 rfl (q := 80) rfl ?_
            refine xr_aload_n i_X5_readPlayer_80 rfl (q := 81) rfl ?_
            obtain ⟨c113, h⟩ := xi_if_some h
            refine xr_getI i_X5_readPlayer_81 xfe_X5_57 c113 (q := 84) rfl ?_
            obtain ⟨c114, h⟩ := xi_if_some h
            refine xr_putI i_X5_readPlayer_84 xfe_X5_9 c114 (q := 87) rfl ?_
            exact xr_return i_X5_readPlayer_87 rfl h
          · replace h := (if_neg c139).symm.trans h
            refine xr_if_icmp_eq_n i_X5_readPlayer_70 c139 (q := 79) t_X5_readPlayer_70 (q2 := 73) rfl ?_
            refine xr_iload_n i_X5_readPlayer_73 rfl (q := 74) rfl ?_
            refine xr_bipush i_X5_readPlayer_74 (q := 76) rfl ?_
            by_cases c138 : v2 < ((Int8.ofInt 6).toInt32)
            · replace h := (if_pos c138).symm.trans h
              refine xr_if_icmp_lt_p i_X5_readPlayer_76 c138 (q := 88) t_X5_readPlayer_76 (q2 := 79) rfl ?_
              refine xr_aload_n i_X5_readPlayer_88 rfl (q := 89) rfl ?_
              refine xr_dup_r i_X5_readPlayer_89 (q := 90) rfl ?_
              obtain ⟨c115, h⟩ := xi_if_some h
              refine xr_getI i_X5_readPlayer_90 xfe_X5_57 c115 (q := 93) rfl ?_
              refine xr_iconst i_X5_readPlayer_93 (q := 94) rfl ?_
              refine xr_iadd i_X5_readPlayer_94 (q := 95) rfl ?_
              obtain ⟨c116, h⟩ := xi_if_some h
              refine xr_putI i_X5_readPlayer_95 xfe_X5_57 c116 (q := 98) rfl ?_
              refine xr_aload_n i_X5_readPlayer_98 rfl (q := 99) rfl ?_
              obtain ⟨c117, h⟩ := xi_if_some h
              obtain ⟨b118, eb118, h⟩ := xi_bind_some h
              refine xr_getR i_X5_readPlayer_99 xfe_X5_73 c117 eb118 (q := 102) rfl ?_
              refine xr_iload_n i_X5_readPlayer_102 rfl (q := 103) rfl ?_
              refine xr_iload_n i_X5_readPlayer_103 rfl (q := 104) rfl ?_
              obtain ⟨c119, h⟩ := xi_if_some h
              refine xr_iastore i_X5_readPlayer_104 c119 (q := 105) rfl ?_
              refine xr_aload_n i_X5_readPlayer_105 rfl (q := 106) rfl ?_
              obtain ⟨c120, h⟩ := xi_if_some h
              obtain ⟨b121, eb121, h⟩ := xi_bind_some h
              refine xr_getR i_X5_readPlayer_106 xfe_X5_76 c120 eb121 (q := 109) rfl ?_
              refine xr_iload_n i_X5_readPlayer_109 rfl (q := 110) rfl ?_
              refine xr_aload_n i_X5_readPlayer_110 rfl (q := 111) rfl ?_
              refine xr_iconst i_X5_readPlayer_111 (q := 112) rfl ?_
              refine xr_iconst i_X5_readPlayer_112 (q := 113) rfl ?_
              obtain ⟨x123, m122, em122, h⟩ := xi_bI_some h
              refine xr_VI i_X5_readPlayer_113 xcve_X5_42 rfl (As := [.ref v0, .int (Int32.ofInt 0), .int (Int32.ofInt 1)]) rfl (rest := [.int v2, .ref b121]) rfl ((cc_X5_readPlayer_42 S _ _ _ _).trans em122) (q := 116) rfl ?_
              obtain ⟨c124, h⟩ := xi_if_some h
              refine xr_iastore i_X5_readPlayer_116 c124 (q := 117) rfl ?_
              refine xr_aload_n i_X5_readPlayer_117 rfl (q := 118) rfl ?_
              obtain ⟨c125, h⟩ := xi_if_some h
              obtain ⟨b126, eb126, h⟩ := xi_bind_some h
              refine xr_getR i_X5_readPlayer_118 xfe_X5_79 c125 eb126 (q := 121) rfl ?_
              refine xr_iload_n i_X5_readPlayer_121 rfl (q := 122) rfl ?_
              refine xr_aload_n i_X5_readPlayer_122 rfl (q := 123) rfl ?_
              refine xr_iconst i_X5_readPlayer_123 (q := 124) rfl ?_
              obtain ⟨x128, m127, em127, h⟩ := xi_bI_some h
              refine xr_VI i_X5_readPlayer_124 xcve_X5_53 rfl (As := [.ref v0, .int (Int32.ofInt 0)]) rfl (rest := [.int v2, .ref b126]) rfl ((cc_X5_readPlayer_53 S _ _ _).trans em127) (q := 127) rfl ?_
              obtain ⟨c129, h⟩ := xi_if_some h
              refine xr_iastore i_X5_readPlayer_127 c129 (q := 128) rfl ?_
              refine xr_aload_n i_X5_readPlayer_128 rfl (q := 129) rfl ?_
              obtain ⟨c130, h⟩ := xi_if_some h
              obtain ⟨b131, eb131, h⟩ := xi_bind_some h
              refine xr_getR i_X5_readPlayer_129 xfe_X5_82 c130 eb131 (q := 132) rfl ?_
              refine xr_iload_n i_X5_readPlayer_132 rfl (q := 133) rfl ?_
              refine xr_aload_n i_X5_readPlayer_133 rfl (q := 134) rfl ?_
              refine xr_iconst i_X5_readPlayer_134 (q := 135) rfl ?_
              refine xr_bipush i_X5_readPlayer_135 (q := 137) rfl ?_
              obtain ⟨x133, m132, em132, h⟩ := xi_bI_some h
              refine xr_VI i_X5_readPlayer_137 xcve_X5_42 rfl (As := [.ref v0, .int (Int32.ofInt 1), .int ((Int8.ofInt 9).toInt32)]) rfl (rest := [.int v2, .ref b131]) rfl ((cc_X5_readPlayer_42 S _ _ _ _).trans em132) (q := 140) rfl ?_
              obtain ⟨c134, h⟩ := xi_if_some h
              refine xr_iastore i_X5_readPlayer_140 c134 (q := 141) rfl ?_
              refine xr_aload_n i_X5_readPlayer_141 rfl (q := 142) rfl ?_
              refine xr_iload_n i_X5_readPlayer_142 rfl (q := 143) rfl ?_
              refine xr_iconst i_X5_readPlayer_143 (q := 144) rfl ?_
              refine xr_iadd i_X5_readPlayer_144 (q := 145) rfl ?_
              obtain ⟨c135, h⟩ := xi_if_some h
              refine xr_putI i_X5_readPlayer_145 xfe_X5_85 c135 (q := 148) rfl ?_
              exact xr_return i_X5_readPlayer_148 rfl h
            · replace h := (if_neg c138).symm.trans h
              refine xr_if_icmp_lt_n i_X5_readPlayer_76 c138 (q := 88) t_X5_readPlayer_76 (q2 := 79) rfl ?_
              refine xr_aload_n i_X5_readPlayer_79 rfl (q := 80) rfl ?_
              refine xr_aload_n i_X5_readPlayer_80 rfl (q := 81) rfl ?_
              obtain ⟨c136, h⟩ := xi_if_some h
              refine xr_getI i_X5_readPlayer_81 xfe_X5_57 c136 (q := 84) rfl ?_
              obtain ⟨c137, h⟩ := xi_if_some h
              refine xr_putI i_X5_readPlayer_84 xfe_X5_9 c137 (q := 87) rfl ?_
              exact xr_return i_X5_readPlayer_87 rfl h
      · replace h := (if_neg c141).symm.trans h
        refine xr_ifCond_le_n i_X5_readPlayer_28 c141 (q := 32) t_X5_readPlayer_28 (q2 := 31) rfl ?_
        exact xr_return i_X5_readPlayer_31 rfl h
  · replace h := (if_neg c143).symm.trans h
    refine xr_if_icmp_ne_n i_X5_readPlayer_10 c143 (q := 31) t_X5_readPlayer_10 (q2 := 13) rfl ?_
    exact xr_return i_X5_readPlayer_31 rfl h
set_option maxRecDepth 100000 in
theorem po_X5_readPlayer {l : Launch} {E : xi_E} {S : xi_S} {D : va_G} {tys : List (ClassId × FieldType)} (hC : xCx E S tys) : xi_Pok l E S D vwCl tys xNs RX5 xTs cX5_readPlayer 4 2 (P_X5_readPlayer S) := ⟨xi_dc_ok, by rw [hC.2]; exact xfo_X5, xkio_X5, xklo_X5, xi_calls_ok (ins := .invokestatic) (List.forall_mem_cons.mpr ⟨(xc_X5_68 (sn_X4_ofLetter hC) (by decide)), fun _ h => absurd h List.not_mem_nil⟩), xi_calls_ok (ins := .invokevirtual) (List.forall_mem_cons.mpr ⟨(xc_X5_35 hC.1 (sn_X5_skipBlanks hC) (by decide)), List.forall_mem_cons.mpr ⟨(xc_X5_42 hC.1 (sn_X5_figure hC) (by decide)), List.forall_mem_cons.mpr ⟨(xc_X5_53 hC.1 (sn_X5_twoFigures hC) (by decide)), fun _ h => absurd h List.not_mem_nil⟩⟩⟩)⟩
theorem sn_X5_readPlayer {l : Launch} {E : xi_E} {S : xi_S} {D : va_G} {tys : List (ClassId × FieldType)} (hC : xCx E S tys) : ∀ As m1 r m2, F_X5_readPlayer S As m1 = some (r, m2) → xi_Sound l E S D vwCl tys xNs xTs yX5_readPlayer cX5_readPlayer 4 none 2 As m1 r m2 := by
  intro As m1 r m2 h
  unfold F_X5_readPlayer at h
  split at h
  · exact xi_meth (P := P_X5_readPlayer S) (by decide) hC.1 (po_X5_readPlayer hC) (Nat.le_of_ble_eq_true rfl) rfl (xe_X5_readPlayer _ _ _ _ h)
  · exact xi_no h
theorem i_X5_read_0 : xi_dc cX5_read 0 = some (.aload_n 1, 1) := by decide +kernel
theorem i_X5_read_1 : xi_dc cX5_read 1 = some (.invokevirtual 19, 3) := by decide +kernel
theorem i_X5_read_4 : xi_dc cX5_read 4 = some (.aload_n 0, 1) := by decide +kernel
theorem i_X5_read_5 : xi_dc cX5_read 5 = some (.aload_n 1, 1) := by decide +kernel
theorem i_X5_read_6 : xi_dc cX5_read 6 = some (.invokevirtual 24, 3) := by decide +kernel
theorem i_X5_read_9 : xi_dc cX5_read 9 = some (.iconst 0, 1) := by decide +kernel
theorem i_X5_read_10 : xi_dc cX5_read 10 = some (.istore_n 2, 1) := by decide +kernel
theorem i_X5_read_11 : xi_dc cX5_read 11 = some (.iload_n 2, 1) := by decide +kernel
theorem i_X5_read_12 : xi_dc cX5_read 12 = some (.iconst 4, 1) := by decide +kernel
theorem i_X5_read_13 : xi_dc cX5_read 13 = some (.if_icmp .ge 15, 3) := by decide +kernel
theorem t_X5_read_13 : ((13 : Nat) : Int) + 15 = ((28 : Nat) : Int) := by decide +kernel
theorem i_X5_read_16 : xi_dc cX5_read 16 = some (.aload_n 0, 1) := by decide +kernel
theorem i_X5_read_17 : xi_dc cX5_read 17 = some (.aload_n 1, 1) := by decide +kernel
theorem i_X5_read_18 : xi_dc cX5_read 18 = some (.iload_n 2, 1) := by decide +kernel
theorem i_X5_read_19 : xi_dc cX5_read 19 = some (.invokevirtual 28, 3) := by decide +kernel
theorem i_X5_read_22 : xi_dc cX5_read 22 = some (.iinc 2 1, 3) := by decide +kernel
theorem i_X5_read_25 : xi_dc cX5_read 25 = some (.goto (-14), 3) := by decide +kernel
theorem t_X5_read_25 : ((25 : Nat) : Int) + (-14) = ((11 : Nat) : Int) := by decide +kernel
theorem i_X5_read_28 : xi_dc cX5_read 28 = some (.iconst 0, 1) := by decide +kernel
theorem i_X5_read_29 : xi_dc cX5_read 29 = some (.istore_n 2, 1) := by decide +kernel
theorem i_X5_read_30 : xi_dc cX5_read 30 = some (.iload_n 2, 1) := by decide +kernel
theorem i_X5_read_31 : xi_dc cX5_read 31 = some (.bipush 6, 2) := by decide +kernel
theorem i_X5_read_33 : xi_dc cX5_read 33 = some (.if_icmp .gt 15, 3) := by decide +kernel
theorem t_X5_read_33 : ((33 : Nat) : Int) + 15 = ((48 : Nat) : Int) := by decide +kernel
theorem i_X5_read_36 : xi_dc cX5_read 36 = some (.aload_n 0, 1) := by decide +kernel
theorem i_X5_read_37 : xi_dc cX5_read 37 = some (.aload_n 1, 1) := by decide +kernel
theorem i_X5_read_38 : xi_dc cX5_read 38 = some (.iload_n 2, 1) := by decide +kernel
theorem i_X5_read_39 : xi_dc cX5_read 39 = some (.invokevirtual 32, 3) := by decide +kernel
theorem i_X5_read_42 : xi_dc cX5_read 42 = some (.iinc 2 1, 3) := by decide +kernel
theorem i_X5_read_45 : xi_dc cX5_read 45 = some (.goto (-15), 3) := by decide +kernel
theorem t_X5_read_45 : ((45 : Nat) : Int) + (-15) = ((30 : Nat) : Int) := by decide +kernel
theorem i_X5_read_48 : xi_dc cX5_read 48 = some (.aload_n 0, 1) := by decide +kernel
theorem i_X5_read_49 : xi_dc cX5_read 49 = some (.getfield 9, 3) := by decide +kernel
theorem i_X5_read_52 : xi_dc cX5_read 52 = some (.ireturn, 1) := by decide +kernel
def P_X5_read (S : xi_S) : xi_P := (xi_dc cX5_read, xi_tab xfl_X5, xi_tab xki_X5, xi_tab xkl_X5, xi_tab xcs_X5, xi_tab xcv_X5, xi_calls [], xi_calls [(19, xi_wV S 8 0 (F_X6_clear S)), (24, xi_wV S 7 1 (F_X5_readSchool S)), (28, xi_wV S 7 2 (F_X5_readCoat S)), (32, xi_wV S 7 2 (F_X5_readPlayer S))], 1)
theorem cc_X5_read_19 (S : xi_S) (a0 : Nat) (m : xi_M) : (P_X5_read S).2.2.2.2.2.2.2.1 19 [.ref a0] m = (if S.1 a0 = 8 then E_X6_clear S a0 m else none) := by
  show xi_calls [(19, xi_wV S 8 0 (F_X6_clear S)), (24, xi_wV S 7 1 (F_X5_readSchool S)), (28, xi_wV S 7 2 (F_X5_readCoat S)), (32, xi_wV S 7 2 (F_X5_readPlayer S))] 19 [.ref a0] m = _
  refine Eq.trans (b := xi_wV S 8 0 (F_X6_clear S) [.ref a0] m) (xi_calls_hit rfl) ?_
  exact xi_wV_eq rfl
theorem cc_X5_read_24 (S : xi_S) (a0 : Nat) (a1 : Nat) (m : xi_M) : (P_X5_read S).2.2.2.2.2.2.2.1 24 [.ref a0, .ref a1] m = (if S.1 a0 = 7 then E_X5_readSchool S a0 a1 m else none) := by
  show xi_calls [(19, xi_wV S 8 0 (F_X6_clear S)), (24, xi_wV S 7 1 (F_X5_readSchool S)), (28, xi_wV S 7 2 (F_X5_readCoat S)), (32, xi_wV S 7 2 (F_X5_readPlayer S))] 24 [.ref a0, .ref a1] m = _
  refine Eq.trans (b := xi_calls [(24, xi_wV S 7 1 (F_X5_readSchool S)), (28, xi_wV S 7 2 (F_X5_readCoat S)), (32, xi_wV S 7 2 (F_X5_readPlayer S))] 24 [.ref a0, .ref a1] m) (xi_calls_miss rfl) ?_
  refine Eq.trans (b := xi_wV S 7 1 (F_X5_readSchool S) [.ref a0, .ref a1] m) (xi_calls_hit rfl) ?_
  exact xi_wV_eq rfl
theorem cc_X5_read_28 (S : xi_S) (a0 : Nat) (a1 : Nat) (a2 : Int32) (m : xi_M) : (P_X5_read S).2.2.2.2.2.2.2.1 28 [.ref a0, .ref a1, .int a2] m = (if S.1 a0 = 7 then E_X5_readCoat S a0 a1 a2 m else none) := by
  show xi_calls [(19, xi_wV S 8 0 (F_X6_clear S)), (24, xi_wV S 7 1 (F_X5_readSchool S)), (28, xi_wV S 7 2 (F_X5_readCoat S)), (32, xi_wV S 7 2 (F_X5_readPlayer S))] 28 [.ref a0, .ref a1, .int a2] m = _
  refine Eq.trans (b := xi_calls [(24, xi_wV S 7 1 (F_X5_readSchool S)), (28, xi_wV S 7 2 (F_X5_readCoat S)), (32, xi_wV S 7 2 (F_X5_readPlayer S))] 28 [.ref a0, .ref a1, .int a2] m) (xi_calls_miss rfl) ?_
  refine Eq.trans (b := xi_calls [(28, xi_wV S 7 2 (F_X5_readCoat S)), (32, xi_wV S 7 2 (F_X5_readPlayer S))] 28 [.ref a0, .ref a1, .int a2] m) (xi_calls_miss rfl) ?_
  refine Eq.trans (b := xi_wV S 7 2 (F_X5_readCoat S) [.ref a0, .ref a1, .int a2] m) (xi_calls_hit rfl) ?_
  exact xi_wV_eq rfl
theorem cc_X5_read_32 (S : xi_S) (a0 : Nat) (a1 : Nat) (a2 : Int32) (m : xi_M) : (P_X5_read S).2.2.2.2.2.2.2.1 32 [.ref a0, .ref a1, .int a2] m = (if S.1 a0 = 7 then E_X5_readPlayer S a0 a1 a2 m else none) := by
  show xi_calls [(19, xi_wV S 8 0 (F_X6_clear S)), (24, xi_wV S 7 1 (F_X5_readSchool S)), (28, xi_wV S 7 2 (F_X5_readCoat S)), (32, xi_wV S 7 2 (F_X5_readPlayer S))] 32 [.ref a0, .ref a1, .int a2] m = _
  refine Eq.trans (b := xi_calls [(24, xi_wV S 7 1 (F_X5_readSchool S)), (28, xi_wV S 7 2 (F_X5_readCoat S)), (32, xi_wV S 7 2 (F_X5_readPlayer S))] 32 [.ref a0, .ref a1, .int a2] m) (xi_calls_miss rfl) ?_
  refine Eq.trans (b := xi_calls [(28, xi_wV S 7 2 (F_X5_readCoat S)), (32, xi_wV S 7 2 (F_X5_readPlayer S))] 32 [.ref a0, .ref a1, .int a2] m) (xi_calls_miss rfl) ?_
  refine Eq.trans (b := xi_calls [(32, xi_wV S 7 2 (F_X5_readPlayer S))] 32 [.ref a0, .ref a1, .int a2] m) (xi_calls_miss rfl) ?_
  refine Eq.trans (b := xi_wV S 7 2 (F_X5_readPlayer S) [.ref a0, .ref a1, .int a2] m) (xi_calls_hit rfl) ?_
  exact xi_wV_eq rfl
def G_X5_read_30 (S : xi_S) : Nat → Nat → Nat → Int32 → xi_M → Option xi_R
  | 0, _, _, _, _ => none
  | n + 1, v0, v1, v2, m =>
    if ((Int8.ofInt 6).toInt32) < v2 then
      if S.1 v0 = 7 then
        some (some (.int (m.1 v0 2)), m)
      else none
    else
      xi_bV (if S.1 v0 = 7 then E_X5_readPlayer S v0 v1 v2 m else none) fun m2 =>
      G_X5_read_30 S n v0 v1 (v2 + Int32.ofInt 1) m2
set_option maxRecDepth 100000 in
set_option maxHeartbeats 4000000 in
theorem xs_X5_read_30 {S : xi_S} {res : xi_R} : ∀ (n : Nat) (v0 : Nat) (v1 : Nat) (v2 : Int32) (m : xi_M), G_X5_read_30 S n v0 v1 v2 m = some res → xi_X S (P_X5_read S) (30, [some (.ref v0), some (.ref v1), some (.int v2)], [], m) res := by
  intro n
  induction n with
  | zero => intro v0 v1 v2 m h; exact xi_no h
  | succ n ih =>
    intro v0 v1 v2 m h
    unfold G_X5_read_30 at h
    refine xr_iload_n i_X5_read_30 rfl (q := 31) rfl ?_
    refine xr_bipush i_X5_read_31 (q := 33) rfl ?_
    by_cases c3 : ((Int8.ofInt 6).toInt32) < v2
    · replace h := (if_pos c3).symm.trans h
      refine xr_if_icmp_gt_p i_X5_read_33 c3 (q := 48) t_X5_read_33 (q2 := 36) rfl ?_
      refine xr_aload_n i_X5_read_48 rfl (q := 49) rfl ?_
      obtain ⟨c1, h⟩ := xi_if_some h
      refine xr_getI i_X5_read_49 xfe_X5_9 c1 (q := 52) rfl ?_
      exact xr_ireturn i_X5_read_52 rfl h
    · replace h := (if_neg c3).symm.trans h
      refine xr_if_icmp_gt_n i_X5_read_33 c3 (q := 48) t_X5_read_33 (q2 := 36) rfl ?_
      refine xr_aload_n i_X5_read_36 rfl (q := 37) rfl ?_
      refine xr_aload_n i_X5_read_37 rfl (q := 38) rfl ?_
      refine xr_iload_n i_X5_read_38 rfl (q := 39) rfl ?_
      obtain ⟨m2, em2, h⟩ := xi_bV_some h
      refine xr_VV i_X5_read_39 xcve_X5_32 rfl (As := [.ref v0, .ref v1, .int v2]) rfl (rest := []) rfl ((cc_X5_read_32 S _ _ _ _).trans em2) (q := 42) rfl ?_
      refine xr_iinc i_X5_read_42 rfl rfl (L2 := [some (.ref v0), some (.ref v1), some (.int (v2 + Int32.ofInt 1))]) rfl (q := 45) rfl ?_
      refine xr_goto i_X5_read_45 (q := 30) t_X5_read_45 ?_
      exact xi_X_le (xi_le_s (xi_le_s (xi_le_s xi_le_z))) (ih _ _ _ _ h)
def G_X5_read_11 (S : xi_S) : Nat → Nat → Nat → Int32 → xi_M → Option xi_R
  | 0, _, _, _, _ => none
  | n + 1, v0, v1, v2, m =>
    if (Int32.ofInt 4) ≤ v2 then
      G_X5_read_30 S 10000 v0 v1 (Int32.ofInt 0) m
    else
      xi_bV (if S.1 v0 = 7 then E_X5_readCoat S v0 v1 v2 m else none) fun m1 =>
      G_X5_read_11 S n v0 v1 (v2 + Int32.ofInt 1) m1
set_option maxRecDepth 100000 in
set_option maxHeartbeats 4000000 in
theorem xs_X5_read_11 {S : xi_S} {res : xi_R} : ∀ (n : Nat) (v0 : Nat) (v1 : Nat) (v2 : Int32) (m : xi_M), G_X5_read_11 S n v0 v1 v2 m = some res → xi_X S (P_X5_read S) (11, [some (.ref v0), some (.ref v1), some (.int v2)], [], m) res := by
  intro n
  induction n with
  | zero => intro v0 v1 v2 m h; exact xi_no h
  | succ n ih =>
    intro v0 v1 v2 m h
    unfold G_X5_read_11 at h
    refine xr_iload_n i_X5_read_11 rfl (q := 12) rfl ?_
    refine xr_iconst i_X5_read_12 (q := 13) rfl ?_
    by_cases c2 : (Int32.ofInt 4) ≤ v2
    · replace h := (if_pos c2).symm.trans h
      refine xr_if_icmp_ge_p i_X5_read_13 c2 (q := 28) t_X5_read_13 (q2 := 16) rfl ?_
      refine xr_iconst i_X5_read_28 (q := 29) rfl ?_
      refine xr_istore_n i_X5_read_29 rfl (L2 := [some (.ref v0), some (.ref v1), some (.int (Int32.ofInt 0))]) rfl (q := 30) rfl ?_
      exact xi_X_le (xi_le_s (xi_le_s (xi_le_s xi_le_z))) (xs_X5_read_30 10000 _ _ _ _ h)
    · replace h := (if_neg c2).symm.trans h
      refine xr_if_icmp_ge_n i_X5_read_13 c2 (q := 28) t_X5_read_13 (q2 := 16) rfl ?_
      refine xr_aload_n i_X5_read_16 rfl (q := 17) rfl ?_
      refine xr_aload_n i_X5_read_17 rfl (q := 18) rfl ?_
      refine xr_iload_n i_X5_read_18 rfl (q := 19) rfl ?_
      obtain ⟨m1, em1, h⟩ := xi_bV_some h
      refine xr_VV i_X5_read_19 xcve_X5_28 rfl (As := [.ref v0, .ref v1, .int v2]) rfl (rest := []) rfl ((cc_X5_read_28 S _ _ _ _).trans em1) (q := 22) rfl ?_
      refine xr_iinc i_X5_read_22 rfl rfl (L2 := [some (.ref v0), some (.ref v1), some (.int (v2 + Int32.ofInt 1))]) rfl (q := 25) rfl ?_
      refine xr_goto i_X5_read_25 (q := 11) t_X5_read_25 ?_
      exact xi_X_le (xi_le_s (xi_le_s (xi_le_s xi_le_z))) (ih _ _ _ _ h)
def E_X5_read (S : xi_S) (v0 : Nat) (v1 : Nat) (m : xi_M) : Option xi_R :=
  xi_bV (if S.1 v1 = 8 then E_X6_clear S v1 m else none) fun m1 =>
  xi_bV (if S.1 v0 = 7 then E_X5_readSchool S v0 v1 m1 else none) fun m2 =>
  G_X5_read_11 S 10000 v0 v1 (Int32.ofInt 0) m2
def F_X5_read (S : xi_S) : xi_F := fun As m => match As with
  | [.ref v0, .ref v1] => E_X5_read S v0 v1 m
  | _ => none
set_option maxRecDepth 100000 in
set_option maxHeartbeats 4000000 in
theorem xe_X5_read {S : xi_S} {res : xi_R} (v0 : Nat) (v1 : Nat) (m : xi_M) (h : E_X5_read S v0 v1 m = some res) : xi_X S (P_X5_read S) (0, [some (.ref v0), some (.ref v1), none], [], m) res := by
  unfold E_X5_read at h
  refine xr_aload_n i_X5_read_0 rfl (q := 1) rfl ?_
  obtain ⟨m1, em1, h⟩ := xi_bV_some h
  refine xr_VV i_X5_read_1 xcve_X5_19 rfl (As := [.ref v1]) rfl (rest := []) rfl ((cc_X5_read_19 S _ _).trans em1) (q := 4) rfl ?_
  refine xr_aload_n i_X5_read_4 rfl (q := 5) rfl ?_
  refine xr_aload_n i_X5_read_5 rfl (q := 6) rfl ?_
  obtain ⟨m2, em2, h⟩ := xi_bV_some h
  refine xr_VV i_X5_read_6 xcve_X5_24 rfl (As := [.ref v0, .ref v1]) rfl (rest := []) rfl ((cc_X5_read_24 S _ _ _).trans em2) (q := 9) rfl ?_
  refine xr_iconst i_X5_read_9 (q := 10) rfl ?_
  refine xr_istore_n i_X5_read_10 rfl (L2 := [some (.ref v0), some (.ref v1), some (.int (Int32.ofInt 0))]) rfl (q := 11) rfl ?_
  exact xi_X_le (xi_le_s (xi_le_s (xi_le_s xi_le_z))) (xs_X5_read_11 10000 _ _ _ _ h)
set_option maxRecDepth 100000 in
theorem po_X5_read {l : Launch} {E : xi_E} {S : xi_S} {D : va_G} {tys : List (ClassId × FieldType)} (hC : xCx E S tys) : xi_Pok l E S D vwCl tys xNs RX5 xTs cX5_read 3 3 (P_X5_read S) := ⟨xi_dc_ok, by rw [hC.2]; exact xfo_X5, xkio_X5, xklo_X5, xi_calls_ok (ins := .invokestatic) (fun _ h => absurd h List.not_mem_nil), xi_calls_ok (ins := .invokevirtual) (List.forall_mem_cons.mpr ⟨(xc_X5_19 hC.1 (sn_X6_clear hC) (by decide)), List.forall_mem_cons.mpr ⟨(xc_X5_24 hC.1 (sn_X5_readSchool hC) (by decide)), List.forall_mem_cons.mpr ⟨(xc_X5_28 hC.1 (sn_X5_readCoat hC) (by decide)), List.forall_mem_cons.mpr ⟨(xc_X5_32 hC.1 (sn_X5_readPlayer hC) (by decide)), fun _ h => absurd h List.not_mem_nil⟩⟩⟩⟩)⟩
theorem sn_X5_read {l : Launch} {E : xi_E} {S : xi_S} {D : va_G} {tys : List (ClassId × FieldType)} (hC : xCx E S tys) : ∀ As m1 r m2, F_X5_read S As m1 = some (r, m2) → xi_Sound l E S D vwCl tys xNs xTs yX5_read cX5_read 3 (some .int) 3 As m1 r m2 := by
  intro As m1 r m2 h
  unfold F_X5_read at h
  split at h
  · exact xi_meth (P := P_X5_read S) (by decide) hC.1 (po_X5_read hC) (Nat.le_of_ble_eq_true rfl) rfl (xe_X5_read _ _ _ h)
  · exact xi_no h
theorem i_X6_take_0 : xi_dc cX6_take 0 = some (.aload_n 0, 1) := by decide +kernel
theorem i_X6_take_1 : xi_dc cX6_take 1 = some (.aload_n 1, 1) := by decide +kernel
theorem i_X6_take_2 : xi_dc cX6_take 2 = some (.getfield 39, 3) := by decide +kernel
theorem i_X6_take_5 : xi_dc cX6_take 5 = some (.putfield 39, 3) := by decide +kernel
theorem i_X6_take_8 : xi_dc cX6_take 8 = some (.aload_n 0, 1) := by decide +kernel
theorem i_X6_take_9 : xi_dc cX6_take 9 = some (.aload_n 1, 1) := by decide +kernel
theorem i_X6_take_10 : xi_dc cX6_take 10 = some (.getfield 43, 3) := by decide +kernel
theorem i_X6_take_13 : xi_dc cX6_take 13 = some (.putfield 43, 3) := by decide +kernel
theorem i_X6_take_16 : xi_dc cX6_take 16 = some (.aload_n 0, 1) := by decide +kernel
theorem i_X6_take_17 : xi_dc cX6_take 17 = some (.aload_n 1, 1) := by decide +kernel
theorem i_X6_take_18 : xi_dc cX6_take 18 = some (.getfield 46, 3) := by decide +kernel
theorem i_X6_take_21 : xi_dc cX6_take 21 = some (.putfield 46, 3) := by decide +kernel
theorem i_X6_take_24 : xi_dc cX6_take 24 = some (.aload_n 0, 1) := by decide +kernel
theorem i_X6_take_25 : xi_dc cX6_take 25 = some (.aload_n 1, 1) := by decide +kernel
theorem i_X6_take_26 : xi_dc cX6_take 26 = some (.getfield 49, 3) := by decide +kernel
theorem i_X6_take_29 : xi_dc cX6_take 29 = some (.putfield 49, 3) := by decide +kernel
theorem i_X6_take_32 : xi_dc cX6_take 32 = some (.aload_n 0, 1) := by decide +kernel
theorem i_X6_take_33 : xi_dc cX6_take 33 = some (.aload_n 1, 1) := by decide +kernel
theorem i_X6_take_34 : xi_dc cX6_take 34 = some (.getfield 52, 3) := by decide +kernel
theorem i_X6_take_37 : xi_dc cX6_take 37 = some (.putfield 52, 3) := by decide +kernel
theorem i_X6_take_40 : xi_dc cX6_take 40 = some (.aload_n 1, 1) := by decide +kernel
theorem i_X6_take_41 : xi_dc cX6_take 41 = some (.getfield 9, 3) := by decide +kernel
theorem i_X6_take_44 : xi_dc cX6_take 44 = some (.iconst 0, 1) := by decide +kernel
theorem i_X6_take_45 : xi_dc cX6_take 45 = some (.aload_n 0, 1) := by decide +kernel
theorem i_X6_take_46 : xi_dc cX6_take 46 = some (.getfield 9, 3) := by decide +kernel
theorem i_X6_take_49 : xi_dc cX6_take 49 = some (.iconst 0, 1) := by decide +kernel
theorem i_X6_take_50 : xi_dc cX6_take 50 = some (.iconst 4, 1) := by decide +kernel
theorem i_X6_take_51 : xi_dc cX6_take 51 = some (.invokestatic 61, 3) := by decide +kernel
theorem i_X6_take_54 : xi_dc cX6_take 54 = some (.aload_n 1, 1) := by decide +kernel
theorem i_X6_take_55 : xi_dc cX6_take 55 = some (.getfield 15, 3) := by decide +kernel
theorem i_X6_take_58 : xi_dc cX6_take 58 = some (.iconst 0, 1) := by decide +kernel
theorem i_X6_take_59 : xi_dc cX6_take 59 = some (.aload_n 0, 1) := by decide +kernel
theorem i_X6_take_60 : xi_dc cX6_take 60 = some (.getfield 15, 3) := by decide +kernel
theorem i_X6_take_63 : xi_dc cX6_take 63 = some (.iconst 0, 1) := by decide +kernel
theorem i_X6_take_64 : xi_dc cX6_take 64 = some (.iconst 2, 1) := by decide +kernel
theorem i_X6_take_65 : xi_dc cX6_take 65 = some (.invokestatic 61, 3) := by decide +kernel
theorem i_X6_take_68 : xi_dc cX6_take 68 = some (.aload_n 1, 1) := by decide +kernel
theorem i_X6_take_69 : xi_dc cX6_take 69 = some (.getfield 18, 3) := by decide +kernel
theorem i_X6_take_72 : xi_dc cX6_take 72 = some (.iconst 0, 1) := by decide +kernel
theorem i_X6_take_73 : xi_dc cX6_take 73 = some (.aload_n 0, 1) := by decide +kernel
theorem i_X6_take_74 : xi_dc cX6_take 74 = some (.getfield 18, 3) := by decide +kernel
theorem i_X6_take_77 : xi_dc cX6_take 77 = some (.iconst 0, 1) := by decide +kernel
theorem i_X6_take_78 : xi_dc cX6_take 78 = some (.bipush 6, 2) := by decide +kernel
theorem i_X6_take_80 : xi_dc cX6_take 80 = some (.invokestatic 61, 3) := by decide +kernel
theorem i_X6_take_83 : xi_dc cX6_take 83 = some (.aload_n 1, 1) := by decide +kernel
theorem i_X6_take_84 : xi_dc cX6_take 84 = some (.getfield 21, 3) := by decide +kernel
theorem i_X6_take_87 : xi_dc cX6_take 87 = some (.iconst 0, 1) := by decide +kernel
theorem i_X6_take_88 : xi_dc cX6_take 88 = some (.aload_n 0, 1) := by decide +kernel
theorem i_X6_take_89 : xi_dc cX6_take 89 = some (.getfield 21, 3) := by decide +kernel
theorem i_X6_take_92 : xi_dc cX6_take 92 = some (.iconst 0, 1) := by decide +kernel
theorem i_X6_take_93 : xi_dc cX6_take 93 = some (.bipush 6, 2) := by decide +kernel
theorem i_X6_take_95 : xi_dc cX6_take 95 = some (.invokestatic 61, 3) := by decide +kernel
theorem i_X6_take_98 : xi_dc cX6_take 98 = some (.aload_n 1, 1) := by decide +kernel
theorem i_X6_take_99 : xi_dc cX6_take 99 = some (.getfield 24, 3) := by decide +kernel
theorem i_X6_take_102 : xi_dc cX6_take 102 = some (.iconst 0, 1) := by decide +kernel
theorem i_X6_take_103 : xi_dc cX6_take 103 = some (.aload_n 0, 1) := by decide +kernel
theorem i_X6_take_104 : xi_dc cX6_take 104 = some (.getfield 24, 3) := by decide +kernel
theorem i_X6_take_107 : xi_dc cX6_take 107 = some (.iconst 0, 1) := by decide +kernel
theorem i_X6_take_108 : xi_dc cX6_take 108 = some (.bipush 6, 2) := by decide +kernel
theorem i_X6_take_110 : xi_dc cX6_take 110 = some (.invokestatic 61, 3) := by decide +kernel
theorem i_X6_take_113 : xi_dc cX6_take 113 = some (.aload_n 1, 1) := by decide +kernel
theorem i_X6_take_114 : xi_dc cX6_take 114 = some (.getfield 27, 3) := by decide +kernel
theorem i_X6_take_117 : xi_dc cX6_take 117 = some (.iconst 0, 1) := by decide +kernel
theorem i_X6_take_118 : xi_dc cX6_take 118 = some (.aload_n 0, 1) := by decide +kernel
theorem i_X6_take_119 : xi_dc cX6_take 119 = some (.getfield 27, 3) := by decide +kernel
theorem i_X6_take_122 : xi_dc cX6_take 122 = some (.iconst 0, 1) := by decide +kernel
theorem i_X6_take_123 : xi_dc cX6_take 123 = some (.bipush 6, 2) := by decide +kernel
theorem i_X6_take_125 : xi_dc cX6_take 125 = some (.invokestatic 61, 3) := by decide +kernel
theorem i_X6_take_128 : xi_dc cX6_take 128 = some (.aload_n 1, 1) := by decide +kernel
theorem i_X6_take_129 : xi_dc cX6_take 129 = some (.getfield 30, 3) := by decide +kernel
theorem i_X6_take_132 : xi_dc cX6_take 132 = some (.iconst 0, 1) := by decide +kernel
theorem i_X6_take_133 : xi_dc cX6_take 133 = some (.aload_n 0, 1) := by decide +kernel
theorem i_X6_take_134 : xi_dc cX6_take 134 = some (.getfield 30, 3) := by decide +kernel
theorem i_X6_take_137 : xi_dc cX6_take 137 = some (.iconst 0, 1) := by decide +kernel
theorem i_X6_take_138 : xi_dc cX6_take 138 = some (.bipush 40, 2) := by decide +kernel
theorem i_X6_take_140 : xi_dc cX6_take 140 = some (.invokestatic 61, 3) := by decide +kernel
theorem i_X6_take_143 : xi_dc cX6_take 143 = some (.aload_n 1, 1) := by decide +kernel
theorem i_X6_take_144 : xi_dc cX6_take 144 = some (.getfield 33, 3) := by decide +kernel
theorem i_X6_take_147 : xi_dc cX6_take 147 = some (.iconst 0, 1) := by decide +kernel
theorem i_X6_take_148 : xi_dc cX6_take 148 = some (.aload_n 0, 1) := by decide +kernel
theorem i_X6_take_149 : xi_dc cX6_take 149 = some (.getfield 33, 3) := by decide +kernel
theorem i_X6_take_152 : xi_dc cX6_take 152 = some (.iconst 0, 1) := by decide +kernel
theorem i_X6_take_153 : xi_dc cX6_take 153 = some (.bipush 40, 2) := by decide +kernel
theorem i_X6_take_155 : xi_dc cX6_take 155 = some (.invokestatic 61, 3) := by decide +kernel
theorem i_X6_take_158 : xi_dc cX6_take 158 = some (.aload_n 1, 1) := by decide +kernel
theorem i_X6_take_159 : xi_dc cX6_take 159 = some (.getfield 36, 3) := by decide +kernel
theorem i_X6_take_162 : xi_dc cX6_take 162 = some (.iconst 0, 1) := by decide +kernel
theorem i_X6_take_163 : xi_dc cX6_take 163 = some (.aload_n 0, 1) := by decide +kernel
theorem i_X6_take_164 : xi_dc cX6_take 164 = some (.getfield 36, 3) := by decide +kernel
theorem i_X6_take_167 : xi_dc cX6_take 167 = some (.iconst 0, 1) := by decide +kernel
theorem i_X6_take_168 : xi_dc cX6_take 168 = some (.bipush 40, 2) := by decide +kernel
theorem i_X6_take_170 : xi_dc cX6_take 170 = some (.invokestatic 61, 3) := by decide +kernel
theorem i_X6_take_173 : xi_dc cX6_take 173 = some (.return_, 1) := by decide +kernel
def P_X6_take (S : xi_S) : xi_P := (xi_dc cX6_take, xi_tab xfl_X6, xi_tab xki_X6, xi_tab xkl_X6, xi_tab xcs_X6, xi_tab xcv_X6, xi_calls [(61, xi_wS 5 (F_arraycopy S))], xi_calls [], 0)
theorem cc_X6_take_61 (S : xi_S) (a0 : Nat) (a1 : Int32) (a2 : Nat) (a3 : Int32) (a4 : Int32) (m : xi_M) : (P_X6_take S).2.2.2.2.2.2.1 61 [.ref a0, .int a1, .ref a2, .int a3, .int a4] m = (F_arraycopy S [.ref a0, .int a1, .ref a2, .int a3, .int a4] m) := by
  show xi_calls [(61, xi_wS 5 (F_arraycopy S))] 61 [.ref a0, .int a1, .ref a2, .int a3, .int a4] m = _
  refine Eq.trans (b := xi_wS 5 (F_arraycopy S) [.ref a0, .int a1, .ref a2, .int a3, .int a4] m) (xi_calls_hit rfl) ?_
  exact xi_wS_eq rfl
def E_X6_take (S : xi_S) (v0 : Nat) (v1 : Nat) (m : xi_M) : Option xi_R :=
  if S.1 v1 = 8 then
    if S.1 v0 = 8 then
      if S.1 v1 = 8 then
        if S.1 v0 = 8 then
          if S.1 v1 = 8 then
            if S.1 v0 = 8 then
              if S.1 v1 = 8 then
                if S.1 v0 = 8 then
                  if S.1 v1 = 8 then
                    if S.1 v0 = 8 then
                      if S.1 v1 = 8 then (S.2.2 v1 5).bind fun b12 =>
                        if S.1 v0 = 8 then (S.2.2 v0 5).bind fun b14 =>
                          xi_bV (F_arraycopy S [.ref b12, .int (Int32.ofInt 0), .ref b14, .int (Int32.ofInt 0), .int (Int32.ofInt 4)] (xi_wI (xi_wI (xi_wI (xi_wI (xi_wI m v0 0 (m.1 v1 0)) v0 1 ((xi_wI m v0 0 (m.1 v1 0)).1 v1 1)) v0 2 ((xi_wI (xi_wI m v0 0 (m.1 v1 0)) v0 1 ((xi_wI m v0 0 (m.1 v1 0)).1 v1 1)).1 v1 2)) v0 3 ((xi_wI (xi_wI (xi_wI m v0 0 (m.1 v1 0)) v0 1 ((xi_wI m v0 0 (m.1 v1 0)).1 v1 1)) v0 2 ((xi_wI (xi_wI m v0 0 (m.1 v1 0)) v0 1 ((xi_wI m v0 0 (m.1 v1 0)).1 v1 1)).1 v1 2)).1 v1 3)) v0 4 ((xi_wI (xi_wI (xi_wI (xi_wI m v0 0 (m.1 v1 0)) v0 1 ((xi_wI m v0 0 (m.1 v1 0)).1 v1 1)) v0 2 ((xi_wI (xi_wI m v0 0 (m.1 v1 0)) v0 1 ((xi_wI m v0 0 (m.1 v1 0)).1 v1 1)).1 v1 2)) v0 3 ((xi_wI (xi_wI (xi_wI m v0 0 (m.1 v1 0)) v0 1 ((xi_wI m v0 0 (m.1 v1 0)).1 v1 1)) v0 2 ((xi_wI (xi_wI m v0 0 (m.1 v1 0)) v0 1 ((xi_wI m v0 0 (m.1 v1 0)).1 v1 1)).1 v1 2)).1 v1 3)).1 v1 4))) fun m15 =>
                          if S.1 v1 = 8 then (S.2.2 v1 6).bind fun b17 =>
                            if S.1 v0 = 8 then (S.2.2 v0 6).bind fun b19 =>
                              xi_bV (F_arraycopy S [.ref b17, .int (Int32.ofInt 0), .ref b19, .int (Int32.ofInt 0), .int (Int32.ofInt 2)] m15) fun m20 =>
                              if S.1 v1 = 8 then (S.2.2 v1 7).bind fun b22 =>
                                if S.1 v0 = 8 then (S.2.2 v0 7).bind fun b24 =>
                                  xi_bV (F_arraycopy S [.ref b22, .int (Int32.ofInt 0), .ref b24, .int (Int32.ofInt 0), .int ((Int8.ofInt 6).toInt32)] m20) fun m25 =>
                                  if S.1 v1 = 8 then (S.2.2 v1 8).bind fun b27 =>
                                    if S.1 v0 = 8 then (S.2.2 v0 8).bind fun b29 =>
                                      xi_bV (F_arraycopy S [.ref b27, .int (Int32.ofInt 0), .ref b29, .int (Int32.ofInt 0), .int ((Int8.ofInt 6).toInt32)] m25) fun m30 =>
                                      if S.1 v1 = 8 then (S.2.2 v1 9).bind fun b32 =>
                                        if S.1 v0 = 8 then (S.2.2 v0 9).bind fun b34 =>
                                          xi_bV (F_arraycopy S [.ref b32, .int (Int32.ofInt 0), .ref b34, .int (Int32.ofInt 0), .int ((Int8.ofInt 6).toInt32)] m30) fun m35 =>
                                          if S.1 v1 = 8 then (S.2.2 v1 10).bind fun b37 =>
                                            if S.1 v0 = 8 then (S.2.2 v0 10).bind fun b39 =>
                                              xi_bV (F_arraycopy S [.ref b37, .int (Int32.ofInt 0), .ref b39, .int (Int32.ofInt 0), .int ((Int8.ofInt 6).toInt32)] m35) fun m40 =>
                                              if S.1 v1 = 8 then (S.2.2 v1 11).bind fun b42 =>
                                                if S.1 v0 = 8 then (S.2.2 v0 11).bind fun b44 =>
                                                  xi_bV (F_arraycopy S [.ref b42, .int (Int32.ofInt 0), .ref b44, .int (Int32.ofInt 0), .int ((Int8.ofInt 40).toInt32)] m40) fun m45 =>
                                                  if S.1 v1 = 8 then (S.2.2 v1 12).bind fun b47 =>
                                                    if S.1 v0 = 8 then (S.2.2 v0 12).bind fun b49 =>
                                                      xi_bV (F_arraycopy S [.ref b47, .int (Int32.ofInt 0), .ref b49, .int (Int32.ofInt 0), .int ((Int8.ofInt 40).toInt32)] m45) fun m50 =>
                                                      if S.1 v1 = 8 then (S.2.2 v1 13).bind fun b52 =>
                                                        if S.1 v0 = 8 then (S.2.2 v0 13).bind fun b54 =>
                                                          xi_bV (F_arraycopy S [.ref b52, .int (Int32.ofInt 0), .ref b54, .int (Int32.ofInt 0), .int ((Int8.ofInt 40).toInt32)] m50) fun m55 =>
                                                          some (none, m55)
                                                        else none
                                                      else none
                                                    else none
                                                  else none
                                                else none
                                              else none
                                            else none
                                          else none
                                        else none
                                      else none
                                    else none
                                  else none
                                else none
                              else none
                            else none
                          else none
                        else none
                      else none
                    else none
                  else none
                else none
              else none
            else none
          else none
        else none
      else none
    else none
  else none
def F_X6_take (S : xi_S) : xi_F := fun As m => match As with
  | [.ref v0, .ref v1] => E_X6_take S v0 v1 m
  | _ => none
set_option maxRecDepth 100000 in
set_option maxHeartbeats 4000000 in
theorem xe_X6_take {S : xi_S} {res : xi_R} (v0 : Nat) (v1 : Nat) (m : xi_M) (h : E_X6_take S v0 v1 m = some res) : xi_X S (P_X6_take S) (0, [some (.ref v0), some (.ref v1)], [], m) res := by
  unfold E_X6_take at h
  refine xr_aload_n i_X6_take_0 rfl (q := 1) rfl ?_
  refine xr_aload_n i_X6_take_1 rfl (q := 2) rfl ?_
  obtain ⟨c1, h⟩ := xi_if_some h
  refine xr_getI i_X6_take_2 xfe_X6_39 c1 (q := 5) rfl ?_
  obtain ⟨c2, h⟩ := xi_if_some h
  refine xr_putI i_X6_take_5 xfe_X6_39 c2 (q := 8) rfl ?_
  refine xr_aload_n i_X6_take_8 rfl (q := 9) rfl ?_
  refine xr_aload_n i_X6_take_9 rfl (q := 10) rfl ?_
  obtain ⟨c3, h⟩ := xi_if_some h
  refine xr_getI i_X6_take_10 xfe_X6_43 c3 (q := 13) rfl ?_
  obtain ⟨c4, h⟩ := xi_if_some h
  refine xr_putI i_X6_take_13 xfe_X6_43 c4 (q := 16) rfl ?_
  refine xr_aload_n i_X6_take_16 rfl (q := 17) rfl ?_
  refine xr_aload_n i_X6_take_17 rfl (q := 18) rfl ?_
  obtain ⟨c5, h⟩ := xi_if_some h
  refine xr_getI i_X6_take_18 xfe_X6_46 c5 (q := 21) rfl ?_
  obtain ⟨c6, h⟩ := xi_if_some h
  refine xr_putI i_X6_take_21 xfe_X6_46 c6 (q := 24) rfl ?_
  refine xr_aload_n i_X6_take_24 rfl (q := 25) rfl ?_
  refine xr_aload_n i_X6_take_25 rfl (q := 26) rfl ?_
  obtain ⟨c7, h⟩ := xi_if_some h
  refine xr_getI i_X6_take_26 xfe_X6_49 c7 (q := 29) rfl ?_
  obtain ⟨c8, h⟩ := xi_if_some h
  refine xr_putI i_X6_take_29 xfe_X6_49 c8 (q := 32) rfl ?_
  refine xr_aload_n i_X6_take_32 rfl (q := 33) rfl ?_
  refine xr_aload_n i_X6_take_33 rfl (q := 34) rfl ?_
  obtain ⟨c9, h⟩ := xi_if_some h
  refine xr_getI i_X6_take_34 xfe_X6_52 c9 (q := 37) rfl ?_
  obtain ⟨c10, h⟩ := xi_if_some h
  refine xr_putI i_X6_take_37 xfe_X6_52 c10 (q := 40) rfl ?_
  refine xr_aload_n i_X6_take_40 rfl (q := 41) rfl ?_
  obtain ⟨c11, h⟩ := xi_if_some h
  obtain ⟨b12, eb12, h⟩ := xi_bind_some h
  refine xr_getR i_X6_take_41 xfe_X6_9 c11 eb12 (q := 44) rfl ?_
  refine xr_iconst i_X6_take_44 (q := 45) rfl ?_
  refine xr_aload_n i_X6_take_45 rfl (q := 46) rfl ?_
  obtain ⟨c13, h⟩ := xi_if_some h
  obtain ⟨b14, eb14, h⟩ := xi_bind_some h
  refine xr_getR i_X6_take_46 xfe_X6_9 c13 eb14 (q := 49) rfl ?_
  refine xr_iconst i_X6_take_49 (q := 50) rfl ?_
  refine xr_iconst i_X6_take_50 (q := 51) rfl ?_
  obtain ⟨m15, em15, h⟩ := xi_bV_some h
  refine xr_SV i_X6_take_51 xcse_X6_61 rfl (As := [.ref b12, .int (Int32.ofInt 0), .ref b14, .int (Int32.ofInt 0), .int (Int32.ofInt 4)]) rfl (rest := []) rfl ((cc_X6_take_61 S _ _ _ _ _ _).trans em15) (q := 54) rfl ?_
  refine xr_aload_n i_X6_take_54 rfl (q := 55) rfl ?_
  obtain ⟨c16, h⟩ := xi_if_some h
  obtain ⟨b17, eb17, h⟩ := xi_bind_some h
  refine xr_getR i_X6_take_55 xfe_X6_15 c16 eb17 (q := 58) rfl ?_
  refine xr_iconst i_X6_take_58 (q := 59) rfl ?_
  refine xr_aload_n i_X6_take_59 rfl (q := 60) rfl ?_
  obtain ⟨c18, h⟩ := xi_if_some h
  obtain ⟨b19, eb19, h⟩ := xi_bind_some h
  refine xr_getR i_X6_take_60 xfe_X6_15 c18 eb19 (q := 63) rfl ?_
  refine xr_iconst i_X6_take_63 (q := 64) rfl ?_
  refine xr_iconst i_X6_take_64 (q := 65) rfl ?_
  obtain ⟨m20, em20, h⟩ := xi_bV_some h
  refine xr_SV i_X6_take_65 xcse_X6_61 rfl (As := [.ref b17, .int (Int32.ofInt 0), .ref b19, .int (Int32.ofInt 0), .int (Int32.ofInt 2)]) rfl (rest := []) rfl ((cc_X6_take_61 S _ _ _ _ _ _).trans em20) (q := 68) rfl ?_
  refine xr_aload_n i_X6_take_68 rfl (q := 69) rfl ?_
  obtain ⟨c21, h⟩ := xi_if_some h
  obtain ⟨b22, eb22, h⟩ := xi_bind_some h
  refine xr_getR i_X6_take_69 xfe_X6_18 c21 eb22 (q := 72) rfl ?_
  refine xr_iconst i_X6_take_72 (q := 73) rfl ?_
  refine xr_aload_n i_X6_take_73 rfl (q := 74) rfl ?_
  obtain ⟨c23, h⟩ := xi_if_some h
  obtain ⟨b24, eb24, h⟩ := xi_bind_some h
  refine xr_getR i_X6_take_74 xfe_X6_18 c23 eb24 (q := 77) rfl ?_
  refine xr_iconst i_X6_take_77 (q := 78) rfl ?_
  refine xr_bipush i_X6_take_78 (q := 80) rfl ?_
  obtain ⟨m25, em25, h⟩ := xi_bV_some h
  refine xr_SV i_X6_take_80 xcse_X6_61 rfl (As := [.ref b22, .int (Int32.ofInt 0), .ref b24, .int (Int32.ofInt 0), .int ((Int8.ofInt 6).toInt32)]) rfl (rest := []) rfl ((cc_X6_take_61 S _ _ _ _ _ _).trans em25) (q := 83) rfl ?_
  refine xr_aload_n i_X6_take_83 rfl (q := 84) rfl ?_
  obtain ⟨c26, h⟩ := xi_if_some h
  obtain ⟨b27, eb27, h⟩ := xi_bind_some h
  refine xr_getR i_X6_take_84 xfe_X6_21 c26 eb27 (q := 87) rfl ?_
  refine xr_iconst i_X6_take_87 (q := 88) rfl ?_
  refine xr_aload_n i_X6_take_88 rfl (q := 89) rfl ?_
  obtain ⟨c28, h⟩ := xi_if_some h
  obtain ⟨b29, eb29, h⟩ := xi_bind_some h
  refine xr_getR i_X6_take_89 xfe_X6_21 c28 eb29 (q := 92) rfl ?_
  refine xr_iconst i_X6_take_92 (q := 93) rfl ?_
  refine xr_bipush i_X6_take_93 (q := 95) rfl ?_
  obtain ⟨m30, em30, h⟩ := xi_bV_some h
  refine xr_SV i_X6_take_95 xcse_X6_61 rfl (As := [.ref b27, .int (Int32.ofInt 0), .ref b29, .int (Int32.ofInt 0), .int ((Int8.ofInt 6).toInt32)]) rfl (rest := []) rfl ((cc_X6_take_61 S _ _ _ _ _ _).trans em30) (q := 98) rfl ?_
  refine xr_aload_n i_X6_take_98 rfl (q := 99) rfl ?_
  obtain ⟨c31, h⟩ := xi_if_some h
  obtain ⟨b32, eb32, h⟩ := xi_bind_some h
  refine xr_getR i_X6_take_99 xfe_X6_24 c31 eb32 (q := 102) rfl ?_
  refine xr_iconst i_X6_take_102 (q := 103) rfl ?_
  refine xr_aload_n i_X6_take_103 rfl (q := 104) rfl ?_
  obtain ⟨c33, h⟩ := xi_if_some h
  obtain ⟨b34, eb34, h⟩ := xi_bind_some h
  refine xr_getR i_X6_take_104 xfe_X6_24 c33 eb34 (q := 107) rfl ?_
  refine xr_iconst i_X6_take_107 (q := 108) rfl ?_
  refine xr_bipush i_X6_take_108 (q := 110) rfl ?_
  obtain ⟨m35, em35, h⟩ := xi_bV_some h
  refine xr_SV i_X6_take_110 xcse_X6_61 rfl (As := [.ref b32, .int (Int32.ofInt 0), .ref b34, .int (Int32.ofInt 0), .int ((Int8.ofInt 6).toInt32)]) rfl (rest := []) rfl ((cc_X6_take_61 S _ _ _ _ _ _).trans em35) (q := 113) rfl ?_
  refine xr_aload_n i_X6_take_113 rfl (q := 114) rfl ?_
  obtain ⟨c36, h⟩ := xi_if_some h
  obtain ⟨b37, eb37, h⟩ := xi_bind_some h
  refine xr_getR i_X6_take_114 xfe_X6_27 c36 eb37 (q := 117) rfl ?_
  refine xr_iconst i_X6_take_117 (q := 118) rfl ?_
  refine xr_aload_n i_X6_take_118 rfl (q := 119) rfl ?_
  obtain ⟨c38, h⟩ := xi_if_some h
  obtain ⟨b39, eb39, h⟩ := xi_bind_some h
  refine xr_getR i_X6_take_119 xfe_X6_27 c38 eb39 (q := 122) rfl ?_
  refine xr_iconst i_X6_take_122 (q := 123) rfl ?_
  refine xr_bipush i_X6_take_123 (q := 125) rfl ?_
  obtain ⟨m40, em40, h⟩ := xi_bV_some h
  refine xr_SV i_X6_take_125 xcse_X6_61 rfl (As := [.ref b37, .int (Int32.ofInt 0), .ref b39, .int (Int32.ofInt 0), .int ((Int8.ofInt 6).toInt32)]) rfl (rest := []) rfl ((cc_X6_take_61 S _ _ _ _ _ _).trans em40) (q := 128) rfl ?_
  refine xr_aload_n i_X6_take_128 rfl (q := 129) rfl ?_
  obtain ⟨c41, h⟩ := xi_if_some h
  obtain ⟨b42, eb42, h⟩ := xi_bind_some h
  refine xr_getR i_X6_take_129 xfe_X6_30 c41 eb42 (q := 132) rfl ?_
  refine xr_iconst i_X6_take_132 (q := 133) rfl ?_
  refine xr_aload_n i_X6_take_133 rfl (q := 134) rfl ?_
  obtain ⟨c43, h⟩ := xi_if_some h
  obtain ⟨b44, eb44, h⟩ := xi_bind_some h
  refine xr_getR i_X6_take_134 xfe_X6_30 c43 eb44 (q := 137) rfl ?_
  refine xr_iconst i_X6_take_137 (q := 138) rfl ?_
  refine xr_bipush i_X6_take_138 (q := 140) rfl ?_
  obtain ⟨m45, em45, h⟩ := xi_bV_some h
  refine xr_SV i_X6_take_140 xcse_X6_61 rfl (As := [.ref b42, .int (Int32.ofInt 0), .ref b44, .int (Int32.ofInt 0), .int ((Int8.ofInt 40).toInt32)]) rfl (rest := []) rfl ((cc_X6_take_61 S _ _ _ _ _ _).trans em45) (q := 143) rfl ?_
  refine xr_aload_n i_X6_take_143 rfl (q := 144) rfl ?_
  obtain ⟨c46, h⟩ := xi_if_some h
  obtain ⟨b47, eb47, h⟩ := xi_bind_some h
  refine xr_getR i_X6_take_144 xfe_X6_33 c46 eb47 (q := 147) rfl ?_
  refine xr_iconst i_X6_take_147 (q := 148) rfl ?_
  refine xr_aload_n i_X6_take_148 rfl (q := 149) rfl ?_
  obtain ⟨c48, h⟩ := xi_if_some h
  obtain ⟨b49, eb49, h⟩ := xi_bind_some h
  refine xr_getR i_X6_take_149 xfe_X6_33 c48 eb49 (q := 152) rfl ?_
  refine xr_iconst i_X6_take_152 (q := 153) rfl ?_
  refine xr_bipush i_X6_take_153 (q := 155) rfl ?_
  obtain ⟨m50, em50, h⟩ := xi_bV_some h
  refine xr_SV i_X6_take_155 xcse_X6_61 rfl (As := [.ref b47, .int (Int32.ofInt 0), .ref b49, .int (Int32.ofInt 0), .int ((Int8.ofInt 40).toInt32)]) rfl (rest := []) rfl ((cc_X6_take_61 S _ _ _ _ _ _).trans em50) (q := 158) rfl ?_
  refine xr_aload_n i_X6_take_158 rfl (q := 159) rfl ?_
  obtain ⟨c51, h⟩ := xi_if_some h
  obtain ⟨b52, eb52, h⟩ := xi_bind_some h
  refine xr_getR i_X6_take_159 xfe_X6_36 c51 eb52 (q := 162) rfl ?_
  refine xr_iconst i_X6_take_162 (q := 163) rfl ?_
  refine xr_aload_n i_X6_take_163 rfl (q := 164) rfl ?_
  obtain ⟨c53, h⟩ := xi_if_some h
  obtain ⟨b54, eb54, h⟩ := xi_bind_some h
  refine xr_getR i_X6_take_164 xfe_X6_36 c53 eb54 (q := 167) rfl ?_
  refine xr_iconst i_X6_take_167 (q := 168) rfl ?_
  refine xr_bipush i_X6_take_168 (q := 170) rfl ?_
  obtain ⟨m55, em55, h⟩ := xi_bV_some h
  refine xr_SV i_X6_take_170 xcse_X6_61 rfl (As := [.ref b52, .int (Int32.ofInt 0), .ref b54, .int (Int32.ofInt 0), .int ((Int8.ofInt 40).toInt32)]) rfl (rest := []) rfl ((cc_X6_take_61 S _ _ _ _ _ _).trans em55) (q := 173) rfl ?_
  exact xr_return i_X6_take_173 rfl h
set_option maxRecDepth 100000 in
theorem po_X6_take {l : Launch} {E : xi_E} {S : xi_S} {D : va_G} {tys : List (ClassId × FieldType)} (hC : xCx E S tys) : xi_Pok l E S D vwCl tys xNs RX6 xTs cX6_take 2 1 (P_X6_take S) := ⟨xi_dc_ok, by rw [hC.2]; exact xfo_X6, xkio_X6, xklo_X6, xi_calls_ok (ins := .invokestatic) (List.forall_mem_cons.mpr ⟨(xc_X6_61 hC.1 (by decide)), fun _ h => absurd h List.not_mem_nil⟩), xi_calls_ok (ins := .invokevirtual) (fun _ h => absurd h List.not_mem_nil)⟩
theorem sn_X6_take {l : Launch} {E : xi_E} {S : xi_S} {D : va_G} {tys : List (ClassId × FieldType)} (hC : xCx E S tys) : ∀ As m1 r m2, F_X6_take S As m1 = some (r, m2) → xi_Sound l E S D vwCl tys xNs xTs yX6_take cX6_take 2 none 1 As m1 r m2 := by
  intro As m1 r m2 h
  unfold F_X6_take at h
  split at h
  · exact xi_meth (P := P_X6_take S) (by decide) hC.1 (po_X6_take hC) (Nat.le_of_ble_eq_true rfl) rfl (xe_X6_take _ _ _ h)
  · exact xi_no h
theorem i_X6_hasPlayer_0 : xi_dc cX6_hasPlayer 0 = some (.iload_n 1, 1) := by decide +kernel
theorem i_X6_hasPlayer_1 : xi_dc cX6_hasPlayer 1 = some (.ifCond .lt 15, 3) := by decide +kernel
theorem t_X6_hasPlayer_1 : ((1 : Nat) : Int) + 15 = ((16 : Nat) : Int) := by decide +kernel
theorem i_X6_hasPlayer_4 : xi_dc cX6_hasPlayer 4 = some (.iload_n 1, 1) := by decide +kernel
theorem i_X6_hasPlayer_5 : xi_dc cX6_hasPlayer 5 = some (.aload_n 0, 1) := by decide +kernel
theorem i_X6_hasPlayer_6 : xi_dc cX6_hasPlayer 6 = some (.getfield 43, 3) := by decide +kernel
theorem i_X6_hasPlayer_9 : xi_dc cX6_hasPlayer 9 = some (.if_icmp .ge 7, 3) := by decide +kernel
theorem t_X6_hasPlayer_9 : ((9 : Nat) : Int) + 7 = ((16 : Nat) : Int) := by decide +kernel
theorem i_X6_hasPlayer_12 : xi_dc cX6_hasPlayer 12 = some (.iconst 1, 1) := by decide +kernel
theorem i_X6_hasPlayer_13 : xi_dc cX6_hasPlayer 13 = some (.goto 4, 3) := by decide +kernel
theorem t_X6_hasPlayer_13 : ((13 : Nat) : Int) + 4 = ((17 : Nat) : Int) := by decide +kernel
theorem i_X6_hasPlayer_16 : xi_dc cX6_hasPlayer 16 = some (.iconst 0, 1) := by decide +kernel
theorem i_X6_hasPlayer_17 : xi_dc cX6_hasPlayer 17 = some (.ireturn, 1) := by decide +kernel
def P_X6_hasPlayer (S : xi_S) : xi_P := (xi_dc cX6_hasPlayer, xi_tab xfl_X6, xi_tab xki_X6, xi_tab xkl_X6, xi_tab xcs_X6, xi_tab xcv_X6, xi_calls [], xi_calls [], 2)
def E_X6_hasPlayer (S : xi_S) (v0 : Nat) (v1 : Int32) (m : xi_M) : Option xi_R :=
  if v1 < 0 then
    if (Int32.ofInt 0) = 0 ∨ (Int32.ofInt 0) = 1 then some (some (.int (Int32.ofInt 0)), m) else none
  else
    if S.1 v0 = 8 then
      if (m.1 v0 1) ≤ v1 then
        if (Int32.ofInt 0) = 0 ∨ (Int32.ofInt 0) = 1 then some (some (.int (Int32.ofInt 0)), m) else none
      else
        if (Int32.ofInt 1) = 0 ∨ (Int32.ofInt 1) = 1 then some (some (.int (Int32.ofInt 1)), m) else none
    else none
def F_X6_hasPlayer (S : xi_S) : xi_F := fun As m => match As with
  | [.ref v0, .int v1] => E_X6_hasPlayer S v0 v1 m
  | _ => none
set_option maxRecDepth 100000 in
set_option maxHeartbeats 4000000 in
theorem xe_X6_hasPlayer {S : xi_S} {res : xi_R} (v0 : Nat) (v1 : Int32) (m : xi_M) (h : E_X6_hasPlayer S v0 v1 m = some res) : xi_X S (P_X6_hasPlayer S) (0, [some (.ref v0), some (.int v1)], [], m) res := by
  unfold E_X6_hasPlayer at h
  refine xr_iload_n i_X6_hasPlayer_0 rfl (q := 1) rfl ?_
  by_cases c3 : v1 < 0
  · replace h := (if_pos c3).symm.trans h
    refine xr_ifCond_lt_p i_X6_hasPlayer_1 c3 (q := 16) t_X6_hasPlayer_1 (q2 := 4) rfl ?_
    refine xr_iconst i_X6_hasPlayer_16 (q := 17) rfl ?_
    exact xr_zreturn i_X6_hasPlayer_17 rfl h
  · replace h := (if_neg c3).symm.trans h
    refine xr_ifCond_lt_n i_X6_hasPlayer_1 c3 (q := 16) t_X6_hasPlayer_1 (q2 := 4) rfl ?_
    refine xr_iload_n i_X6_hasPlayer_4 rfl (q := 5) rfl ?_
    refine xr_aload_n i_X6_hasPlayer_5 rfl (q := 6) rfl ?_
    obtain ⟨c1, h⟩ := xi_if_some h
    refine xr_getI i_X6_hasPlayer_6 xfe_X6_43 c1 (q := 9) rfl ?_
    by_cases c2 : (m.1 v0 1) ≤ v1
    · replace h := (if_pos c2).symm.trans h
      refine xr_if_icmp_ge_p i_X6_hasPlayer_9 c2 (q := 16) t_X6_hasPlayer_9 (q2 := 12) rfl ?_
      refine xr_iconst i_X6_hasPlayer_16 (q := 17) rfl ?_
      exact xr_zreturn i_X6_hasPlayer_17 rfl h
    · replace h := (if_neg c2).symm.trans h
      refine xr_if_icmp_ge_n i_X6_hasPlayer_9 c2 (q := 16) t_X6_hasPlayer_9 (q2 := 12) rfl ?_
      refine xr_iconst i_X6_hasPlayer_12 (q := 13) rfl ?_
      refine xr_goto i_X6_hasPlayer_13 (q := 17) t_X6_hasPlayer_13 ?_
      exact xr_zreturn i_X6_hasPlayer_17 rfl h
set_option maxRecDepth 100000 in
theorem po_X6_hasPlayer {l : Launch} {E : xi_E} {S : xi_S} {D : va_G} {tys : List (ClassId × FieldType)} (hC : xCx E S tys) : xi_Pok l E S D vwCl tys xNs RX6 xTs cX6_hasPlayer 2 0 (P_X6_hasPlayer S) := ⟨xi_dc_ok, by rw [hC.2]; exact xfo_X6, xkio_X6, xklo_X6, xi_calls_ok (ins := .invokestatic) (fun _ h => absurd h List.not_mem_nil), xi_calls_ok (ins := .invokevirtual) (fun _ h => absurd h List.not_mem_nil)⟩
theorem sn_X6_hasPlayer {l : Launch} {E : xi_E} {S : xi_S} {D : va_G} {tys : List (ClassId × FieldType)} (hC : xCx E S tys) : ∀ As m1 r m2, F_X6_hasPlayer S As m1 = some (r, m2) → xi_Sound l E S D vwCl tys xNs xTs yX6_hasPlayer cX6_hasPlayer 2 (some .boolean) 0 As m1 r m2 := by
  intro As m1 r m2 h
  unfold F_X6_hasPlayer at h
  split at h
  · exact xi_meth (P := P_X6_hasPlayer S) (by decide) hC.1 (po_X6_hasPlayer hC) (Nat.le_of_ble_eq_true rfl) rfl (xe_X6_hasPlayer _ _ _ h)
  · exact xi_no h
theorem i_X6_landingFrom_0 : xi_dc cX6_landingFrom 0 = some (.aload_n 0, 1) := by decide +kernel
theorem i_X6_landingFrom_1 : xi_dc cX6_landingFrom 1 = some (.getfield 18, 3) := by decide +kernel
theorem i_X6_landingFrom_4 : xi_dc cX6_landingFrom 4 = some (.iload_n 1, 1) := by decide +kernel
theorem i_X6_landingFrom_5 : xi_dc cX6_landingFrom 5 = some (.iaload, 1) := by decide +kernel
theorem i_X6_landingFrom_6 : xi_dc cX6_landingFrom 6 = some (.iload_n 2, 1) := by decide +kernel
theorem i_X6_landingFrom_7 : xi_dc cX6_landingFrom 7 = some (.aload_n 0, 1) := by decide +kernel
theorem i_X6_landingFrom_8 : xi_dc cX6_landingFrom 8 = some (.getfield 27, 3) := by decide +kernel
theorem i_X6_landingFrom_11 : xi_dc cX6_landingFrom 11 = some (.iload_n 1, 1) := by decide +kernel
theorem i_X6_landingFrom_12 : xi_dc cX6_landingFrom 12 = some (.iaload, 1) := by decide +kernel
theorem i_X6_landingFrom_13 : xi_dc cX6_landingFrom 13 = some (.iload_n 3, 1) := by decide +kernel
theorem i_X6_landingFrom_14 : xi_dc cX6_landingFrom 14 = some (.invokestatic 67, 3) := by decide +kernel
theorem i_X6_landingFrom_17 : xi_dc cX6_landingFrom 17 = some (.ireturn, 1) := by decide +kernel
def P_X6_landingFrom (S : xi_S) : xi_P := (xi_dc cX6_landingFrom, xi_tab xfl_X6, xi_tab xki_X6, xi_tab xkl_X6, xi_tab xcs_X6, xi_tab xcv_X6, xi_calls [(67, xi_wS 4 (F_X4_landing S))], xi_calls [], 1)
theorem cc_X6_landingFrom_67 (S : xi_S) (a0 : Int32) (a1 : Int32) (a2 : Int32) (a3 : Int32) (m : xi_M) : (P_X6_landingFrom S).2.2.2.2.2.2.1 67 [.int a0, .int a1, .int a2, .int a3] m = (E_X4_landing S a0 a1 a2 a3 m) := by
  show xi_calls [(67, xi_wS 4 (F_X4_landing S))] 67 [.int a0, .int a1, .int a2, .int a3] m = _
  refine Eq.trans (b := xi_wS 4 (F_X4_landing S) [.int a0, .int a1, .int a2, .int a3] m) (xi_calls_hit rfl) ?_
  exact xi_wS_eq rfl
def E_X6_landingFrom (S : xi_S) (v0 : Nat) (v1 : Int32) (v2 : Int32) (v3 : Int32) (m : xi_M) : Option xi_R :=
  if S.1 v0 = 8 then (S.2.2 v0 7).bind fun b2 =>
    if S.1 b2 = 0 ∧ ¬ (v1 < 0 ∨ S.2.1 b2 ≤ Int32.toNatClampNeg v1) then
      if S.1 v0 = 8 then (S.2.2 v0 10).bind fun b5 =>
        if S.1 b5 = 0 ∧ ¬ (v1 < 0 ∨ S.2.1 b5 ≤ Int32.toNatClampNeg v1) then
          xi_bI (E_X4_landing S (m.1 b2 (Int32.toNatClampNeg v1)) v2 (m.1 b5 (Int32.toNatClampNeg v1)) v3 m) fun x8 m7 =>
          some (some (.int x8), m7)
        else none
      else none
    else none
  else none
def F_X6_landingFrom (S : xi_S) : xi_F := fun As m => match As with
  | [.ref v0, .int v1, .int v2, .int v3] => E_X6_landingFrom S v0 v1 v2 v3 m
  | _ => none
set_option maxRecDepth 100000 in
set_option maxHeartbeats 4000000 in
theorem xe_X6_landingFrom {S : xi_S} {res : xi_R} (v0 : Nat) (v1 : Int32) (v2 : Int32) (v3 : Int32) (m : xi_M) (h : E_X6_landingFrom S v0 v1 v2 v3 m = some res) : xi_X S (P_X6_landingFrom S) (0, [some (.ref v0), some (.int v1), some (.int v2), some (.int v3)], [], m) res := by
  unfold E_X6_landingFrom at h
  refine xr_aload_n i_X6_landingFrom_0 rfl (q := 1) rfl ?_
  obtain ⟨c1, h⟩ := xi_if_some h
  obtain ⟨b2, eb2, h⟩ := xi_bind_some h
  refine xr_getR i_X6_landingFrom_1 xfe_X6_18 c1 eb2 (q := 4) rfl ?_
  refine xr_iload_n i_X6_landingFrom_4 rfl (q := 5) rfl ?_
  obtain ⟨c3, h⟩ := xi_if_some h
  refine xr_iaload i_X6_landingFrom_5 c3 (q := 6) rfl ?_
  refine xr_iload_n i_X6_landingFrom_6 rfl (q := 7) rfl ?_
  refine xr_aload_n i_X6_landingFrom_7 rfl (q := 8) rfl ?_
  obtain ⟨c4, h⟩ := xi_if_some h
  obtain ⟨b5, eb5, h⟩ := xi_bind_some h
  refine xr_getR i_X6_landingFrom_8 xfe_X6_27 c4 eb5 (q := 11) rfl ?_
  refine xr_iload_n i_X6_landingFrom_11 rfl (q := 12) rfl ?_
  obtain ⟨c6, h⟩ := xi_if_some h
  refine xr_iaload i_X6_landingFrom_12 c6 (q := 13) rfl ?_
  refine xr_iload_n i_X6_landingFrom_13 rfl (q := 14) rfl ?_
  obtain ⟨x8, m7, em7, h⟩ := xi_bI_some h
  refine xr_SI i_X6_landingFrom_14 xcse_X6_67 rfl (As := [.int (m.1 b2 (Int32.toNatClampNeg v1)), .int v2, .int (m.1 b5 (Int32.toNatClampNeg v1)), .int v3]) rfl (rest := []) rfl ((cc_X6_landingFrom_67 S _ _ _ _ _).trans em7) (q := 17) rfl ?_
  exact xr_ireturn i_X6_landingFrom_17 rfl h
set_option maxRecDepth 100000 in
theorem po_X6_landingFrom {l : Launch} {E : xi_E} {S : xi_S} {D : va_G} {tys : List (ClassId × FieldType)} (hC : xCx E S tys) : xi_Pok l E S D vwCl tys xNs RX6 xTs cX6_landingFrom 4 2 (P_X6_landingFrom S) := ⟨xi_dc_ok, by rw [hC.2]; exact xfo_X6, xkio_X6, xklo_X6, xi_calls_ok (ins := .invokestatic) (List.forall_mem_cons.mpr ⟨(xc_X6_67 (sn_X4_landing hC) (by decide)), fun _ h => absurd h List.not_mem_nil⟩), xi_calls_ok (ins := .invokevirtual) (fun _ h => absurd h List.not_mem_nil)⟩
theorem sn_X6_landingFrom {l : Launch} {E : xi_E} {S : xi_S} {D : va_G} {tys : List (ClassId × FieldType)} (hC : xCx E S tys) : ∀ As m1 r m2, F_X6_landingFrom S As m1 = some (r, m2) → xi_Sound l E S D vwCl tys xNs xTs yX6_landingFrom cX6_landingFrom 4 (some .int) 2 As m1 r m2 := by
  intro As m1 r m2 h
  unfold F_X6_landingFrom at h
  split at h
  · exact xi_meth (P := P_X6_landingFrom S) (by decide) hC.1 (po_X6_landingFrom hC) (Nat.le_of_ble_eq_true rfl) rfl (xe_X6_landingFrom _ _ _ _ _ h)
  · exact xi_no h
theorem i_X6_inPlaces_0 : xi_dc cX6_inPlaces 0 = some (.aload_n 0, 1) := by decide +kernel
theorem i_X6_inPlaces_1 : xi_dc cX6_inPlaces 1 = some (.getfield 39, 3) := by decide +kernel
theorem i_X6_inPlaces_4 : xi_dc cX6_inPlaces 4 = some (.aload_n 0, 1) := by decide +kernel
theorem i_X6_inPlaces_5 : xi_dc cX6_inPlaces 5 = some (.getfield 9, 3) := by decide +kernel
theorem i_X6_inPlaces_8 : xi_dc cX6_inPlaces 8 = some (.iconst 2, 1) := by decide +kernel
theorem i_X6_inPlaces_9 : xi_dc cX6_inPlaces 9 = some (.iload_n 1, 1) := by decide +kernel
theorem i_X6_inPlaces_10 : xi_dc cX6_inPlaces 10 = some (.imul, 1) := by decide +kernel
theorem i_X6_inPlaces_11 : xi_dc cX6_inPlaces 11 = some (.iaload, 1) := by decide +kernel
theorem i_X6_inPlaces_12 : xi_dc cX6_inPlaces 12 = some (.aload_n 0, 1) := by decide +kernel
theorem i_X6_inPlaces_13 : xi_dc cX6_inPlaces 13 = some (.getfield 9, 3) := by decide +kernel
theorem i_X6_inPlaces_16 : xi_dc cX6_inPlaces 16 = some (.iconst 2, 1) := by decide +kernel
theorem i_X6_inPlaces_17 : xi_dc cX6_inPlaces 17 = some (.iload_n 1, 1) := by decide +kernel
theorem i_X6_inPlaces_18 : xi_dc cX6_inPlaces 18 = some (.imul, 1) := by decide +kernel
theorem i_X6_inPlaces_19 : xi_dc cX6_inPlaces 19 = some (.iconst 1, 1) := by decide +kernel
theorem i_X6_inPlaces_20 : xi_dc cX6_inPlaces 20 = some (.iadd, 1) := by decide +kernel
theorem i_X6_inPlaces_21 : xi_dc cX6_inPlaces 21 = some (.iaload, 1) := by decide +kernel
theorem i_X6_inPlaces_22 : xi_dc cX6_inPlaces 22 = some (.invokestatic 95, 3) := by decide +kernel
theorem i_X6_inPlaces_25 : xi_dc cX6_inPlaces 25 = some (.aload_n 0, 1) := by decide +kernel
theorem i_X6_inPlaces_26 : xi_dc cX6_inPlaces 26 = some (.iload_n 1, 1) := by decide +kernel
theorem i_X6_inPlaces_27 : xi_dc cX6_inPlaces 27 = some (.invokevirtual 99, 3) := by decide +kernel
theorem i_X6_inPlaces_30 : xi_dc cX6_inPlaces 30 = some (.iand, 1) := by decide +kernel
theorem i_X6_inPlaces_31 : xi_dc cX6_inPlaces 31 = some (.ireturn, 1) := by decide +kernel
def P_X6_inPlaces (S : xi_S) : xi_P := (xi_dc cX6_inPlaces, xi_tab xfl_X6, xi_tab xki_X6, xi_tab xkl_X6, xi_tab xcs_X6, xi_tab xcv_X6, xi_calls [(95, xi_wS 3 (F_X8_between S))], xi_calls [(99, xi_wV S 8 1 (F_X6_openPlaces S))], 1)
theorem cc_X6_inPlaces_95 (S : xi_S) (a0 : Int32) (a1 : Int32) (a2 : Int32) (m : xi_M) : (P_X6_inPlaces S).2.2.2.2.2.2.1 95 [.int a0, .int a1, .int a2] m = (E_X8_between S a0 a1 a2 m) := by
  show xi_calls [(95, xi_wS 3 (F_X8_between S))] 95 [.int a0, .int a1, .int a2] m = _
  refine Eq.trans (b := xi_wS 3 (F_X8_between S) [.int a0, .int a1, .int a2] m) (xi_calls_hit rfl) ?_
  exact xi_wS_eq rfl
theorem cc_X6_inPlaces_99 (S : xi_S) (a0 : Nat) (a1 : Int32) (m : xi_M) : (P_X6_inPlaces S).2.2.2.2.2.2.2.1 99 [.ref a0, .int a1] m = (if S.1 a0 = 8 then E_X6_openPlaces S a0 a1 m else none) := by
  show xi_calls [(99, xi_wV S 8 1 (F_X6_openPlaces S))] 99 [.ref a0, .int a1] m = _
  refine Eq.trans (b := xi_wV S 8 1 (F_X6_openPlaces S) [.ref a0, .int a1] m) (xi_calls_hit rfl) ?_
  exact xi_wV_eq rfl
def E_X6_inPlaces (S : xi_S) (v0 : Nat) (v1 : Int32) (m : xi_M) : Option xi_R :=
  if S.1 v0 = 8 then
    if S.1 v0 = 8 then (S.2.2 v0 5).bind fun b3 =>
      if S.1 b3 = 0 ∧ ¬ (((Int32.ofInt 2) * v1) < 0 ∨ S.2.1 b3 ≤ Int32.toNatClampNeg ((Int32.ofInt 2) * v1)) then
        if S.1 v0 = 8 then (S.2.2 v0 5).bind fun b6 =>
          if S.1 b6 = 0 ∧ ¬ ((((Int32.ofInt 2) * v1) + (Int32.ofInt 1)) < 0 ∨ S.2.1 b6 ≤ Int32.toNatClampNeg (((Int32.ofInt 2) * v1) + (Int32.ofInt 1))) then
            xi_bI (E_X8_between S (m.1 v0 0) (m.1 b3 (Int32.toNatClampNeg ((Int32.ofInt 2) * v1))) (m.1 b6 (Int32.toNatClampNeg (((Int32.ofInt 2) * v1) + (Int32.ofInt 1)))) m) fun x9 m8 =>
            xi_bI (if S.1 v0 = 8 then E_X6_openPlaces S v0 v1 m8 else none) fun x11 m10 =>
            some (some (.int (x9 &&& x11)), m10)
          else none
        else none
      else none
    else none
  else none
def F_X6_inPlaces (S : xi_S) : xi_F := fun As m => match As with
  | [.ref v0, .int v1] => E_X6_inPlaces S v0 v1 m
  | _ => none
set_option maxRecDepth 100000 in
set_option maxHeartbeats 4000000 in
theorem xe_X6_inPlaces {S : xi_S} {res : xi_R} (v0 : Nat) (v1 : Int32) (m : xi_M) (h : E_X6_inPlaces S v0 v1 m = some res) : xi_X S (P_X6_inPlaces S) (0, [some (.ref v0), some (.int v1)], [], m) res := by
  unfold E_X6_inPlaces at h
  refine xr_aload_n i_X6_inPlaces_0 rfl (q := 1) rfl ?_
  obtain ⟨c1, h⟩ := xi_if_some h
  refine xr_getI i_X6_inPlaces_1 xfe_X6_39 c1 (q := 4) rfl ?_
  refine xr_aload_n i_X6_inPlaces_4 rfl (q := 5) rfl ?_
  obtain ⟨c2, h⟩ := xi_if_some h
  obtain ⟨b3, eb3, h⟩ := xi_bind_some h
  refine xr_getR i_X6_inPlaces_5 xfe_X6_9 c2 eb3 (q := 8) rfl ?_
  refine xr_iconst i_X6_inPlaces_8 (q := 9) rfl ?_
  refine xr_iload_n i_X6_inPlaces_9 rfl (q := 10) rfl ?_
  refine xr_imul i_X6_inPlaces_10 (q := 11) rfl ?_
  obtain ⟨c4, h⟩ := xi_if_some h
  refine xr_iaload i_X6_inPlaces_11 c4 (q := 12) rfl ?_
  refine xr_aload_n i_X6_inPlaces_12 rfl (q := 13) rfl ?_
  obtain ⟨c5, h⟩ := xi_if_some h
  obtain ⟨b6, eb6, h⟩ := xi_bind_some h
  refine xr_getR i_X6_inPlaces_13 xfe_X6_9 c5 eb6 (q := 16) rfl ?_
  refine xr_iconst i_X6_inPlaces_16 (q := 17) rfl ?_
  refine xr_iload_n i_X6_inPlaces_17 rfl (q := 18) rfl ?_
  refine xr_imul i_X6_inPlaces_18 (q := 19) rfl ?_
  refine xr_iconst i_X6_inPlaces_19 (q := 20) rfl ?_
  refine xr_iadd i_X6_inPlaces_20 (q := 21) rfl ?_
  obtain ⟨c7, h⟩ := xi_if_some h
  refine xr_iaload i_X6_inPlaces_21 c7 (q := 22) rfl ?_
  obtain ⟨x9, m8, em8, h⟩ := xi_bI_some h
  refine xr_SI i_X6_inPlaces_22 xcse_X6_95 rfl (As := [.int (m.1 v0 0), .int (m.1 b3 (Int32.toNatClampNeg ((Int32.ofInt 2) * v1))), .int (m.1 b6 (Int32.toNatClampNeg (((Int32.ofInt 2) * v1) + (Int32.ofInt 1))))]) rfl (rest := []) rfl ((cc_X6_inPlaces_95 S _ _ _ _).trans em8) (q := 25) rfl ?_
  refine xr_aload_n i_X6_inPlaces_25 rfl (q := 26) rfl ?_
  refine xr_iload_n i_X6_inPlaces_26 rfl (q := 27) rfl ?_
  obtain ⟨x11, m10, em10, h⟩ := xi_bI_some h
  refine xr_VI i_X6_inPlaces_27 xcve_X6_99 rfl (As := [.ref v0, .int v1]) rfl (rest := [.int x9]) rfl ((cc_X6_inPlaces_99 S _ _ _).trans em10) (q := 30) rfl ?_
  refine xr_iand i_X6_inPlaces_30 (q := 31) rfl ?_
  exact xr_ireturn i_X6_inPlaces_31 rfl h
set_option maxRecDepth 100000 in
theorem po_X6_inPlaces {l : Launch} {E : xi_E} {S : xi_S} {D : va_G} {tys : List (ClassId × FieldType)} (hC : xCx E S tys) : xi_Pok l E S D vwCl tys xNs RX6 xTs cX6_inPlaces 2 3 (P_X6_inPlaces S) := ⟨xi_dc_ok, by rw [hC.2]; exact xfo_X6, xkio_X6, xklo_X6, xi_calls_ok (ins := .invokestatic) (List.forall_mem_cons.mpr ⟨(xc_X6_95 (sn_X8_between hC) (by decide)), fun _ h => absurd h List.not_mem_nil⟩), xi_calls_ok (ins := .invokevirtual) (List.forall_mem_cons.mpr ⟨(xc_X6_99 hC.1 (sn_X6_openPlaces hC) (by decide)), fun _ h => absurd h List.not_mem_nil⟩)⟩
theorem sn_X6_inPlaces {l : Launch} {E : xi_E} {S : xi_S} {D : va_G} {tys : List (ClassId × FieldType)} (hC : xCx E S tys) : ∀ As m1 r m2, F_X6_inPlaces S As m1 = some (r, m2) → xi_Sound l E S D vwCl tys xNs xTs yX6_inPlaces cX6_inPlaces 2 (some .int) 3 As m1 r m2 := by
  intro As m1 r m2 h
  unfold F_X6_inPlaces at h
  split at h
  · exact xi_meth (P := P_X6_inPlaces S) (by decide) hC.1 (po_X6_inPlaces hC) (Nat.le_of_ble_eq_true rfl) rfl (xe_X6_inPlaces _ _ _ h)
  · exact xi_no h
