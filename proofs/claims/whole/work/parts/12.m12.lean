theorem i_X9_tellsOf_0 : xi_dc cX9_tellsOf 0 = some (.bipush 10, 2) := by decide +kernel
theorem i_X9_tellsOf_2 : xi_dc cX9_tellsOf 2 = some (.iconst 4, 1) := by decide +kernel
theorem i_X9_tellsOf_3 : xi_dc cX9_tellsOf 3 = some (.iload_n 1, 1) := by decide +kernel
theorem i_X9_tellsOf_4 : xi_dc cX9_tellsOf 4 = some (.imul, 1) := by decide +kernel
theorem i_X9_tellsOf_5 : xi_dc cX9_tellsOf 5 = some (.iadd, 1) := by decide +kernel
theorem i_X9_tellsOf_6 : xi_dc cX9_tellsOf 6 = some (.istore_n 3, 1) := by decide +kernel
theorem i_X9_tellsOf_7 : xi_dc cX9_tellsOf 7 = some (.iload_n 2, 1) := by decide +kernel
theorem i_X9_tellsOf_8 : xi_dc cX9_tellsOf 8 = some (.tableswitch 63 4 6 #[28, 37, 54], 28) := by decide +kernel
theorem i_X9_tellsOf_36 : xi_dc cX9_tellsOf 36 = some (.aload_n 0, 1) := by decide +kernel
theorem i_X9_tellsOf_37 : xi_dc cX9_tellsOf 37 = some (.getfield 25, 3) := by decide +kernel
theorem i_X9_tellsOf_40 : xi_dc cX9_tellsOf 40 = some (.iload_n 1, 1) := by decide +kernel
theorem i_X9_tellsOf_41 : xi_dc cX9_tellsOf 41 = some (.invokestatic 154, 3) := by decide +kernel
theorem i_X9_tellsOf_44 : xi_dc cX9_tellsOf 44 = some (.ireturn, 1) := by decide +kernel
theorem i_X9_tellsOf_45 : xi_dc cX9_tellsOf 45 = some (.aload_n 0, 1) := by decide +kernel
theorem i_X9_tellsOf_46 : xi_dc cX9_tellsOf 46 = some (.getfield 25, 3) := by decide +kernel
theorem i_X9_tellsOf_49 : xi_dc cX9_tellsOf 49 = some (.iload_n 1, 1) := by decide +kernel
theorem i_X9_tellsOf_50 : xi_dc cX9_tellsOf 50 = some (.invokestatic 160, 3) := by decide +kernel
theorem i_X9_tellsOf_53 : xi_dc cX9_tellsOf 53 = some (.ifCond .eq 7, 3) := by decide +kernel
theorem t_X9_tellsOf_53 : ((53 : Nat) : Int) + 7 = ((60 : Nat) : Int) := by decide +kernel
theorem i_X9_tellsOf_56 : xi_dc cX9_tellsOf 56 = some (.iconst 1, 1) := by decide +kernel
theorem i_X9_tellsOf_57 : xi_dc cX9_tellsOf 57 = some (.goto 4, 3) := by decide +kernel
theorem t_X9_tellsOf_57 : ((57 : Nat) : Int) + 4 = ((61 : Nat) : Int) := by decide +kernel
theorem i_X9_tellsOf_60 : xi_dc cX9_tellsOf 60 = some (.iconst 0, 1) := by decide +kernel
theorem i_X9_tellsOf_61 : xi_dc cX9_tellsOf 61 = some (.ireturn, 1) := by decide +kernel
theorem i_X9_tellsOf_62 : xi_dc cX9_tellsOf 62 = some (.aload_n 0, 1) := by decide +kernel
theorem i_X9_tellsOf_63 : xi_dc cX9_tellsOf 63 = some (.getfield 25, 3) := by decide +kernel
theorem i_X9_tellsOf_66 : xi_dc cX9_tellsOf 66 = some (.iload_n 1, 1) := by decide +kernel
theorem i_X9_tellsOf_67 : xi_dc cX9_tellsOf 67 = some (.invokestatic 139, 3) := by decide +kernel
theorem i_X9_tellsOf_70 : xi_dc cX9_tellsOf 70 = some (.ireturn, 1) := by decide +kernel
theorem i_X9_tellsOf_71 : xi_dc cX9_tellsOf 71 = some (.aload_n 0, 1) := by decide +kernel
theorem i_X9_tellsOf_72 : xi_dc cX9_tellsOf 72 = some (.getfield 25, 3) := by decide +kernel
theorem i_X9_tellsOf_75 : xi_dc cX9_tellsOf 75 = some (.iload_n 3, 1) := by decide +kernel
theorem i_X9_tellsOf_76 : xi_dc cX9_tellsOf 76 = some (.iload_n 2, 1) := by decide +kernel
theorem i_X9_tellsOf_77 : xi_dc cX9_tellsOf 77 = some (.iadd, 1) := by decide +kernel
theorem i_X9_tellsOf_78 : xi_dc cX9_tellsOf 78 = some (.iaload, 1) := by decide +kernel
theorem i_X9_tellsOf_79 : xi_dc cX9_tellsOf 79 = some (.ireturn, 1) := by decide +kernel
def P_X9_tellsOf (S : xi_S) : xi_P := (xi_dc cX9_tellsOf, xi_tab xfl_X9, xi_tab xki_X9, xi_tab xkl_X9, xi_tab xcs_X9, xi_tab xcv_X9, xi_calls [(139, xi_wS 2 (F_X9_reach S)), (154, xi_wS 2 (F_X9_ball S)), (160, xi_wS 2 (F_X9_isScored S))], xi_calls [], 1)
theorem cc_X9_tellsOf_139 (S : xi_S) (a0 : Nat) (a1 : Int32) (m : xi_M) : (P_X9_tellsOf S).2.2.2.2.2.2.1 139 [.ref a0, .int a1] m = (E_X9_reach S a0 a1 m) := by
  show xi_calls [(139, xi_wS 2 (F_X9_reach S)), (154, xi_wS 2 (F_X9_ball S)), (160, xi_wS 2 (F_X9_isScored S))] 139 [.ref a0, .int a1] m = _
  refine Eq.trans (b := xi_wS 2 (F_X9_reach S) [.ref a0, .int a1] m) (xi_calls_hit rfl) ?_
  exact xi_wS_eq rfl
theorem cc_X9_tellsOf_154 (S : xi_S) (a0 : Nat) (a1 : Int32) (m : xi_M) : (P_X9_tellsOf S).2.2.2.2.2.2.1 154 [.ref a0, .int a1] m = (E_X9_ball S a0 a1 m) := by
  show xi_calls [(139, xi_wS 2 (F_X9_reach S)), (154, xi_wS 2 (F_X9_ball S)), (160, xi_wS 2 (F_X9_isScored S))] 154 [.ref a0, .int a1] m = _
  refine Eq.trans (b := xi_calls [(154, xi_wS 2 (F_X9_ball S)), (160, xi_wS 2 (F_X9_isScored S))] 154 [.ref a0, .int a1] m) (xi_calls_miss rfl) ?_
  refine Eq.trans (b := xi_wS 2 (F_X9_ball S) [.ref a0, .int a1] m) (xi_calls_hit rfl) ?_
  exact xi_wS_eq rfl
theorem cc_X9_tellsOf_160 (S : xi_S) (a0 : Nat) (a1 : Int32) (m : xi_M) : (P_X9_tellsOf S).2.2.2.2.2.2.1 160 [.ref a0, .int a1] m = (E_X9_isScored S a0 a1 m) := by
  show xi_calls [(139, xi_wS 2 (F_X9_reach S)), (154, xi_wS 2 (F_X9_ball S)), (160, xi_wS 2 (F_X9_isScored S))] 160 [.ref a0, .int a1] m = _
  refine Eq.trans (b := xi_calls [(154, xi_wS 2 (F_X9_ball S)), (160, xi_wS 2 (F_X9_isScored S))] 160 [.ref a0, .int a1] m) (xi_calls_miss rfl) ?_
  refine Eq.trans (b := xi_calls [(160, xi_wS 2 (F_X9_isScored S))] 160 [.ref a0, .int a1] m) (xi_calls_miss rfl) ?_
  refine Eq.trans (b := xi_wS 2 (F_X9_isScored S) [.ref a0, .int a1] m) (xi_calls_hit rfl) ?_
  exact xi_wS_eq rfl
def E_X9_tellsOf (S : xi_S) (v0 : Nat) (v1 : Int32) (v2 : Int32) (m : xi_M) : Option xi_R :=
  if Int32.toInt v2 = 4 then
    if S.1 v0 = 11 then (S.2.2 v0 5).bind fun b3 =>
      xi_bI (E_X9_ball S b3 v1 m) fun x5 m4 =>
      some (some (.int x5), m4)
    else none
  else
    if Int32.toInt v2 = 5 then
      if S.1 v0 = 11 then (S.2.2 v0 5).bind fun b8 =>
        xi_bI (E_X9_isScored S b8 v1 m) fun x10 m9 =>
        if x10 = 0 then
          some (some (.int (Int32.ofInt 0)), m9)
        else
          some (some (.int (Int32.ofInt 1)), m9)
      else none
    else
      if Int32.toInt v2 = 6 then
        if S.1 v0 = 11 then (S.2.2 v0 5).bind fun b14 =>
          xi_bI (E_X9_reach S b14 v1 m) fun x16 m15 =>
          some (some (.int x16), m15)
        else none
      else
        if S.1 v0 = 11 then (S.2.2 v0 5).bind fun b18 =>
          if S.1 b18 = 0 ∧ ¬ (((((Int8.ofInt 10).toInt32) + ((Int32.ofInt 4) * v1)) + v2) < 0 ∨ S.2.1 b18 ≤ Int32.toNatClampNeg ((((Int8.ofInt 10).toInt32) + ((Int32.ofInt 4) * v1)) + v2)) then
            some (some (.int (m.1 b18 (Int32.toNatClampNeg ((((Int8.ofInt 10).toInt32) + ((Int32.ofInt 4) * v1)) + v2)))), m)
          else none
        else none
def F_X9_tellsOf (S : xi_S) : xi_F := fun As m => match As with
  | [.ref v0, .int v1, .int v2] => E_X9_tellsOf S v0 v1 v2 m
  | _ => none
set_option maxRecDepth 100000 in
set_option maxHeartbeats 4000000 in
theorem xe_X9_tellsOf {S : xi_S} {res : xi_R} (v0 : Nat) (v1 : Int32) (v2 : Int32) (m : xi_M) (h : E_X9_tellsOf S v0 v1 v2 m = some res) : xi_X S (P_X9_tellsOf S) (0, [some (.ref v0), some (.int v1), some (.int v2), none], [], m) res := by
  unfold E_X9_tellsOf at h
  refine xr_bipush i_X9_tellsOf_0 (q := 2) rfl ?_
  refine xr_iconst i_X9_tellsOf_2 (q := 3) rfl ?_
  refine xr_iload_n i_X9_tellsOf_3 rfl (q := 4) rfl ?_
  refine xr_imul i_X9_tellsOf_4 (q := 5) rfl ?_
  refine xr_iadd i_X9_tellsOf_5 (q := 6) rfl ?_
  refine xr_istore_n i_X9_tellsOf_6 rfl (L2 := [some (.ref v0), some (.int v1), some (.int v2), some (.int (((Int8.ofInt 10).toInt32) + ((Int32.ofInt 4) * v1)))]) rfl (q := 7) rfl ?_
  refine xr_iload_n i_X9_tellsOf_7 rfl (q := 8) rfl ?_
  by_cases c1 : Int32.toInt v2 = 4
  · replace h := (if_pos c1).symm.trans h
    refine xr_table i_X9_tellsOf_8 rfl (off := 28) (fun kk => xi_sw_hit c1) (q := 36) rfl ?_
    refine xr_aload_n i_X9_tellsOf_36 rfl (q := 37) rfl ?_
    obtain ⟨c2, h⟩ := xi_if_some h
    obtain ⟨b3, eb3, h⟩ := xi_bind_some h
    refine xr_getR i_X9_tellsOf_37 xfe_X9_25 c2 eb3 (q := 40) rfl ?_
    refine xr_iload_n i_X9_tellsOf_40 rfl (q := 41) rfl ?_
    obtain ⟨x5, m4, em4, h⟩ := xi_bI_some h
    refine xr_SI i_X9_tellsOf_41 xcse_X9_154 rfl (As := [.ref b3, .int v1]) rfl (rest := []) rfl ((cc_X9_tellsOf_154 S _ _ _).trans em4) (q := 44) rfl ?_
    exact xr_ireturn i_X9_tellsOf_44 rfl h
  · replace h := (if_neg c1).symm.trans h
    by_cases c6 : Int32.toInt v2 = 5
    · replace h := (if_pos c6).symm.trans h
      refine xr_table i_X9_tellsOf_8 rfl (off := 37) (fun kk => (xi_sw_miss c1).trans (xi_sw_hit c6)) (q := 45) rfl ?_
      refine xr_aload_n i_X9_tellsOf_45 rfl (q := 46) rfl ?_
      obtain ⟨c7, h⟩ := xi_if_some h
      obtain ⟨b8, eb8, h⟩ := xi_bind_some h
      refine xr_getR i_X9_tellsOf_46 xfe_X9_25 c7 eb8 (q := 49) rfl ?_
      refine xr_iload_n i_X9_tellsOf_49 rfl (q := 50) rfl ?_
      obtain ⟨x10, m9, em9, h⟩ := xi_bI_some h
      refine xr_SI i_X9_tellsOf_50 xcse_X9_160 rfl (As := [.ref b8, .int v1]) rfl (rest := []) rfl ((cc_X9_tellsOf_160 S _ _ _).trans em9) (q := 53) rfl ?_
      by_cases c11 : x10 = 0
      · replace h := (if_pos c11).symm.trans h
        refine xr_ifCond_eq_p i_X9_tellsOf_53 c11 (q := 60) t_X9_tellsOf_53 (q2 := 56) rfl ?_
        refine xr_iconst i_X9_tellsOf_60 (q := 61) rfl ?_
        exact xr_ireturn i_X9_tellsOf_61 rfl h
      · replace h := (if_neg c11).symm.trans h
        refine xr_ifCond_eq_n i_X9_tellsOf_53 c11 (q := 60) t_X9_tellsOf_53 (q2 := 56) rfl ?_
        refine xr_iconst i_X9_tellsOf_56 (q := 57) rfl ?_
        refine xr_goto i_X9_tellsOf_57 (q := 61) t_X9_tellsOf_57 ?_
        exact xr_ireturn i_X9_tellsOf_61 rfl h
    · replace h := (if_neg c6).symm.trans h
      by_cases c12 : Int32.toInt v2 = 6
      · replace h := (if_pos c12).symm.trans h
        refine xr_table i_X9_tellsOf_8 rfl (off := 54) (fun kk => (xi_sw_miss c1).trans ((xi_sw_miss c6).trans (xi_sw_hit c12))) (q := 62) rfl ?_
        refine xr_aload_n i_X9_tellsOf_62 rfl (q := 63) rfl ?_
        obtain ⟨c13, h⟩ := xi_if_some h
        obtain ⟨b14, eb14, h⟩ := xi_bind_some h
        refine xr_getR i_X9_tellsOf_63 xfe_X9_25 c13 eb14 (q := 66) rfl ?_
        refine xr_iload_n i_X9_tellsOf_66 rfl (q := 67) rfl ?_
        obtain ⟨x16, m15, em15, h⟩ := xi_bI_some h
        refine xr_SI i_X9_tellsOf_67 xcse_X9_139 rfl (As := [.ref b14, .int v1]) rfl (rest := []) rfl ((cc_X9_tellsOf_139 S _ _ _).trans em15) (q := 70) rfl ?_
        exact xr_ireturn i_X9_tellsOf_70 rfl h
      · replace h := (if_neg c12).symm.trans h
        refine xr_table i_X9_tellsOf_8 rfl (off := 63) (fun kk => (xi_sw_miss c1).trans ((xi_sw_miss c6).trans ((xi_sw_miss c12).trans (rfl)))) (q := 71) rfl ?_
        refine xr_aload_n i_X9_tellsOf_71 rfl (q := 72) rfl ?_
        obtain ⟨c17, h⟩ := xi_if_some h
        obtain ⟨b18, eb18, h⟩ := xi_bind_some h
        refine xr_getR i_X9_tellsOf_72 xfe_X9_25 c17 eb18 (q := 75) rfl ?_
        refine xr_iload_n i_X9_tellsOf_75 rfl (q := 76) rfl ?_
        refine xr_iload_n i_X9_tellsOf_76 rfl (q := 77) rfl ?_
        refine xr_iadd i_X9_tellsOf_77 (q := 78) rfl ?_
        obtain ⟨c19, h⟩ := xi_if_some h
        refine xr_iaload i_X9_tellsOf_78 c19 (q := 79) rfl ?_
        exact xr_ireturn i_X9_tellsOf_79 rfl h
set_option maxRecDepth 100000 in
theorem po_X9_tellsOf {l : Launch} {E : xi_E} {S : xi_S} {D : va_G} {tys : List (ClassId × FieldType)} (hC : xCx E S tys) : xi_Pok l E S D vwCl tys xNs RX9 xTs cX9_tellsOf 4 6 (P_X9_tellsOf S) := ⟨xi_dc_ok, by rw [hC.2]; exact xfo_X9, xkio_X9, xklo_X9, xi_calls_ok (ins := .invokestatic) (List.forall_mem_cons.mpr ⟨(xc_X9_139 (sn_X9_reach hC) (by decide)), List.forall_mem_cons.mpr ⟨(xc_X9_154 (sn_X9_ball hC) (by decide)), List.forall_mem_cons.mpr ⟨(xc_X9_160 (sn_X9_isScored hC) (by decide)), fun _ h => absurd h List.not_mem_nil⟩⟩⟩), xi_calls_ok (ins := .invokevirtual) (fun _ h => absurd h List.not_mem_nil)⟩
theorem sn_X9_tellsOf {l : Launch} {E : xi_E} {S : xi_S} {D : va_G} {tys : List (ClassId × FieldType)} (hC : xCx E S tys) : ∀ As m1 r m2, F_X9_tellsOf S As m1 = some (r, m2) → xi_Sound l E S D vwCl tys xNs xTs yX9_tellsOf cX9_tellsOf 4 (some .int) 6 As m1 r m2 := by
  intro As m1 r m2 h
  unfold F_X9_tellsOf at h
  split at h
  · exact xi_meth (P := P_X9_tellsOf S) (by decide) hC.1 (po_X9_tellsOf hC) (Nat.le_of_ble_eq_true rfl) rfl (xe_X9_tellsOf _ _ _ _ h)
  · exact xi_no h
theorem i_X9_player_0 : xi_dc cX9_player 0 = some (.aload_n 0, 1) := by decide +kernel
theorem i_X9_player_1 : xi_dc cX9_player 1 = some (.iload_n 1, 1) := by decide +kernel
theorem i_X9_player_2 : xi_dc cX9_player 2 = some (.invokevirtual 167, 3) := by decide +kernel
theorem i_X9_player_5 : xi_dc cX9_player 5 = some (.ifCond .eq 13, 3) := by decide +kernel
theorem t_X9_player_5 : ((5 : Nat) : Int) + 13 = ((18 : Nat) : Int) := by decide +kernel
theorem i_X9_player_8 : xi_dc cX9_player 8 = some (.iload_n 2, 1) := by decide +kernel
theorem i_X9_player_9 : xi_dc cX9_player 9 = some (.iconst 0, 1) := by decide +kernel
theorem i_X9_player_10 : xi_dc cX9_player 10 = some (.bipush 6, 2) := by decide +kernel
theorem i_X9_player_12 : xi_dc cX9_player 12 = some (.invokestatic 63, 3) := by decide +kernel
theorem i_X9_player_15 : xi_dc cX9_player 15 = some (.ifCond .ne 5, 3) := by decide +kernel
theorem t_X9_player_15 : ((15 : Nat) : Int) + 5 = ((20 : Nat) : Int) := by decide +kernel
theorem i_X9_player_18 : xi_dc cX9_player 18 = some (.iconst (-1), 1) := by decide +kernel
theorem i_X9_player_19 : xi_dc cX9_player 19 = some (.ireturn, 1) := by decide +kernel
theorem i_X9_player_20 : xi_dc cX9_player 20 = some (.aload_n 0, 1) := by decide +kernel
theorem i_X9_player_21 : xi_dc cX9_player 21 = some (.aload_n 0, 1) := by decide +kernel
theorem i_X9_player_22 : xi_dc cX9_player 22 = some (.iload_n 1, 1) := by decide +kernel
theorem i_X9_player_23 : xi_dc cX9_player 23 = some (.iload_n 2, 1) := by decide +kernel
theorem i_X9_player_24 : xi_dc cX9_player 24 = some (.invokevirtual 170, 3) := by decide +kernel
theorem i_X9_player_27 : xi_dc cX9_player 27 = some (.invokevirtual 75, 3) := by decide +kernel
theorem i_X9_player_30 : xi_dc cX9_player 30 = some (.ireturn, 1) := by decide +kernel
def P_X9_player (S : xi_S) : xi_P := (xi_dc cX9_player, xi_tab xfl_X9, xi_tab xki_X9, xi_tab xkl_X9, xi_tab xcs_X9, xi_tab xcv_X9, xi_calls [(63, xi_wS 3 (F_X9_in0 S))], xi_calls [(75, xi_wV S 11 1 (F_X9_tells S)), (167, xi_wV S 11 1 (F_X9_isPlayer S)), (170, xi_wV S 11 2 (F_X9_tellsOf S))], 1)
theorem cc_X9_player_63 (S : xi_S) (a0 : Int32) (a1 : Int32) (a2 : Int32) (m : xi_M) : (P_X9_player S).2.2.2.2.2.2.1 63 [.int a0, .int a1, .int a2] m = (E_X9_in0 S a0 a1 a2 m) := by
  show xi_calls [(63, xi_wS 3 (F_X9_in0 S))] 63 [.int a0, .int a1, .int a2] m = _
  refine Eq.trans (b := xi_wS 3 (F_X9_in0 S) [.int a0, .int a1, .int a2] m) (xi_calls_hit rfl) ?_
  exact xi_wS_eq rfl
theorem cc_X9_player_75 (S : xi_S) (a0 : Nat) (a1 : Int32) (m : xi_M) : (P_X9_player S).2.2.2.2.2.2.2.1 75 [.ref a0, .int a1] m = (if S.1 a0 = 11 then E_X9_tells S a0 a1 m else none) := by
  show xi_calls [(75, xi_wV S 11 1 (F_X9_tells S)), (167, xi_wV S 11 1 (F_X9_isPlayer S)), (170, xi_wV S 11 2 (F_X9_tellsOf S))] 75 [.ref a0, .int a1] m = _
  refine Eq.trans (b := xi_wV S 11 1 (F_X9_tells S) [.ref a0, .int a1] m) (xi_calls_hit rfl) ?_
  exact xi_wV_eq rfl
theorem cc_X9_player_167 (S : xi_S) (a0 : Nat) (a1 : Int32) (m : xi_M) : (P_X9_player S).2.2.2.2.2.2.2.1 167 [.ref a0, .int a1] m = (if S.1 a0 = 11 then E_X9_isPlayer S a0 a1 m else none) := by
  show xi_calls [(75, xi_wV S 11 1 (F_X9_tells S)), (167, xi_wV S 11 1 (F_X9_isPlayer S)), (170, xi_wV S 11 2 (F_X9_tellsOf S))] 167 [.ref a0, .int a1] m = _
  refine Eq.trans (b := xi_calls [(167, xi_wV S 11 1 (F_X9_isPlayer S)), (170, xi_wV S 11 2 (F_X9_tellsOf S))] 167 [.ref a0, .int a1] m) (xi_calls_miss rfl) ?_
  refine Eq.trans (b := xi_wV S 11 1 (F_X9_isPlayer S) [.ref a0, .int a1] m) (xi_calls_hit rfl) ?_
  exact xi_wV_eq rfl
theorem cc_X9_player_170 (S : xi_S) (a0 : Nat) (a1 : Int32) (a2 : Int32) (m : xi_M) : (P_X9_player S).2.2.2.2.2.2.2.1 170 [.ref a0, .int a1, .int a2] m = (if S.1 a0 = 11 then E_X9_tellsOf S a0 a1 a2 m else none) := by
  show xi_calls [(75, xi_wV S 11 1 (F_X9_tells S)), (167, xi_wV S 11 1 (F_X9_isPlayer S)), (170, xi_wV S 11 2 (F_X9_tellsOf S))] 170 [.ref a0, .int a1, .int a2] m = _
  refine Eq.trans (b := xi_calls [(167, xi_wV S 11 1 (F_X9_isPlayer S)), (170, xi_wV S 11 2 (F_X9_tellsOf S))] 170 [.ref a0, .int a1, .int a2] m) (xi_calls_miss rfl) ?_
  refine Eq.trans (b := xi_calls [(170, xi_wV S 11 2 (F_X9_tellsOf S))] 170 [.ref a0, .int a1, .int a2] m) (xi_calls_miss rfl) ?_
  refine Eq.trans (b := xi_wV S 11 2 (F_X9_tellsOf S) [.ref a0, .int a1, .int a2] m) (xi_calls_hit rfl) ?_
  exact xi_wV_eq rfl
def E_X9_player (S : xi_S) (v0 : Nat) (v1 : Int32) (v2 : Int32) (m : xi_M) : Option xi_R :=
  xi_bI (if S.1 v0 = 11 then E_X9_isPlayer S v0 v1 m else none) fun x2 m1 =>
  if x2 = 0 then
    some (some (.int (Int32.ofInt (-1))), m1)
  else
    xi_bI (E_X9_in0 S v2 (Int32.ofInt 0) ((Int8.ofInt 6).toInt32) m1) fun x4 m3 =>
    if x4 = 0 then
      some (some (.int (Int32.ofInt (-1))), m3)
    else
      xi_bI (if S.1 v0 = 11 then E_X9_tellsOf S v0 v1 v2 m3 else none) fun x6 m5 =>
      xi_bI (if S.1 v0 = 11 then E_X9_tells S v0 x6 m5 else none) fun x8 m7 =>
      some (some (.int x8), m7)
def F_X9_player (S : xi_S) : xi_F := fun As m => match As with
  | [.ref v0, .int v1, .int v2] => E_X9_player S v0 v1 v2 m
  | _ => none
set_option maxRecDepth 100000 in
set_option maxHeartbeats 4000000 in
theorem xe_X9_player {S : xi_S} {res : xi_R} (v0 : Nat) (v1 : Int32) (v2 : Int32) (m : xi_M) (h : E_X9_player S v0 v1 v2 m = some res) : xi_X S (P_X9_player S) (0, [some (.ref v0), some (.int v1), some (.int v2)], [], m) res := by
  unfold E_X9_player at h
  refine xr_aload_n i_X9_player_0 rfl (q := 1) rfl ?_
  refine xr_iload_n i_X9_player_1 rfl (q := 2) rfl ?_
  obtain ⟨x2, m1, em1, h⟩ := xi_bI_some h
  refine xr_VI i_X9_player_2 xcve_X9_167 rfl (As := [.ref v0, .int v1]) rfl (rest := []) rfl ((cc_X9_player_167 S _ _ _).trans em1) (q := 5) rfl ?_
  by_cases c10 : x2 = 0
  · replace h := (if_pos c10).symm.trans h
    refine xr_ifCond_eq_p i_X9_player_5 c10 (q := 18) t_X9_player_5 (q2 := 8) rfl ?_
    refine xr_iconst i_X9_player_18 (q := 19) rfl ?_
    exact xr_ireturn i_X9_player_19 rfl h
  · replace h := (if_neg c10).symm.trans h
    refine xr_ifCond_eq_n i_X9_player_5 c10 (q := 18) t_X9_player_5 (q2 := 8) rfl ?_
    refine xr_iload_n i_X9_player_8 rfl (q := 9) rfl ?_
    refine xr_iconst i_X9_player_9 (q := 10) rfl ?_
    refine xr_bipush i_X9_player_10 (q := 12) rfl ?_
    obtain ⟨x4, m3, em3, h⟩ := xi_bI_some h
    refine xr_SI i_X9_player_12 xcse_X9_63 rfl (As := [.int v2, .int (Int32.ofInt 0), .int ((Int8.ofInt 6).toInt32)]) rfl (rest := []) rfl ((cc_X9_player_63 S _ _ _ _).trans em3) (q := 15) rfl ?_
    by_cases c9 : x4 = 0
    · replace h := (if_pos c9).symm.trans h
      refine xr_ifCond_ne_p i_X9_player_15 c9 (q := 20) t_X9_player_15 (q2 := 18) rfl ?_
      refine xr_iconst i_X9_player_18 (q := 19) rfl ?_
      exact xr_ireturn i_X9_player_19 rfl h
    · replace h := (if_neg c9).symm.trans h
      refine xr_ifCond_ne_n i_X9_player_15 c9 (q := 20) t_X9_player_15 (q2 := 18) rfl ?_
      refine xr_aload_n i_X9_player_20 rfl (q := 21) rfl ?_
      refine xr_aload_n i_X9_player_21 rfl (q := 22) rfl ?_
      refine xr_iload_n i_X9_player_22 rfl (q := 23) rfl ?_
      refine xr_iload_n i_X9_player_23 rfl (q := 24) rfl ?_
      obtain ⟨x6, m5, em5, h⟩ := xi_bI_some h
      refine xr_VI i_X9_player_24 xcve_X9_170 rfl (As := [.ref v0, .int v1, .int v2]) rfl (rest := [.ref v0]) rfl ((cc_X9_player_170 S _ _ _ _).trans em5) (q := 27) rfl ?_
      obtain ⟨x8, m7, em7, h⟩ := xi_bI_some h
      refine xr_VI i_X9_player_27 xcve_X9_75 rfl (As := [.ref v0, .int x6]) rfl (rest := []) rfl ((cc_X9_player_75 S _ _ _).trans em7) (q := 30) rfl ?_
      exact xr_ireturn i_X9_player_30 rfl h
set_option maxRecDepth 100000 in
theorem po_X9_player {l : Launch} {E : xi_E} {S : xi_S} {D : va_G} {tys : List (ClassId × FieldType)} (hC : xCx E S tys) : xi_Pok l E S D vwCl tys xNs RX9 xTs cX9_player 3 7 (P_X9_player S) := ⟨xi_dc_ok, by rw [hC.2]; exact xfo_X9, xkio_X9, xklo_X9, xi_calls_ok (ins := .invokestatic) (List.forall_mem_cons.mpr ⟨(xc_X9_63 (sn_X9_in0 hC) (by decide)), fun _ h => absurd h List.not_mem_nil⟩), xi_calls_ok (ins := .invokevirtual) (List.forall_mem_cons.mpr ⟨(xc_X9_75 hC.1 (sn_X9_tells hC) (by decide)), List.forall_mem_cons.mpr ⟨(xc_X9_167 hC.1 (sn_X9_isPlayer hC) (by decide)), List.forall_mem_cons.mpr ⟨(xc_X9_170 hC.1 (sn_X9_tellsOf hC) (by decide)), fun _ h => absurd h List.not_mem_nil⟩⟩⟩)⟩
theorem sn_X9_player {l : Launch} {E : xi_E} {S : xi_S} {D : va_G} {tys : List (ClassId × FieldType)} (hC : xCx E S tys) : ∀ As m1 r m2, F_X9_player S As m1 = some (r, m2) → xi_Sound l E S D vwCl tys xNs xTs yX9_player cX9_player 3 (some .int) 7 As m1 r m2 := by
  intro As m1 r m2 h
  unfold F_X9_player at h
  split at h
  · exact xi_meth (P := P_X9_player S) (by decide) hC.1 (po_X9_player hC) (Nat.le_of_ble_eq_true rfl) rfl (xe_X9_player _ _ _ _ h)
  · exact xi_no h
theorem i_X9_isOf_0 : xi_dc cX9_isOf 0 = some (.iload_n 0, 1) := by decide +kernel
theorem i_X9_isOf_1 : xi_dc cX9_isOf 1 = some (.iload_n 1, 1) := by decide +kernel
theorem i_X9_isOf_2 : xi_dc cX9_isOf 2 = some (.if_icmp .eq 23, 3) := by decide +kernel
theorem t_X9_isOf_2 : ((2 : Nat) : Int) + 23 = ((25 : Nat) : Int) := by decide +kernel
theorem i_X9_isOf_5 : xi_dc cX9_isOf 5 = some (.iload_n 0, 1) := by decide +kernel
theorem i_X9_isOf_6 : xi_dc cX9_isOf 6 = some (.iconst 4, 1) := by decide +kernel
theorem i_X9_isOf_7 : xi_dc cX9_isOf 7 = some (.if_icmp .ne 8, 3) := by decide +kernel
theorem t_X9_isOf_7 : ((7 : Nat) : Int) + 8 = ((15 : Nat) : Int) := by decide +kernel
theorem i_X9_isOf_10 : xi_dc cX9_isOf 10 = some (.iload_n 1, 1) := by decide +kernel
theorem i_X9_isOf_11 : xi_dc cX9_isOf 11 = some (.iconst 1, 1) := by decide +kernel
theorem i_X9_isOf_12 : xi_dc cX9_isOf 12 = some (.if_icmp .eq 13, 3) := by decide +kernel
theorem t_X9_isOf_12 : ((12 : Nat) : Int) + 13 = ((25 : Nat) : Int) := by decide +kernel
theorem i_X9_isOf_15 : xi_dc cX9_isOf 15 = some (.iload_n 0, 1) := by decide +kernel
theorem i_X9_isOf_16 : xi_dc cX9_isOf 16 = some (.iconst 5, 1) := by decide +kernel
theorem i_X9_isOf_17 : xi_dc cX9_isOf 17 = some (.if_icmp .ne 12, 3) := by decide +kernel
theorem t_X9_isOf_17 : ((17 : Nat) : Int) + 12 = ((29 : Nat) : Int) := by decide +kernel
theorem i_X9_isOf_20 : xi_dc cX9_isOf 20 = some (.iload_n 1, 1) := by decide +kernel
theorem i_X9_isOf_21 : xi_dc cX9_isOf 21 = some (.iconst 2, 1) := by decide +kernel
theorem i_X9_isOf_22 : xi_dc cX9_isOf 22 = some (.if_icmp .ne 7, 3) := by decide +kernel
theorem t_X9_isOf_22 : ((22 : Nat) : Int) + 7 = ((29 : Nat) : Int) := by decide +kernel
theorem i_X9_isOf_25 : xi_dc cX9_isOf 25 = some (.iconst 1, 1) := by decide +kernel
theorem i_X9_isOf_26 : xi_dc cX9_isOf 26 = some (.goto 4, 3) := by decide +kernel
theorem t_X9_isOf_26 : ((26 : Nat) : Int) + 4 = ((30 : Nat) : Int) := by decide +kernel
theorem i_X9_isOf_29 : xi_dc cX9_isOf 29 = some (.iconst 0, 1) := by decide +kernel
theorem i_X9_isOf_30 : xi_dc cX9_isOf 30 = some (.ireturn, 1) := by decide +kernel
def P_X9_isOf (S : xi_S) : xi_P := (xi_dc cX9_isOf, xi_tab xfl_X9, xi_tab xki_X9, xi_tab xkl_X9, xi_tab xcs_X9, xi_tab xcv_X9, xi_calls [], xi_calls [], 2)
def E_X9_isOf (S : xi_S) (v0 : Int32) (v1 : Int32) (m : xi_M) : Option xi_R :=
  if v0 = v1 then
    if (Int32.ofInt 1) = 0 ∨ (Int32.ofInt 1) = 1 then some (some (.int (Int32.ofInt 1)), m) else none
  else
    if v0 = (Int32.ofInt 4) then
      if v1 = (Int32.ofInt 1) then
        if (Int32.ofInt 1) = 0 ∨ (Int32.ofInt 1) = 1 then some (some (.int (Int32.ofInt 1)), m) else none
      else
        if v0 = (Int32.ofInt 5) then
          if v1 = (Int32.ofInt 2) then
            if (Int32.ofInt 1) = 0 ∨ (Int32.ofInt 1) = 1 then some (some (.int (Int32.ofInt 1)), m) else none
          else
            if (Int32.ofInt 0) = 0 ∨ (Int32.ofInt 0) = 1 then some (some (.int (Int32.ofInt 0)), m) else none
        else
          if (Int32.ofInt 0) = 0 ∨ (Int32.ofInt 0) = 1 then some (some (.int (Int32.ofInt 0)), m) else none
    else
      if v0 = (Int32.ofInt 5) then
        if v1 = (Int32.ofInt 2) then
          if (Int32.ofInt 1) = 0 ∨ (Int32.ofInt 1) = 1 then some (some (.int (Int32.ofInt 1)), m) else none
        else
          if (Int32.ofInt 0) = 0 ∨ (Int32.ofInt 0) = 1 then some (some (.int (Int32.ofInt 0)), m) else none
      else
        if (Int32.ofInt 0) = 0 ∨ (Int32.ofInt 0) = 1 then some (some (.int (Int32.ofInt 0)), m) else none
def F_X9_isOf (S : xi_S) : xi_F := fun As m => match As with
  | [.int v0, .int v1] => E_X9_isOf S v0 v1 m
  | _ => none
set_option maxRecDepth 100000 in
set_option maxHeartbeats 4000000 in
theorem xe_X9_isOf {S : xi_S} {res : xi_R} (v0 : Int32) (v1 : Int32) (m : xi_M) (h : E_X9_isOf S v0 v1 m = some res) : xi_X S (P_X9_isOf S) (0, [some (.int v0), some (.int v1)], [], m) res := by
  unfold E_X9_isOf at h
  refine xr_iload_n i_X9_isOf_0 rfl (q := 1) rfl ?_
  refine xr_iload_n i_X9_isOf_1 rfl (q := 2) rfl ?_
  by_cases c7 : v0 = v1
  · replace h := (if_pos c7).symm.trans h
    refine xr_if_icmp_eq_p i_X9_isOf_2 c7 (q := 25) t_X9_isOf_2 (q2 := 5) rfl ?_
    refine xr_iconst i_X9_isOf_25 (q := 26) rfl ?_
    refine xr_goto i_X9_isOf_26 (q := 30) t_X9_isOf_26 ?_
    exact xr_zreturn i_X9_isOf_30 rfl h
  · replace h := (if_neg c7).symm.trans h
    refine xr_if_icmp_eq_n i_X9_isOf_2 c7 (q := 25) t_X9_isOf_2 (q2 := 5) rfl ?_
    refine xr_iload_n i_X9_isOf_5 rfl (q := 6) rfl ?_
    refine xr_iconst i_X9_isOf_6 (q := 7) rfl ?_
    by_cases c6 : v0 = (Int32.ofInt 4)
    · replace h := (if_pos c6).symm.trans h
      refine xr_if_icmp_ne_p i_X9_isOf_7 c6 (q := 15) t_X9_isOf_7 (q2 := 10) rfl ?_
      refine xr_iload_n i_X9_isOf_10 rfl (q := 11) rfl ?_
      refine xr_iconst i_X9_isOf_11 (q := 12) rfl ?_
      by_cases c5 : v1 = (Int32.ofInt 1)
      · replace h := (if_pos c5).symm.trans h
        refine xr_if_icmp_eq_p i_X9_isOf_12 c5 (q := 25) t_X9_isOf_12 (q2 := 15) rfl ?_
        refine xr_iconst i_X9_isOf_25 (q := 26) rfl ?_
        refine xr_goto i_X9_isOf_26 (q := 30) t_X9_isOf_26 ?_
        exact xr_zreturn i_X9_isOf_30 rfl h
      · replace h := (if_neg c5).symm.trans h
        refine xr_if_icmp_eq_n i_X9_isOf_12 c5 (q := 25) t_X9_isOf_12 (q2 := 15) rfl ?_
        refine xr_iload_n i_X9_isOf_15 rfl (q := 16) rfl ?_
        refine xr_iconst i_X9_isOf_16 (q := 17) rfl ?_
        by_cases c4 : v0 = (Int32.ofInt 5)
        · replace h := (if_pos c4).symm.trans h
          refine xr_if_icmp_ne_p i_X9_isOf_17 c4 (q := 29) t_X9_isOf_17 (q2 := 20) rfl ?_
          refine xr_iload_n i_X9_isOf_20 rfl (q := 21) rfl ?_
          refine xr_iconst i_X9_isOf_21 (q := 22) rfl ?_
          by_cases c3 : v1 = (Int32.ofInt 2)
          · replace h := (if_pos c3).symm.trans h
            refine xr_if_icmp_ne_p i_X9_isOf_22 c3 (q := 29) t_X9_isOf_22 (q2 := 25) rfl ?_
            refine xr_iconst i_X9_isOf_25 (q := 26) rfl ?_
            refine xr_goto i_X9_isOf_26 (q := 30) t_X9_isOf_26 ?_
            exact xr_zreturn i_X9_isOf_30 rfl h
          · replace h := (if_neg c3).symm.trans h
            refine xr_if_icmp_ne_n i_X9_isOf_22 c3 (q := 29) t_X9_isOf_22 (q2 := 25) rfl ?_
            refine xr_iconst i_X9_isOf_29 (q := 30) rfl ?_
            exact xr_zreturn i_X9_isOf_30 rfl h
        · replace h := (if_neg c4).symm.trans h
          refine xr_if_icmp_ne_n i_X9_isOf_17 c4 (q := 29) t_X9_isOf_17 (q2 := 20) rfl ?_
          refine xr_iconst i_X9_isOf_29 (q := 30) rfl ?_
          exact xr_zreturn i_X9_isOf_30 rfl h
    · replace h := (if_neg c6).symm.trans h
      refine xr_if_icmp_ne_n i_X9_isOf_7 c6 (q := 15) t_X9_isOf_7 (q2 := 10) rfl ?_
      refine xr_iload_n i_X9_isOf_15 rfl (q := 16) rfl ?_
      refine xr_iconst i_X9_isOf_16 (q := 17) rfl ?_
      by_cases c2 : v0 = (Int32.ofInt 5)
      · replace h := (if_pos c2).symm.trans h
        refine xr_if_icmp_ne_p i_X9_isOf_17 c2 (q := 29) t_X9_isOf_17 (q2 := 20) rfl ?_
        refine xr_iload_n i_X9_isOf_20 rfl (q := 21) rfl ?_
        refine xr_iconst i_X9_isOf_21 (q := 22) rfl ?_
        by_cases c1 : v1 = (Int32.ofInt 2)
        · replace h := (if_pos c1).symm.trans h
          refine xr_if_icmp_ne_p i_X9_isOf_22 c1 (q := 29) t_X9_isOf_22 (q2 := 25) rfl ?_
          refine xr_iconst i_X9_isOf_25 (q := 26) rfl ?_
          refine xr_goto i_X9_isOf_26 (q := 30) t_X9_isOf_26 ?_
          exact xr_zreturn i_X9_isOf_30 rfl h
        · replace h := (if_neg c1).symm.trans h
          refine xr_if_icmp_ne_n i_X9_isOf_22 c1 (q := 29) t_X9_isOf_22 (q2 := 25) rfl ?_
          refine xr_iconst i_X9_isOf_29 (q := 30) rfl ?_
          exact xr_zreturn i_X9_isOf_30 rfl h
      · replace h := (if_neg c2).symm.trans h
        refine xr_if_icmp_ne_n i_X9_isOf_17 c2 (q := 29) t_X9_isOf_17 (q2 := 20) rfl ?_
        refine xr_iconst i_X9_isOf_29 (q := 30) rfl ?_
        exact xr_zreturn i_X9_isOf_30 rfl h
set_option maxRecDepth 100000 in
theorem po_X9_isOf {l : Launch} {E : xi_E} {S : xi_S} {D : va_G} {tys : List (ClassId × FieldType)} (hC : xCx E S tys) : xi_Pok l E S D vwCl tys xNs RX9 xTs cX9_isOf 2 0 (P_X9_isOf S) := ⟨xi_dc_ok, by rw [hC.2]; exact xfo_X9, xkio_X9, xklo_X9, xi_calls_ok (ins := .invokestatic) (fun _ h => absurd h List.not_mem_nil), xi_calls_ok (ins := .invokevirtual) (fun _ h => absurd h List.not_mem_nil)⟩
theorem sn_X9_isOf {l : Launch} {E : xi_E} {S : xi_S} {D : va_G} {tys : List (ClassId × FieldType)} (hC : xCx E S tys) : ∀ As m1 r m2, F_X9_isOf S As m1 = some (r, m2) → xi_Sound l E S D vwCl tys xNs xTs yX9_isOf cX9_isOf 2 (some .boolean) 0 As m1 r m2 := by
  intro As m1 r m2 h
  unfold F_X9_isOf at h
  split at h
  · exact xi_meth (P := P_X9_isOf S) (by decide) hC.1 (po_X9_isOf hC) (Nat.le_of_ble_eq_true rfl) rfl (xe_X9_isOf _ _ _ h)
  · exact xi_no h
theorem i_X9_ballsOf_0 : xi_dc cX9_ballsOf 0 = some (.iconst 0, 1) := by decide +kernel
theorem i_X9_ballsOf_1 : xi_dc cX9_ballsOf 1 = some (.istore 4, 2) := by decide +kernel
theorem i_X9_ballsOf_3 : xi_dc cX9_ballsOf 3 = some (.iconst 0, 1) := by decide +kernel
theorem i_X9_ballsOf_4 : xi_dc cX9_ballsOf 4 = some (.istore 5, 2) := by decide +kernel
theorem i_X9_ballsOf_6 : xi_dc cX9_ballsOf 6 = some (.iload 5, 2) := by decide +kernel
theorem i_X9_ballsOf_8 : xi_dc cX9_ballsOf 8 = some (.aload_n 0, 1) := by decide +kernel
theorem i_X9_ballsOf_9 : xi_dc cX9_ballsOf 9 = some (.getfield 25, 3) := by decide +kernel
theorem i_X9_ballsOf_12 : xi_dc cX9_ballsOf 12 = some (.iconst 1, 1) := by decide +kernel
theorem i_X9_ballsOf_13 : xi_dc cX9_ballsOf 13 = some (.iaload, 1) := by decide +kernel
theorem i_X9_ballsOf_14 : xi_dc cX9_ballsOf 14 = some (.if_icmp .ge 100, 3) := by decide +kernel
theorem t_X9_ballsOf_14 : ((14 : Nat) : Int) + 100 = ((114 : Nat) : Int) := by decide +kernel
theorem i_X9_ballsOf_17 : xi_dc cX9_ballsOf 17 = some (.aload_n 0, 1) := by decide +kernel
theorem i_X9_ballsOf_18 : xi_dc cX9_ballsOf 18 = some (.getfield 25, 3) := by decide +kernel
theorem i_X9_ballsOf_21 : xi_dc cX9_ballsOf 21 = some (.iload 5, 2) := by decide +kernel
theorem i_X9_ballsOf_23 : xi_dc cX9_ballsOf 23 = some (.invokestatic 154, 3) := by decide +kernel
theorem i_X9_ballsOf_26 : xi_dc cX9_ballsOf 26 = some (.istore 6, 2) := by decide +kernel
theorem i_X9_ballsOf_28 : xi_dc cX9_ballsOf 28 = some (.iload 6, 2) := by decide +kernel
theorem i_X9_ballsOf_30 : xi_dc cX9_ballsOf 30 = some (.bipush (-9), 2) := by decide +kernel
theorem i_X9_ballsOf_32 : xi_dc cX9_ballsOf 32 = some (.if_icmp .eq 25, 3) := by decide +kernel
theorem t_X9_ballsOf_32 : ((32 : Nat) : Int) + 25 = ((57 : Nat) : Int) := by decide +kernel
theorem i_X9_ballsOf_35 : xi_dc cX9_ballsOf 35 = some (.aload_n 0, 1) := by decide +kernel
theorem i_X9_ballsOf_36 : xi_dc cX9_ballsOf 36 = some (.getfield 25, 3) := by decide +kernel
theorem i_X9_ballsOf_39 : xi_dc cX9_ballsOf 39 = some (.bipush 10, 2) := by decide +kernel
theorem i_X9_ballsOf_41 : xi_dc cX9_ballsOf 41 = some (.iconst 4, 1) := by decide +kernel
theorem i_X9_ballsOf_42 : xi_dc cX9_ballsOf 42 = some (.iload 5, 2) := by decide +kernel
theorem i_X9_ballsOf_44 : xi_dc cX9_ballsOf 44 = some (.imul, 1) := by decide +kernel
theorem i_X9_ballsOf_45 : xi_dc cX9_ballsOf 45 = some (.iadd, 1) := by decide +kernel
theorem i_X9_ballsOf_46 : xi_dc cX9_ballsOf 46 = some (.iconst 1, 1) := by decide +kernel
theorem i_X9_ballsOf_47 : xi_dc cX9_ballsOf 47 = some (.iadd, 1) := by decide +kernel
theorem i_X9_ballsOf_48 : xi_dc cX9_ballsOf 48 = some (.iaload, 1) := by decide +kernel
theorem i_X9_ballsOf_49 : xi_dc cX9_ballsOf 49 = some (.iload_n 1, 1) := by decide +kernel
theorem i_X9_ballsOf_50 : xi_dc cX9_ballsOf 50 = some (.if_icmp .ne 7, 3) := by decide +kernel
theorem t_X9_ballsOf_50 : ((50 : Nat) : Int) + 7 = ((57 : Nat) : Int) := by decide +kernel
theorem i_X9_ballsOf_53 : xi_dc cX9_ballsOf 53 = some (.iconst 1, 1) := by decide +kernel
theorem i_X9_ballsOf_54 : xi_dc cX9_ballsOf 54 = some (.goto 4, 3) := by decide +kernel
theorem t_X9_ballsOf_54 : ((54 : Nat) : Int) + 4 = ((58 : Nat) : Int) := by decide +kernel
theorem i_X9_ballsOf_57 : xi_dc cX9_ballsOf 57 = some (.iconst 0, 1) := by decide +kernel
theorem i_X9_ballsOf_58 : xi_dc cX9_ballsOf 58 = some (.istore 7, 2) := by decide +kernel
theorem i_X9_ballsOf_60 : xi_dc cX9_ballsOf 60 = some (.iload 4, 2) := by decide +kernel
theorem i_X9_ballsOf_62 : xi_dc cX9_ballsOf 62 = some (.iload 7, 2) := by decide +kernel
theorem i_X9_ballsOf_64 : xi_dc cX9_ballsOf 64 = some (.ifCond .eq 40, 3) := by decide +kernel
theorem t_X9_ballsOf_64 : ((64 : Nat) : Int) + 40 = ((104 : Nat) : Int) := by decide +kernel
theorem i_X9_ballsOf_67 : xi_dc cX9_ballsOf 67 = some (.iload_n 3, 1) := by decide +kernel
theorem i_X9_ballsOf_68 : xi_dc cX9_ballsOf 68 = some (.ifCond .ne 19, 3) := by decide +kernel
theorem t_X9_ballsOf_68 : ((68 : Nat) : Int) + 19 = ((87 : Nat) : Int) := by decide +kernel
theorem i_X9_ballsOf_71 : xi_dc cX9_ballsOf 71 = some (.iload 6, 2) := by decide +kernel
theorem i_X9_ballsOf_73 : xi_dc cX9_ballsOf 73 = some (.aload_n 0, 1) := by decide +kernel
theorem i_X9_ballsOf_74 : xi_dc cX9_ballsOf 74 = some (.getfield 25, 3) := by decide +kernel
theorem i_X9_ballsOf_77 : xi_dc cX9_ballsOf 77 = some (.iload_n 2, 1) := by decide +kernel
theorem i_X9_ballsOf_78 : xi_dc cX9_ballsOf 78 = some (.invokestatic 154, 3) := by decide +kernel
theorem i_X9_ballsOf_81 : xi_dc cX9_ballsOf 81 = some (.if_icmp .ne 23, 3) := by decide +kernel
theorem t_X9_ballsOf_81 : ((81 : Nat) : Int) + 23 = ((104 : Nat) : Int) := by decide +kernel
theorem i_X9_ballsOf_84 : xi_dc cX9_ballsOf 84 = some (.goto 16, 3) := by decide +kernel
theorem t_X9_ballsOf_84 : ((84 : Nat) : Int) + 16 = ((100 : Nat) : Int) := by decide +kernel
theorem i_X9_ballsOf_87 : xi_dc cX9_ballsOf 87 = some (.aload_n 0, 1) := by decide +kernel
theorem i_X9_ballsOf_88 : xi_dc cX9_ballsOf 88 = some (.getfield 25, 3) := by decide +kernel
theorem i_X9_ballsOf_91 : xi_dc cX9_ballsOf 91 = some (.iload_n 2, 1) := by decide +kernel
theorem i_X9_ballsOf_92 : xi_dc cX9_ballsOf 92 = some (.iload 6, 2) := by decide +kernel
theorem i_X9_ballsOf_94 : xi_dc cX9_ballsOf 94 = some (.invokestatic 143, 3) := by decide +kernel
theorem i_X9_ballsOf_97 : xi_dc cX9_ballsOf 97 = some (.ifCond .eq 7, 3) := by decide +kernel
theorem t_X9_ballsOf_97 : ((97 : Nat) : Int) + 7 = ((104 : Nat) : Int) := by decide +kernel
theorem i_X9_ballsOf_100 : xi_dc cX9_ballsOf 100 = some (.iconst 1, 1) := by decide +kernel
theorem i_X9_ballsOf_101 : xi_dc cX9_ballsOf 101 = some (.goto 4, 3) := by decide +kernel
theorem t_X9_ballsOf_101 : ((101 : Nat) : Int) + 4 = ((105 : Nat) : Int) := by decide +kernel
theorem i_X9_ballsOf_104 : xi_dc cX9_ballsOf 104 = some (.iconst 0, 1) := by decide +kernel
theorem i_X9_ballsOf_105 : xi_dc cX9_ballsOf 105 = some (.iadd, 1) := by decide +kernel
theorem i_X9_ballsOf_106 : xi_dc cX9_ballsOf 106 = some (.istore 4, 2) := by decide +kernel
theorem i_X9_ballsOf_108 : xi_dc cX9_ballsOf 108 = some (.iinc 5 1, 3) := by decide +kernel
theorem i_X9_ballsOf_111 : xi_dc cX9_ballsOf 111 = some (.goto (-105), 3) := by decide +kernel
theorem t_X9_ballsOf_111 : ((111 : Nat) : Int) + (-105) = ((6 : Nat) : Int) := by decide +kernel
theorem i_X9_ballsOf_114 : xi_dc cX9_ballsOf 114 = some (.iload 4, 2) := by decide +kernel
theorem i_X9_ballsOf_116 : xi_dc cX9_ballsOf 116 = some (.ireturn, 1) := by decide +kernel
def P_X9_ballsOf (S : xi_S) : xi_P := (xi_dc cX9_ballsOf, xi_tab xfl_X9, xi_tab xki_X9, xi_tab xkl_X9, xi_tab xcs_X9, xi_tab xcv_X9, xi_calls [(143, xi_wS 3 (F_X9_isReached S)), (154, xi_wS 2 (F_X9_ball S))], xi_calls [], 1)
theorem cc_X9_ballsOf_143 (S : xi_S) (a0 : Nat) (a1 : Int32) (a2 : Int32) (m : xi_M) : (P_X9_ballsOf S).2.2.2.2.2.2.1 143 [.ref a0, .int a1, .int a2] m = (E_X9_isReached S a0 a1 a2 m) := by
  show xi_calls [(143, xi_wS 3 (F_X9_isReached S)), (154, xi_wS 2 (F_X9_ball S))] 143 [.ref a0, .int a1, .int a2] m = _
  refine Eq.trans (b := xi_wS 3 (F_X9_isReached S) [.ref a0, .int a1, .int a2] m) (xi_calls_hit rfl) ?_
  exact xi_wS_eq rfl
theorem cc_X9_ballsOf_154 (S : xi_S) (a0 : Nat) (a1 : Int32) (m : xi_M) : (P_X9_ballsOf S).2.2.2.2.2.2.1 154 [.ref a0, .int a1] m = (E_X9_ball S a0 a1 m) := by
  show xi_calls [(143, xi_wS 3 (F_X9_isReached S)), (154, xi_wS 2 (F_X9_ball S))] 154 [.ref a0, .int a1] m = _
  refine Eq.trans (b := xi_calls [(154, xi_wS 2 (F_X9_ball S))] 154 [.ref a0, .int a1] m) (xi_calls_miss rfl) ?_
  refine Eq.trans (b := xi_wS 2 (F_X9_ball S) [.ref a0, .int a1] m) (xi_calls_hit rfl) ?_
  exact xi_wS_eq rfl
def G_X9_ballsOf_6 (S : xi_S) : Nat → Nat → Int32 → Int32 → Int32 → Int32 → Int32 → xi_M → Option xi_R
  | 0, _, _, _, _, _, _, _ => none
  | n + 1, v0, v1, v2, v3, v4, v5, m =>
    if S.1 v0 = 11 then (S.2.2 v0 5).bind fun b2 =>
      if S.1 b2 = 0 ∧ ¬ ((Int32.ofInt 1) < 0 ∨ S.2.1 b2 ≤ Int32.toNatClampNeg (Int32.ofInt 1)) then
        if (m.1 b2 (Int32.toNatClampNeg (Int32.ofInt 1))) ≤ v5 then
          some (some (.int v4), m)
        else
          if S.1 v0 = 11 then (S.2.2 v0 5).bind fun b5 =>
            xi_bI (E_X9_ball S b5 v5 m) fun x7 m6 =>
            if x7 = ((Int8.ofInt (-9)).toInt32) then
              if (Int32.ofInt 0) = 0 then
                G_X9_ballsOf_6 S n v0 v1 v2 v3 (v4 + (Int32.ofInt 0)) (v5 + Int32.ofInt 1) m6
              else
                if v3 = 0 then
                  if S.1 v0 = 11 then (S.2.2 v0 5).bind fun b14 =>
                    xi_bI (E_X9_ball S b14 v2 m6) fun x16 m15 =>
                    if x7 = x16 then
                      G_X9_ballsOf_6 S n v0 v1 v2 v3 (v4 + (Int32.ofInt 1)) (v5 + Int32.ofInt 1) m15
                    else
                      G_X9_ballsOf_6 S n v0 v1 v2 v3 (v4 + (Int32.ofInt 0)) (v5 + Int32.ofInt 1) m15
                  else none
                else
                  if S.1 v0 = 11 then (S.2.2 v0 5).bind fun b9 =>
                    xi_bI (E_X9_isReached S b9 v2 x7 m6) fun x11 m10 =>
                    if x11 = 0 then
                      G_X9_ballsOf_6 S n v0 v1 v2 v3 (v4 + (Int32.ofInt 0)) (v5 + Int32.ofInt 1) m10
                    else
                      G_X9_ballsOf_6 S n v0 v1 v2 v3 (v4 + (Int32.ofInt 1)) (v5 + Int32.ofInt 1) m10
                  else none
            else
              if S.1 v0 = 11 then (S.2.2 v0 5).bind fun b21 =>
                if S.1 b21 = 0 ∧ ¬ (((((Int8.ofInt 10).toInt32) + ((Int32.ofInt 4) * v5)) + (Int32.ofInt 1)) < 0 ∨ S.2.1 b21 ≤ Int32.toNatClampNeg ((((Int8.ofInt 10).toInt32) + ((Int32.ofInt 4) * v5)) + (Int32.ofInt 1))) then
                  if (m6.1 b21 (Int32.toNatClampNeg ((((Int8.ofInt 10).toInt32) + ((Int32.ofInt 4) * v5)) + (Int32.ofInt 1)))) = v1 then
                    if (Int32.ofInt 1) = 0 then
                      G_X9_ballsOf_6 S n v0 v1 v2 v3 (v4 + (Int32.ofInt 0)) (v5 + Int32.ofInt 1) m6
                    else
                      if v3 = 0 then
                        if S.1 v0 = 11 then (S.2.2 v0 5).bind fun b41 =>
                          xi_bI (E_X9_ball S b41 v2 m6) fun x43 m42 =>
                          if x7 = x43 then
                            G_X9_ballsOf_6 S n v0 v1 v2 v3 (v4 + (Int32.ofInt 1)) (v5 + Int32.ofInt 1) m42
                          else
                            G_X9_ballsOf_6 S n v0 v1 v2 v3 (v4 + (Int32.ofInt 0)) (v5 + Int32.ofInt 1) m42
                        else none
                      else
                        if S.1 v0 = 11 then (S.2.2 v0 5).bind fun b36 =>
                          xi_bI (E_X9_isReached S b36 v2 x7 m6) fun x38 m37 =>
                          if x38 = 0 then
                            G_X9_ballsOf_6 S n v0 v1 v2 v3 (v4 + (Int32.ofInt 0)) (v5 + Int32.ofInt 1) m37
                          else
                            G_X9_ballsOf_6 S n v0 v1 v2 v3 (v4 + (Int32.ofInt 1)) (v5 + Int32.ofInt 1) m37
                        else none
                  else
                    if (Int32.ofInt 0) = 0 then
                      G_X9_ballsOf_6 S n v0 v1 v2 v3 (v4 + (Int32.ofInt 0)) (v5 + Int32.ofInt 1) m6
                    else
                      if v3 = 0 then
                        if S.1 v0 = 11 then (S.2.2 v0 5).bind fun b29 =>
                          xi_bI (E_X9_ball S b29 v2 m6) fun x31 m30 =>
                          if x7 = x31 then
                            G_X9_ballsOf_6 S n v0 v1 v2 v3 (v4 + (Int32.ofInt 1)) (v5 + Int32.ofInt 1) m30
                          else
                            G_X9_ballsOf_6 S n v0 v1 v2 v3 (v4 + (Int32.ofInt 0)) (v5 + Int32.ofInt 1) m30
                        else none
                      else
                        if S.1 v0 = 11 then (S.2.2 v0 5).bind fun b24 =>
                          xi_bI (E_X9_isReached S b24 v2 x7 m6) fun x26 m25 =>
                          if x26 = 0 then
                            G_X9_ballsOf_6 S n v0 v1 v2 v3 (v4 + (Int32.ofInt 0)) (v5 + Int32.ofInt 1) m25
                          else
                            G_X9_ballsOf_6 S n v0 v1 v2 v3 (v4 + (Int32.ofInt 1)) (v5 + Int32.ofInt 1) m25
                        else none
                else none
              else none
          else none
      else none
    else none
set_option maxRecDepth 100000 in
set_option maxHeartbeats 4000000 in
theorem xs_X9_ballsOf_6 {S : xi_S} {res : xi_R} : ∀ (n : Nat) (v0 : Nat) (v1 : Int32) (v2 : Int32) (v3 : Int32) (v4 : Int32) (v5 : Int32) (m : xi_M), G_X9_ballsOf_6 S n v0 v1 v2 v3 v4 v5 m = some res → xi_X S (P_X9_ballsOf S) (6, [some (.ref v0), some (.int v1), some (.int v2), some (.int v3), some (.int v4), some (.int v5), none, none], [], m) res := by
  intro n
  induction n with
  | zero => intro v0 v1 v2 v3 v4 v5 m h; exact xi_no h
  | succ n ih =>
    intro v0 v1 v2 v3 v4 v5 m h
    unfold G_X9_ballsOf_6 at h
    refine xr_iload i_X9_ballsOf_6 rfl (q := 8) rfl ?_
    refine xr_aload_n i_X9_ballsOf_8 rfl (q := 9) rfl ?_
    obtain ⟨c1, h⟩ := xi_if_some h
    obtain ⟨b2, eb2, h⟩ := xi_bind_some h
    refine xr_getR i_X9_ballsOf_9 xfe_X9_25 c1 eb2 (q := 12) rfl ?_
    refine xr_iconst i_X9_ballsOf_12 (q := 13) rfl ?_
    obtain ⟨c3, h⟩ := xi_if_some h
    refine xr_iaload i_X9_ballsOf_13 c3 (q := 14) rfl ?_
    by_cases c49 : (m.1 b2 (Int32.toNatClampNeg (Int32.ofInt 1))) ≤ v5
    · replace h := (if_pos c49).symm.trans h
      refine xr_if_icmp_ge_p i_X9_ballsOf_14 c49 (q := 114) t_X9_ballsOf_14 (q2 := 17) rfl ?_
      refine xr_iload i_X9_ballsOf_114 rfl (q := 116) rfl ?_
      exact xr_ireturn i_X9_ballsOf_116 rfl h
    · replace h := (if_neg c49).symm.trans h
      refine xr_if_icmp_ge_n i_X9_ballsOf_14 c49 (q := 114) t_X9_ballsOf_14 (q2 := 17) rfl ?_
      refine xr_aload_n i_X9_ballsOf_17 rfl (q := 18) rfl ?_
      obtain ⟨c4, h⟩ := xi_if_some h
      obtain ⟨b5, eb5, h⟩ := xi_bind_some h
      refine xr_getR i_X9_ballsOf_18 xfe_X9_25 c4 eb5 (q := 21) rfl ?_
      refine xr_iload i_X9_ballsOf_21 rfl (q := 23) rfl ?_
      obtain ⟨x7, m6, em6, h⟩ := xi_bI_some h
      refine xr_SI i_X9_ballsOf_23 xcse_X9_154 rfl (As := [.ref b5, .int v5]) rfl (rest := []) rfl ((cc_X9_ballsOf_154 S _ _ _).trans em6) (q := 26) rfl ?_
      refine xr_istore i_X9_ballsOf_26 rfl (L2 := [some (.ref v0), some (.int v1), some (.int v2), some (.int v3), some (.int v4), some (.int v5), some (.int x7), none]) rfl (q := 28) rfl ?_
      refine xr_iload i_X9_ballsOf_28 rfl (q := 30) rfl ?_
      refine xr_bipush i_X9_ballsOf_30 (q := 32) rfl ?_
      by_cases c48 : x7 = ((Int8.ofInt (-9)).toInt32)
      · replace h := (if_pos c48).symm.trans h
        refine xr_if_icmp_eq_p i_X9_ballsOf_32 c48 (q := 57) t_X9_ballsOf_32 (q2 := 35) rfl ?_
        refine xr_iconst i_X9_ballsOf_57 (q := 58) rfl ?_
        refine xr_istore i_X9_ballsOf_58 rfl (L2 := [some (.ref v0), some (.int v1), some (.int v2), some (.int v3), some (.int v4), some (.int v5), some (.int x7), some (.int (Int32.ofInt 0))]) rfl (q := 60) rfl ?_
        refine xr_iload i_X9_ballsOf_60 rfl (q := 62) rfl ?_
        refine xr_iload i_X9_ballsOf_62 rfl (q := 64) rfl ?_
        by_cases c19 : (Int32.ofInt 0) = 0
        · replace h := (if_pos c19).symm.trans h
          refine xr_ifCond_eq_p i_X9_ballsOf_64 c19 (q := 104) t_X9_ballsOf_64 (q2 := 67) rfl ?_
          refine xr_iconst i_X9_ballsOf_104 (q := 105) rfl ?_
          refine xr_iadd i_X9_ballsOf_105 (q := 106) rfl ?_
          refine xr_istore i_X9_ballsOf_106 rfl (L2 := [some (.ref v0), some (.int v1), some (.int v2), some (.int v3), some (.int (v4 + (Int32.ofInt 0))), some (.int v5), some (.int x7), some (.int (Int32.ofInt 0))]) rfl (q := 108) rfl ?_
          refine xr_iinc i_X9_ballsOf_108 rfl rfl (L2 := [some (.ref v0), some (.int v1), some (.int v2), some (.int v3), some (.int (v4 + (Int32.ofInt 0))), some (.int (v5 + Int32.ofInt 1)), some (.int x7), some (.int (Int32.ofInt 0))]) rfl (q := 111) rfl ?_
          refine xr_goto i_X9_ballsOf_111 (q := 6) t_X9_ballsOf_111 ?_
          exact xi_X_le (xi_le_s (xi_le_s (xi_le_s (xi_le_s (xi_le_s (xi_le_s (xi_le_n (xi_le_n xi_le_z)))))))) (ih _ _ _ _ _ _ _ h)
        · replace h := (if_neg c19).symm.trans h
          refine xr_ifCond_eq_n i_X9_ballsOf_64 c19 (q := 104) t_X9_ballsOf_64 (q2 := 67) rfl ?_
          refine xr_iload_n i_X9_ballsOf_67 rfl (q := 68) rfl ?_
          by_cases c18 : v3 = 0
          · replace h := (if_pos c18).symm.trans h
            refine xr_ifCond_ne_p i_X9_ballsOf_68 c18 (q := 87) t_X9_ballsOf_68 (q2 := 71) rfl ?_
            refine xr_iload i_X9_ballsOf_71 rfl (q := 73) rfl ?_
            refine xr_aload_n i_X9_ballsOf_73 rfl (q := 74) rfl ?_
            obtain ⟨c13, h⟩ := xi_if_some h
            obtain ⟨b14, eb14, h⟩ := xi_bind_some h
            refine xr_getR i_X9_ballsOf_74 xfe_X9_25 c13 eb14 (q := 77) rfl ?_
            refine xr_iload_n i_X9_ballsOf_77 rfl (q := 78) rfl ?_
            obtain ⟨x16, m15, em15, h⟩ := xi_bI_some h
            refine xr_SI i_X9_ballsOf_78 xcse_X9_154 rfl (As := [.ref b14, .int v2]) rfl (rest := [.int x7, .int v4]) rfl ((cc_X9_ballsOf_154 S _ _ _).trans em15) (q := 81) rfl ?_
            by_cases c17 : x7 = x16
            · replace h := (if_pos c17).symm.trans h
              refine xr_if_icmp_ne_p i_X9_ballsOf_81 c17 (q := 104) t_X9_ballsOf_81 (q2 := 84) rfl ?_
              refine xr_goto i_X9_ballsOf_84 (q := 100) t_X9_ballsOf_84 ?_
              refine xr_iconst i_X9_ballsOf_100 (q := 101) rfl ?_
              refine xr_goto i_X9_ballsOf_101 (q := 105) t_X9_ballsOf_101 ?_
              refine xr_iadd i_X9_ballsOf_105 (q := 106) rfl ?_
              refine xr_istore i_X9_ballsOf_106 rfl (L2 := [some (.ref v0), some (.int v1), some (.int v2), some (.int v3), some (.int (v4 + (Int32.ofInt 1))), some (.int v5), some (.int x7), some (.int (Int32.ofInt 0))]) rfl (q := 108) rfl ?_
              refine xr_iinc i_X9_ballsOf_108 rfl rfl (L2 := [some (.ref v0), some (.int v1), some (.int v2), some (.int v3), some (.int (v4 + (Int32.ofInt 1))), some (.int (v5 + Int32.ofInt 1)), some (.int x7), some (.int (Int32.ofInt 0))]) rfl (q := 111) rfl ?_
              refine xr_goto i_X9_ballsOf_111 (q := 6) t_X9_ballsOf_111 ?_
              exact xi_X_le (xi_le_s (xi_le_s (xi_le_s (xi_le_s (xi_le_s (xi_le_s (xi_le_n (xi_le_n xi_le_z)))))))) (ih _ _ _ _ _ _ _ h)
            · replace h := (if_neg c17).symm.trans h
              refine xr_if_icmp_ne_n i_X9_ballsOf_81 c17 (q := 104) t_X9_ballsOf_81 (q2 := 84) rfl ?_
              refine xr_iconst i_X9_ballsOf_104 (q := 105) rfl ?_
              refine xr_iadd i_X9_ballsOf_105 (q := 106) rfl ?_
              refine xr_istore i_X9_ballsOf_106 rfl (L2 := [some (.ref v0), some (.int v1), some (.int v2), some (.int v3), some (.int (v4 + (Int32.ofInt 0))), some (.int v5), some (.int x7), some (.int (Int32.ofInt 0))]) rfl (q := 108) rfl ?_
              refine xr_iinc i_X9_ballsOf_108 rfl rfl (L2 := [some (.ref v0), some (.int v1), some (.int v2), some (.int v3), some (.int (v4 + (Int32.ofInt 0))), some (.int (v5 + Int32.ofInt 1)), some (.int x7), some (.int (Int32.ofInt 0))]) rfl (q := 111) rfl ?_
              refine xr_goto i_X9_ballsOf_111 (q := 6) t_X9_ballsOf_111 ?_
              exact xi_X_le (xi_le_s (xi_le_s (xi_le_s (xi_le_s (xi_le_s (xi_le_s (xi_le_n (xi_le_n xi_le_z)))))))) (ih _ _ _ _ _ _ _ h)
          · replace h := (if_neg c18).symm.trans h
            refine xr_ifCond_ne_n i_X9_ballsOf_68 c18 (q := 87) t_X9_ballsOf_68 (q2 := 71) rfl ?_
            refine xr_aload_n i_X9_ballsOf_87 rfl (q := 88) rfl ?_
            obtain ⟨c8, h⟩ := xi_if_some h
            obtain ⟨b9, eb9, h⟩ := xi_bind_some h
            refine xr_getR i_X9_ballsOf_88 xfe_X9_25 c8 eb9 (q := 91) rfl ?_
            refine xr_iload_n i_X9_ballsOf_91 rfl (q := 92) rfl ?_
            refine xr_iload i_X9_ballsOf_92 rfl (q := 94) rfl ?_
            obtain ⟨x11, m10, em10, h⟩ := xi_bI_some h
            refine xr_SI i_X9_ballsOf_94 xcse_X9_143 rfl (As := [.ref b9, .int v2, .int x7]) rfl (rest := [.int v4]) rfl ((cc_X9_ballsOf_143 S _ _ _ _).trans em10) (q := 97) rfl ?_
            by_cases c12 : x11 = 0
            · replace h := (if_pos c12).symm.trans h
              refine xr_ifCond_eq_p i_X9_ballsOf_97 c12 (q := 104) t_X9_ballsOf_97 (q2 := 100) rfl ?_
              refine xr_iconst i_X9_ballsOf_104 (q := 105) rfl ?_
              refine xr_iadd i_X9_ballsOf_105 (q := 106) rfl ?_
              refine xr_istore i_X9_ballsOf_106 rfl (L2 := [some (.ref v0), some (.int v1), some (.int v2), some (.int v3), some (.int (v4 + (Int32.ofInt 0))), some (.int v5), some (.int x7), some (.int (Int32.ofInt 0))]) rfl (q := 108) rfl ?_
              refine xr_iinc i_X9_ballsOf_108 rfl rfl (L2 := [some (.ref v0), some (.int v1), some (.int v2), some (.int v3), some (.int (v4 + (Int32.ofInt 0))), some (.int (v5 + Int32.ofInt 1)), some (.int x7), some (.int (Int32.ofInt 0))]) rfl (q := 111) rfl ?_
              refine xr_goto i_X9_ballsOf_111 (q := 6) t_X9_ballsOf_111 ?_
              exact xi_X_le (xi_le_s (xi_le_s (xi_le_s (xi_le_s (xi_le_s (xi_le_s (xi_le_n (xi_le_n xi_le_z)))))))) (ih _ _ _ _ _ _ _ h)
            · replace h := (if_neg c12).symm.trans h
              refine xr_ifCond_eq_n i_X9_ballsOf_97 c12 (q := 104) t_X9_ballsOf_97 (q2 := 100) rfl ?_
              refine xr_iconst i_X9_ballsOf_100 (q := 101) rfl ?_
              refine xr_goto i_X9_ballsOf_101 (q := 105) t_X9_ballsOf_101 ?_
              refine xr_iadd i_X9_ballsOf_105 (q := 106) rfl ?_
              refine xr_istore i_X9_ballsOf_106 rfl (L2 := [some (.ref v0), some (.int v1), some (.int v2), some (.int v3), some (.int (v4 + (Int32.ofInt 1))), some (.int v5), some (.int x7), some (.int (Int32.ofInt 0))]) rfl (q := 108) rfl ?_
              refine xr_iinc i_X9_ballsOf_108 rfl rfl (L2 := [some (.ref v0), some (.int v1), some (.int v2), some (.int v3), some (.int (v4 + (Int32.ofInt 1))), some (.int (v5 + Int32.ofInt 1)), some (.int x7), some (.int (Int32.ofInt 0))]) rfl (q := 111) rfl ?_
              refine xr_goto i_X9_ballsOf_111 (q := 6) t_X9_ballsOf_111 ?_
              exact xi_X_le (xi_le_s (xi_le_s (xi_le_s (xi_le_s (xi_le_s (xi_le_s (xi_le_n (xi_le_n xi_le_z)))))))) (ih _ _ _ _ _ _ _ h)
      · replace h := (if_neg c48).symm.trans h
        refine xr_if_icmp_eq_n i_X9_ballsOf_32 c48 (q := 57) t_X9_ballsOf_32 (q2 := 35) rfl ?_
        refine xr_aload_n i_X9_ballsOf_35 rfl (q := 36) rfl ?_
        obtain ⟨c20, h⟩ := xi_if_some h
        obtain ⟨b21, eb21, h⟩ := xi_bind_some h
        refine xr_getR i_X9_ballsOf_36 xfe_X9_25 c20 eb21 (q := 39) rfl ?_
        refine xr_bipush i_X9_ballsOf_39 (q := 41) rfl ?_
        refine xr_iconst i_X9_ballsOf_41 (q := 42) rfl ?_
        refine xr_iload i_X9_ballsOf_42 rfl (q := 44) rfl ?_
        refine xr_imul i_X9_ballsOf_44 (q := 45) rfl ?_
        refine xr_iadd i_X9_ballsOf_45 (q := 46) rfl ?_
        refine xr_iconst i_X9_ballsOf_46 (q := 47) rfl ?_
        refine xr_iadd i_X9_ballsOf_47 (q := 48) rfl ?_
        obtain ⟨c22, h⟩ := xi_if_some h
        refine xr_iaload i_X9_ballsOf_48 c22 (q := 49) rfl ?_
        refine xr_iload_n i_X9_ballsOf_49 rfl (q := 50) rfl ?_
        by_cases c47 : (m6.1 b21 (Int32.toNatClampNeg ((((Int8.ofInt 10).toInt32) + ((Int32.ofInt 4) * v5)) + (Int32.ofInt 1)))) = v1
        · replace h := (if_pos c47).symm.trans h
          refine xr_if_icmp_ne_p i_X9_ballsOf_50 c47 (q := 57) t_X9_ballsOf_50 (q2 := 53) rfl ?_
          refine xr_iconst i_X9_ballsOf_53 (q := 54) rfl ?_
          refine xr_goto i_X9_ballsOf_54 (q := 58) t_X9_ballsOf_54 ?_
          refine xr_istore i_X9_ballsOf_58 rfl (L2 := [some (.ref v0), some (.int v1), some (.int v2), some (.int v3), some (.int v4), some (.int v5), some (.int x7), some (.int (Int32.ofInt 1))]) rfl (q := 60) rfl ?_
          refine xr_iload i_X9_ballsOf_60 rfl (q := 62) rfl ?_
          refine xr_iload i_X9_ballsOf_62 rfl (q := 64) rfl ?_
          by_cases c46 : (Int32.ofInt 1) = 0
          · replace h := (if_pos c46).symm.trans h
            refine xr_ifCond_eq_p i_X9_ballsOf_64 c46 (q := 104) t_X9_ballsOf_64 (q2 := 67) rfl ?_
            refine xr_iconst i_X9_ballsOf_104 (q := 105) rfl ?_
            refine xr_iadd i_X9_ballsOf_105 (q := 106) rfl ?_
            refine xr_istore i_X9_ballsOf_106 rfl (L2 := [some (.ref v0), some (.int v1), some (.int v2), some (.int v3), some (.int (v4 + (Int32.ofInt 0))), some (.int v5), some (.int x7), some (.int (Int32.ofInt 1))]) rfl (q := 108) rfl ?_
            refine xr_iinc i_X9_ballsOf_108 rfl rfl (L2 := [some (.ref v0), some (.int v1), some (.int v2), some (.int v3), some (.int (v4 + (Int32.ofInt 0))), some (.int (v5 + Int32.ofInt 1)), some (.int x7), some (.int (Int32.ofInt 1))]) rfl (q := 111) rfl ?_
            refine xr_goto i_X9_ballsOf_111 (q := 6) t_X9_ballsOf_111 ?_
            exact xi_X_le (xi_le_s (xi_le_s (xi_le_s (xi_le_s (xi_le_s (xi_le_s (xi_le_n (xi_le_n xi_le_z)))))))) (ih _ _ _ _ _ _ _ h)
          · replace h := (if_neg c46).symm.trans h
            refine xr_ifCond_eq_n i_X9_ballsOf_64 c46 (q := 104) t_X9_ballsOf_64 (q2 := 67) rfl ?_
            refine xr_iload_n i_X9_ballsOf_67 rfl (q := 68) rfl ?_
            by_cases c45 : v3 = 0
            · replace h := (if_pos c45).symm.trans h
              refine xr_ifCond_ne_p i_X9_ballsOf_68 c45 (q := 87) t_X9_ballsOf_68 (q2 := 71) rfl ?_
              refine xr_iload i_X9_ballsOf_71 rfl (q := 73) rfl ?_
              refine xr_aload_n i_X9_ballsOf_73 rfl (q := 74) rfl ?_
              obtain ⟨c40, h⟩ := xi_if_some h
              obtain ⟨b41, eb41, h⟩ := xi_bind_some h
              refine xr_getR i_X9_ballsOf_74 xfe_X9_25 c40 eb41 (q := 77) rfl ?_
              refine xr_iload_n i_X9_ballsOf_77 rfl (q := 78) rfl ?_
              obtain ⟨x43, m42, em42, h⟩ := xi_bI_some h
              refine xr_SI i_X9_ballsOf_78 xcse_X9_154 rfl (As := [.ref b41, .int v2]) rfl (rest := [.int x7, .int v4]) rfl ((cc_X9_ballsOf_154 S _ _ _).trans em42) (q := 81) rfl ?_
              by_cases c44 : x7 = x43
              · replace h := (if_pos c44).symm.trans h
                refine xr_if_icmp_ne_p i_X9_ballsOf_81 c44 (q := 104) t_X9_ballsOf_81 (q2 := 84) rfl ?_
                refine xr_goto i_X9_ballsOf_84 (q := 100) t_X9_ballsOf_84 ?_
                refine xr_iconst i_X9_ballsOf_100 (q := 101) rfl ?_
                refine xr_goto i_X9_ballsOf_101 (q := 105) t_X9_ballsOf_101 ?_
                refine xr_iadd i_X9_ballsOf_105 (q := 106) rfl ?_
                refine xr_istore i_X9_ballsOf_106 rfl (L2 := [some (.ref v0), some (.int v1), some (.int v2), some (.int v3), some (.int (v4 + (Int32.ofInt 1))), some (.int v5), some (.int x7), some (.int (Int32.ofInt 1))]) rfl (q := 108) rfl ?_
                refine xr_iinc i_X9_ballsOf_108 rfl rfl (L2 := [some (.ref v0), some (.int v1), some (.int v2), some (.int v3), some (.int (v4 + (Int32.ofInt 1))), some (.int (v5 + Int32.ofInt 1)), some (.int x7), some (.int (Int32.ofInt 1))]) rfl (q := 111) rfl ?_
                refine xr_goto i_X9_ballsOf_111 (q := 6) t_X9_ballsOf_111 ?_
                exact xi_X_le (xi_le_s (xi_le_s (xi_le_s (xi_le_s (xi_le_s (xi_le_s (xi_le_n (xi_le_n xi_le_z)))))))) (ih _ _ _ _ _ _ _ h)
              · replace h := (if_neg c44).symm.trans h
                refine xr_if_icmp_ne_n i_X9_ballsOf_81 c44 (q := 104) t_X9_ballsOf_81 (q2 := 84) rfl ?_
                refine xr_iconst i_X9_ballsOf_104 (q := 105) rfl ?_
                refine xr_iadd i_X9_ballsOf_105 (q := 106) rfl ?_
                refine xr_istore i_X9_ballsOf_106 rfl (L2 := [some (.ref v0), some (.int v1), some (.int v2), some (.int v3), some (.int (v4 + (Int32.ofInt 0))), some (.int v5), some (.int x7), some (.int (Int32.ofInt 1))]) rfl (q := 108) rfl ?_
                refine xr_iinc i_X9_ballsOf_108 rfl rfl (L2 := [some (.ref v0), some (.int v1), some (.int v2), some (.int v3), some (.int (v4 + (Int32.ofInt 0))), some (.int (v5 + Int32.ofInt 1)), some (.int x7), some (.int (Int32.ofInt 1))]) rfl (q := 111) rfl ?_
                refine xr_goto i_X9_ballsOf_111 (q := 6) t_X9_ballsOf_111 ?_
                exact xi_X_le (xi_le_s (xi_le_s (xi_le_s (xi_le_s (xi_le_s (xi_le_s (xi_le_n (xi_le_n xi_le_z)))))))) (ih _ _ _ _ _ _ _ h)
            · replace h := (if_neg c45).symm.trans h
              refine xr_ifCond_ne_n i_X9_ballsOf_68 c45 (q := 87) t_X9_ballsOf_68 (q2 := 71) rfl ?_
              refine xr_aload_n i_X9_ballsOf_87 rfl (q := 88) rfl ?_
              obtain ⟨c35, h⟩ := xi_if_some h
              obtain ⟨b36, eb36, h⟩ := xi_bind_some h
              refine xr_getR i_X9_ballsOf_88 xfe_X9_25 c35 eb36 (q := 91) rfl ?_
              refine xr_iload_n i_X9_ballsOf_91 rfl (q := 92) rfl ?_
              refine xr_iload i_X9_ballsOf_92 rfl (q := 94) rfl ?_
              obtain ⟨x38, m37, em37, h⟩ := xi_bI_some h
              refine xr_SI i_X9_ballsOf_94 xcse_X9_143 rfl (As := [.ref b36, .int v2, .int x7]) rfl (rest := [.int v4]) rfl ((cc_X9_ballsOf_143 S _ _ _ _).trans em37) (q := 97) rfl ?_
              by_cases c39 : x38 = 0
              · replace h := (if_pos c39).symm.trans h
                refine xr_ifCond_eq_p i_X9_ballsOf_97 c39 (q := 104) t_X9_ballsOf_97 (q2 := 100) rfl ?_
                refine xr_iconst i_X9_ballsOf_104 (q := 105) rfl ?_
                refine xr_iadd i_X9_ballsOf_105 (q := 106) rfl ?_
                refine xr_istore i_X9_ballsOf_106 rfl (L2 := [some (.ref v0), some (.int v1), some (.int v2), some (.int v3), some (.int (v4 + (Int32.ofInt 0))), some (.int v5), some (.int x7), some (.int (Int32.ofInt 1))]) rfl (q := 108) rfl ?_
                refine xr_iinc i_X9_ballsOf_108 rfl rfl (L2 := [some (.ref v0), some (.int v1), some (.int v2), some (.int v3), some (.int (v4 + (Int32.ofInt 0))), some (.int (v5 + Int32.ofInt 1)), some (.int x7), some (.int (Int32.ofInt 1))]) rfl (q := 111) rfl ?_
                refine xr_goto i_X9_ballsOf_111 (q := 6) t_X9_ballsOf_111 ?_
                exact xi_X_le (xi_le_s (xi_le_s (xi_le_s (xi_le_s (xi_le_s (xi_le_s (xi_le_n (xi_le_n xi_le_z)))))))) (ih _ _ _ _ _ _ _ h)
              · replace h := (if_neg c39).symm.trans h
                refine xr_ifCond_eq_n i_X9_ballsOf_97 c39 (q := 104) t_X9_ballsOf_97 (q2 := 100) rfl ?_
                refine xr_iconst i_X9_ballsOf_100 (q := 101) rfl ?_
                refine xr_goto i_X9_ballsOf_101 (q := 105) t_X9_ballsOf_101 ?_
                refine xr_iadd i_X9_ballsOf_105 (q := 106) rfl ?_
                refine xr_istore i_X9_ballsOf_106 rfl (L2 := [some (.ref v0), some (.int v1), some (.int v2), some (.int v3), some (.int (v4 + (Int32.ofInt 1))), some (.int v5), some (.int x7), some (.int (Int32.ofInt 1))]) rfl (q := 108) rfl ?_
                refine xr_iinc i_X9_ballsOf_108 rfl rfl (L2 := [some (.ref v0), some (.int v1), some (.int v2), some (.int v3), some (.int (v4 + (Int32.ofInt 1))), some (.int (v5 + Int32.ofInt 1)), some (.int x7), some (.int (Int32.ofInt 1))]) rfl (q := 111) rfl ?_
                refine xr_goto i_X9_ballsOf_111 (q := 6) t_X9_ballsOf_111 ?_
                exact xi_X_le (xi_le_s (xi_le_s (xi_le_s (xi_le_s (xi_le_s (xi_le_s (xi_le_n (xi_le_n xi_le_z)))))))) (ih _ _ _ _ _ _ _ h)
        · replace h := (if_neg c47).symm.trans h
          refine xr_if_icmp_ne_n i_X9_ballsOf_50 c47 (q := 57) t_X9_ballsOf_50 (q2 := 53) rfl ?_
          refine xr_iconst i_X9_ballsOf_57 (q := 58) rfl ?_
          refine xr_istore i_X9_ballsOf_58 rfl (L2 := [some (.ref v0), some (.int v1), some (.int v2), some (.int v3), some (.int v4), some (.int v5), some (.int x7), some (.int (Int32.ofInt 0))]) rfl (q := 60) rfl ?_
          refine xr_iload i_X9_ballsOf_60 rfl (q := 62) rfl ?_
          refine xr_iload i_X9_ballsOf_62 rfl (q := 64) rfl ?_
          by_cases c34 : (Int32.ofInt 0) = 0
          · replace h := (if_pos c34).symm.trans h
            refine xr_ifCond_eq_p i_X9_ballsOf_64 c34 (q := 104) t_X9_ballsOf_64 (q2 := 67) rfl ?_
            refine xr_iconst i_X9_ballsOf_104 (q := 105) rfl ?_
            refine xr_iadd i_X9_ballsOf_105 (q := 106) rfl ?_
            refine xr_istore i_X9_ballsOf_106 rfl (L2 := [some (.ref v0), some (.int v1), some (.int v2), some (.int v3), some (.int (v4 + (Int32.ofInt 0))), some (.int v5), some (.int x7), some (.int (Int32.ofInt 0))]) rfl (q := 108) rfl ?_
            refine xr_iinc i_X9_ballsOf_108 rfl rfl (L2 := [some (.ref v0), some (.int v1), some (.int v2), some (.int v3), some (.int (v4 + (Int32.ofInt 0))), some (.int (v5 + Int32.ofInt 1)), some (.int x7), some (.int (Int32.ofInt 0))]) rfl (q := 111) rfl ?_
            refine xr_goto i_X9_ballsOf_111 (q := 6) t_X9_ballsOf_111 ?_
            exact xi_X_le (xi_le_s (xi_le_s (xi_le_s (xi_le_s (xi_le_s (xi_le_s (xi_le_n (xi_le_n xi_le_z)))))))) (ih _ _ _ _ _ _ _ h)
          · replace h := (if_neg c34).symm.trans h
            refine xr_ifCond_eq_n i_X9_ballsOf_64 c34 (q := 104) t_X9_ballsOf_64 (q2 := 67) rfl ?_
            refine xr_iload_n i_X9_ballsOf_67 rfl (q := 68) rfl ?_
            by_cases c33 : v3 = 0
            · replace h := (if_pos c33).symm.trans h
              refine xr_ifCond_ne_p i_X9_ballsOf_68 c33 (q := 87) t_X9_ballsOf_68 (q2 := 71) rfl ?_
              refine xr_iload i_X9_ballsOf_71 rfl (q := 73) rfl ?_
              refine xr_aload_n i_X9_ballsOf_73 rfl (q := 74) rfl ?_
              obtain ⟨c28, h⟩ := xi_if_some h
              obtain ⟨b29, eb29, h⟩ := xi_bind_some h
              refine xr_getR i_X9_ballsOf_74 xfe_X9_25 c28 eb29 (q := 77) rfl ?_
              refine xr_iload_n i_X9_ballsOf_77 rfl (q := 78) rfl ?_
              obtain ⟨x31, m30, em30, h⟩ := xi_bI_some h
              refine xr_SI i_X9_ballsOf_78 xcse_X9_154 rfl (As := [.ref b29, .int v2]) rfl (rest := [.int x7, .int v4]) rfl ((cc_X9_ballsOf_154 S _ _ _).trans em30) (q := 81) rfl ?_
              by_cases c32 : x7 = x31
              · replace h := (if_pos c32).symm.trans h
                refine xr_if_icmp_ne_p i_X9_ballsOf_81 c32 (q := 104) t_X9_ballsOf_81 (q2 := 84) rfl ?_
                refine xr_goto i_X9_ballsOf_84 (q := 100) t_X9_ballsOf_84 ?_
                refine xr_iconst i_X9_ballsOf_100 (q := 101) rfl ?_
                refine xr_goto i_X9_ballsOf_101 (q := 105) t_X9_ballsOf_101 ?_
                refine xr_iadd i_X9_ballsOf_105 (q := 106) rfl ?_
                refine xr_istore i_X9_ballsOf_106 rfl (L2 := [some (.ref v0), some (.int v1), some (.int v2), some (.int v3), some (.int (v4 + (Int32.ofInt 1))), some (.int v5), some (.int x7), some (.int (Int32.ofInt 0))]) rfl (q := 108) rfl ?_
                refine xr_iinc i_X9_ballsOf_108 rfl rfl (L2 := [some (.ref v0), some (.int v1), some (.int v2), some (.int v3), some (.int (v4 + (Int32.ofInt 1))), some (.int (v5 + Int32.ofInt 1)), some (.int x7), some (.int (Int32.ofInt 0))]) rfl (q := 111) rfl ?_
                refine xr_goto i_X9_ballsOf_111 (q := 6) t_X9_ballsOf_111 ?_
                exact xi_X_le (xi_le_s (xi_le_s (xi_le_s (xi_le_s (xi_le_s (xi_le_s (xi_le_n (xi_le_n xi_le_z)))))))) (ih _ _ _ _ _ _ _ h)
              · replace h := (if_neg c32).symm.trans h
                refine xr_if_icmp_ne_n i_X9_ballsOf_81 c32 (q := 104) t_X9_ballsOf_81 (q2 := 84) rfl ?_
                refine xr_iconst i_X9_ballsOf_104 (q := 105) rfl ?_
                refine xr_iadd i_X9_ballsOf_105 (q := 106) rfl ?_
                refine xr_istore i_X9_ballsOf_106 rfl (L2 := [some (.ref v0), some (.int v1), some (.int v2), some (.int v3), some (.int (v4 + (Int32.ofInt 0))), some (.int v5), some (.int x7), some (.int (Int32.ofInt 0))]) rfl (q := 108) rfl ?_
                refine xr_iinc i_X9_ballsOf_108 rfl rfl (L2 := [some (.ref v0), some (.int v1), some (.int v2), some (.int v3), some (.int (v4 + (Int32.ofInt 0))), some (.int (v5 + Int32.ofInt 1)), some (.int x7), some (.int (Int32.ofInt 0))]) rfl (q := 111) rfl ?_
                refine xr_goto i_X9_ballsOf_111 (q := 6) t_X9_ballsOf_111 ?_
                exact xi_X_le (xi_le_s (xi_le_s (xi_le_s (xi_le_s (xi_le_s (xi_le_s (xi_le_n (xi_le_n xi_le_z)))))))) (ih _ _ _ _ _ _ _ h)
            · replace h := (if_neg c33).symm.trans h
              refine xr_ifCond_ne_n i_X9_ballsOf_68 c33 (q := 87) t_X9_ballsOf_68 (q2 := 71) rfl ?_
              refine xr_aload_n i_X9_ballsOf_87 rfl (q := 88) rfl ?_
              obtain ⟨c23, h⟩ := xi_if_some h
              obtain ⟨b24, eb24, h⟩ := xi_bind_some h
              refine xr_getR i_X9_ballsOf_88 xfe_X9_25 c23 eb24 (q := 91) rfl ?_
              refine xr_iload_n i_X9_ballsOf_91 rfl (q := 92) rfl ?_
              refine xr_iload i_X9_ballsOf_92 rfl (q := 94) rfl ?_
              obtain ⟨x26, m25, em25, h⟩ := xi_bI_some h
              refine xr_SI i_X9_ballsOf_94 xcse_X9_143 rfl (As := [.ref b24, .int v2, .int x7]) rfl (rest := [.int v4]) rfl ((cc_X9_ballsOf_143 S _ _ _ _).trans em25) (q := 97) rfl ?_
              by_cases c27 : x26 = 0
              · replace h := (if_pos c27).symm.trans h
                refine xr_ifCond_eq_p i_X9_ballsOf_97 c27 (q := 104) t_X9_ballsOf_97 (q2 := 100) rfl ?_
                refine xr_iconst i_X9_ballsOf_104 (q := 105) rfl ?_
                refine xr_iadd i_X9_ballsOf_105 (q := 106) rfl ?_
                refine xr_istore i_X9_ballsOf_106 rfl (L2 := [some (.ref v0), some (.int v1), some (.int v2), some (.int v3), some (.int (v4 + (Int32.ofInt 0))), some (.int v5), some (.int x7), some (.int (Int32.ofInt 0))]) rfl (q := 108) rfl ?_
                refine xr_iinc i_X9_ballsOf_108 rfl rfl (L2 := [some (.ref v0), some (.int v1), some (.int v2), some (.int v3), some (.int (v4 + (Int32.ofInt 0))), some (.int (v5 + Int32.ofInt 1)), some (.int x7), some (.int (Int32.ofInt 0))]) rfl (q := 111) rfl ?_
                refine xr_goto i_X9_ballsOf_111 (q := 6) t_X9_ballsOf_111 ?_
                exact xi_X_le (xi_le_s (xi_le_s (xi_le_s (xi_le_s (xi_le_s (xi_le_s (xi_le_n (xi_le_n xi_le_z)))))))) (ih _ _ _ _ _ _ _ h)
              · replace h := (if_neg c27).symm.trans h
                refine xr_ifCond_eq_n i_X9_ballsOf_97 c27 (q := 104) t_X9_ballsOf_97 (q2 := 100) rfl ?_
                refine xr_iconst i_X9_ballsOf_100 (q := 101) rfl ?_
                refine xr_goto i_X9_ballsOf_101 (q := 105) t_X9_ballsOf_101 ?_
                refine xr_iadd i_X9_ballsOf_105 (q := 106) rfl ?_
                refine xr_istore i_X9_ballsOf_106 rfl (L2 := [some (.ref v0), some (.int v1), some (.int v2), some (.int v3), some (.int (v4 + (Int32.ofInt 1))), some (.int v5), some (.int x7), some (.int (Int32.ofInt 0))]) rfl (q := 108) rfl ?_
                refine xr_iinc i_X9_ballsOf_108 rfl rfl (L2 := [some (.ref v0), some (.int v1), some (.int v2), some (.int v3), some (.int (v4 + (Int32.ofInt 1))), some (.int (v5 + Int32.ofInt 1)), some (.int x7), some (.int (Int32.ofInt 0))]) rfl (q := 111) rfl ?_
                refine xr_goto i_X9_ballsOf_111 (q := 6) t_X9_ballsOf_111 ?_
                exact xi_X_le (xi_le_s (xi_le_s (xi_le_s (xi_le_s (xi_le_s (xi_le_s (xi_le_n (xi_le_n xi_le_z)))))))) (ih _ _ _ _ _ _ _ h)
def E_X9_ballsOf (S : xi_S) (v0 : Nat) (v1 : Int32) (v2 : Int32) (v3 : Int32) (m : xi_M) : Option xi_R :=
  G_X9_ballsOf_6 S 10000 v0 v1 v2 v3 (Int32.ofInt 0) (Int32.ofInt 0) m
def F_X9_ballsOf (S : xi_S) : xi_F := fun As m => match As with
  | [.ref v0, .int v1, .int v2, .int v3] => E_X9_ballsOf S v0 v1 v2 v3 m
  | _ => none
set_option maxRecDepth 100000 in
set_option maxHeartbeats 4000000 in
theorem xe_X9_ballsOf {S : xi_S} {res : xi_R} (v0 : Nat) (v1 : Int32) (v2 : Int32) (v3 : Int32) (m : xi_M) (h : E_X9_ballsOf S v0 v1 v2 v3 m = some res) : xi_X S (P_X9_ballsOf S) (0, [some (.ref v0), some (.int v1), some (.int v2), some (.int v3), none, none, none, none], [], m) res := by
  unfold E_X9_ballsOf at h
  refine xr_iconst i_X9_ballsOf_0 (q := 1) rfl ?_
  refine xr_istore i_X9_ballsOf_1 rfl (L2 := [some (.ref v0), some (.int v1), some (.int v2), some (.int v3), some (.int (Int32.ofInt 0)), none, none, none]) rfl (q := 3) rfl ?_
  refine xr_iconst i_X9_ballsOf_3 (q := 4) rfl ?_
  refine xr_istore i_X9_ballsOf_4 rfl (L2 := [some (.ref v0), some (.int v1), some (.int v2), some (.int v3), some (.int (Int32.ofInt 0)), some (.int (Int32.ofInt 0)), none, none]) rfl (q := 6) rfl ?_
  exact xi_X_le (xi_le_s (xi_le_s (xi_le_s (xi_le_s (xi_le_s (xi_le_s (xi_le_n (xi_le_n xi_le_z)))))))) (xs_X9_ballsOf_6 10000 _ _ _ _ _ _ _ h)
set_option maxRecDepth 100000 in
theorem po_X9_ballsOf {l : Launch} {E : xi_E} {S : xi_S} {D : va_G} {tys : List (ClassId × FieldType)} (hC : xCx E S tys) : xi_Pok l E S D vwCl tys xNs RX9 xTs cX9_ballsOf 8 3 (P_X9_ballsOf S) := ⟨xi_dc_ok, by rw [hC.2]; exact xfo_X9, xkio_X9, xklo_X9, xi_calls_ok (ins := .invokestatic) (List.forall_mem_cons.mpr ⟨(xc_X9_143 (sn_X9_isReached hC) (by decide)), List.forall_mem_cons.mpr ⟨(xc_X9_154 (sn_X9_ball hC) (by decide)), fun _ h => absurd h List.not_mem_nil⟩⟩), xi_calls_ok (ins := .invokevirtual) (fun _ h => absurd h List.not_mem_nil)⟩
theorem sn_X9_ballsOf {l : Launch} {E : xi_E} {S : xi_S} {D : va_G} {tys : List (ClassId × FieldType)} (hC : xCx E S tys) : ∀ As m1 r m2, F_X9_ballsOf S As m1 = some (r, m2) → xi_Sound l E S D vwCl tys xNs xTs yX9_ballsOf cX9_ballsOf 8 (some .int) 3 As m1 r m2 := by
  intro As m1 r m2 h
  unfold F_X9_ballsOf at h
  split at h
  · exact xi_meth (P := P_X9_ballsOf S) (by decide) hC.1 (po_X9_ballsOf hC) (Nat.le_of_ble_eq_true rfl) rfl (xe_X9_ballsOf _ _ _ _ _ h)
  · exact xi_no h
theorem i_X9_reached_0 : xi_dc cX9_reached 0 = some (.iconst 0, 1) := by decide +kernel
theorem i_X9_reached_1 : xi_dc cX9_reached 1 = some (.istore_n 2, 1) := by decide +kernel
theorem i_X9_reached_2 : xi_dc cX9_reached 2 = some (.iconst 0, 1) := by decide +kernel
theorem i_X9_reached_3 : xi_dc cX9_reached 3 = some (.istore_n 3, 1) := by decide +kernel
theorem i_X9_reached_4 : xi_dc cX9_reached 4 = some (.iload_n 3, 1) := by decide +kernel
theorem i_X9_reached_5 : xi_dc cX9_reached 5 = some (.bipush 21, 2) := by decide +kernel
theorem i_X9_reached_7 : xi_dc cX9_reached 7 = some (.if_icmp .ge 29, 3) := by decide +kernel
theorem t_X9_reached_7 : ((7 : Nat) : Int) + 29 = ((36 : Nat) : Int) := by decide +kernel
theorem i_X9_reached_10 : xi_dc cX9_reached 10 = some (.iload_n 2, 1) := by decide +kernel
theorem i_X9_reached_11 : xi_dc cX9_reached 11 = some (.aload_n 0, 1) := by decide +kernel
theorem i_X9_reached_12 : xi_dc cX9_reached 12 = some (.getfield 25, 3) := by decide +kernel
theorem i_X9_reached_15 : xi_dc cX9_reached 15 = some (.iload_n 1, 1) := by decide +kernel
theorem i_X9_reached_16 : xi_dc cX9_reached 16 = some (.iload_n 3, 1) := by decide +kernel
theorem i_X9_reached_17 : xi_dc cX9_reached 17 = some (.invokestatic 143, 3) := by decide +kernel
theorem i_X9_reached_20 : xi_dc cX9_reached 20 = some (.ifCond .eq 7, 3) := by decide +kernel
theorem t_X9_reached_20 : ((20 : Nat) : Int) + 7 = ((27 : Nat) : Int) := by decide +kernel
theorem i_X9_reached_23 : xi_dc cX9_reached 23 = some (.iconst 1, 1) := by decide +kernel
theorem i_X9_reached_24 : xi_dc cX9_reached 24 = some (.goto 4, 3) := by decide +kernel
theorem t_X9_reached_24 : ((24 : Nat) : Int) + 4 = ((28 : Nat) : Int) := by decide +kernel
theorem i_X9_reached_27 : xi_dc cX9_reached 27 = some (.iconst 0, 1) := by decide +kernel
theorem i_X9_reached_28 : xi_dc cX9_reached 28 = some (.iadd, 1) := by decide +kernel
theorem i_X9_reached_29 : xi_dc cX9_reached 29 = some (.istore_n 2, 1) := by decide +kernel
theorem i_X9_reached_30 : xi_dc cX9_reached 30 = some (.iinc 3 1, 3) := by decide +kernel
theorem i_X9_reached_33 : xi_dc cX9_reached 33 = some (.goto (-29), 3) := by decide +kernel
theorem t_X9_reached_33 : ((33 : Nat) : Int) + (-29) = ((4 : Nat) : Int) := by decide +kernel
theorem i_X9_reached_36 : xi_dc cX9_reached 36 = some (.iload_n 2, 1) := by decide +kernel
theorem i_X9_reached_37 : xi_dc cX9_reached 37 = some (.ireturn, 1) := by decide +kernel
def P_X9_reached (S : xi_S) : xi_P := (xi_dc cX9_reached, xi_tab xfl_X9, xi_tab xki_X9, xi_tab xkl_X9, xi_tab xcs_X9, xi_tab xcv_X9, xi_calls [(143, xi_wS 3 (F_X9_isReached S))], xi_calls [], 1)
theorem cc_X9_reached_143 (S : xi_S) (a0 : Nat) (a1 : Int32) (a2 : Int32) (m : xi_M) : (P_X9_reached S).2.2.2.2.2.2.1 143 [.ref a0, .int a1, .int a2] m = (E_X9_isReached S a0 a1 a2 m) := by
  show xi_calls [(143, xi_wS 3 (F_X9_isReached S))] 143 [.ref a0, .int a1, .int a2] m = _
  refine Eq.trans (b := xi_wS 3 (F_X9_isReached S) [.ref a0, .int a1, .int a2] m) (xi_calls_hit rfl) ?_
  exact xi_wS_eq rfl
def G_X9_reached_4 (S : xi_S) : Nat → Nat → Int32 → Int32 → Int32 → xi_M → Option xi_R
  | 0, _, _, _, _, _ => none
  | n + 1, v0, v1, v2, v3, m =>
    if ((Int8.ofInt 21).toInt32) ≤ v3 then
      some (some (.int v2), m)
    else
      if S.1 v0 = 11 then (S.2.2 v0 5).bind fun b2 =>
        xi_bI (E_X9_isReached S b2 v1 v3 m) fun x4 m3 =>
        if x4 = 0 then
          G_X9_reached_4 S n v0 v1 (v2 + (Int32.ofInt 0)) (v3 + Int32.ofInt 1) m3
        else
          G_X9_reached_4 S n v0 v1 (v2 + (Int32.ofInt 1)) (v3 + Int32.ofInt 1) m3
      else none
set_option maxRecDepth 100000 in
set_option maxHeartbeats 4000000 in
theorem xs_X9_reached_4 {S : xi_S} {res : xi_R} : ∀ (n : Nat) (v0 : Nat) (v1 : Int32) (v2 : Int32) (v3 : Int32) (m : xi_M), G_X9_reached_4 S n v0 v1 v2 v3 m = some res → xi_X S (P_X9_reached S) (4, [some (.ref v0), some (.int v1), some (.int v2), some (.int v3)], [], m) res := by
  intro n
  induction n with
  | zero => intro v0 v1 v2 v3 m h; exact xi_no h
  | succ n ih =>
    intro v0 v1 v2 v3 m h
    unfold G_X9_reached_4 at h
    refine xr_iload_n i_X9_reached_4 rfl (q := 5) rfl ?_
    refine xr_bipush i_X9_reached_5 (q := 7) rfl ?_
    by_cases c6 : ((Int8.ofInt 21).toInt32) ≤ v3
    · replace h := (if_pos c6).symm.trans h
      refine xr_if_icmp_ge_p i_X9_reached_7 c6 (q := 36) t_X9_reached_7 (q2 := 10) rfl ?_
      refine xr_iload_n i_X9_reached_36 rfl (q := 37) rfl ?_
      exact xr_ireturn i_X9_reached_37 rfl h
    · replace h := (if_neg c6).symm.trans h
      refine xr_if_icmp_ge_n i_X9_reached_7 c6 (q := 36) t_X9_reached_7 (q2 := 10) rfl ?_
      refine xr_iload_n i_X9_reached_10 rfl (q := 11) rfl ?_
      refine xr_aload_n i_X9_reached_11 rfl (q := 12) rfl ?_
      obtain ⟨c1, h⟩ := xi_if_some h
      obtain ⟨b2, eb2, h⟩ := xi_bind_some h
      refine xr_getR i_X9_reached_12 xfe_X9_25 c1 eb2 (q := 15) rfl ?_
      refine xr_iload_n i_X9_reached_15 rfl (q := 16) rfl ?_
      refine xr_iload_n i_X9_reached_16 rfl (q := 17) rfl ?_
      obtain ⟨x4, m3, em3, h⟩ := xi_bI_some h
      refine xr_SI i_X9_reached_17 xcse_X9_143 rfl (As := [.ref b2, .int v1, .int v3]) rfl (rest := [.int v2]) rfl ((cc_X9_reached_143 S _ _ _ _).trans em3) (q := 20) rfl ?_
      by_cases c5 : x4 = 0
      · replace h := (if_pos c5).symm.trans h
        refine xr_ifCond_eq_p i_X9_reached_20 c5 (q := 27) t_X9_reached_20 (q2 := 23) rfl ?_
        refine xr_iconst i_X9_reached_27 (q := 28) rfl ?_
        refine xr_iadd i_X9_reached_28 (q := 29) rfl ?_
        refine xr_istore_n i_X9_reached_29 rfl (L2 := [some (.ref v0), some (.int v1), some (.int (v2 + (Int32.ofInt 0))), some (.int v3)]) rfl (q := 30) rfl ?_
        refine xr_iinc i_X9_reached_30 rfl rfl (L2 := [some (.ref v0), some (.int v1), some (.int (v2 + (Int32.ofInt 0))), some (.int (v3 + Int32.ofInt 1))]) rfl (q := 33) rfl ?_
        refine xr_goto i_X9_reached_33 (q := 4) t_X9_reached_33 ?_
        exact xi_X_le (xi_le_s (xi_le_s (xi_le_s (xi_le_s xi_le_z)))) (ih _ _ _ _ _ h)
      · replace h := (if_neg c5).symm.trans h
        refine xr_ifCond_eq_n i_X9_reached_20 c5 (q := 27) t_X9_reached_20 (q2 := 23) rfl ?_
        refine xr_iconst i_X9_reached_23 (q := 24) rfl ?_
        refine xr_goto i_X9_reached_24 (q := 28) t_X9_reached_24 ?_
        refine xr_iadd i_X9_reached_28 (q := 29) rfl ?_
        refine xr_istore_n i_X9_reached_29 rfl (L2 := [some (.ref v0), some (.int v1), some (.int (v2 + (Int32.ofInt 1))), some (.int v3)]) rfl (q := 30) rfl ?_
        refine xr_iinc i_X9_reached_30 rfl rfl (L2 := [some (.ref v0), some (.int v1), some (.int (v2 + (Int32.ofInt 1))), some (.int (v3 + Int32.ofInt 1))]) rfl (q := 33) rfl ?_
        refine xr_goto i_X9_reached_33 (q := 4) t_X9_reached_33 ?_
        exact xi_X_le (xi_le_s (xi_le_s (xi_le_s (xi_le_s xi_le_z)))) (ih _ _ _ _ _ h)
def E_X9_reached (S : xi_S) (v0 : Nat) (v1 : Int32) (m : xi_M) : Option xi_R :=
  G_X9_reached_4 S 10000 v0 v1 (Int32.ofInt 0) (Int32.ofInt 0) m
def F_X9_reached (S : xi_S) : xi_F := fun As m => match As with
  | [.ref v0, .int v1] => E_X9_reached S v0 v1 m
  | _ => none
set_option maxRecDepth 100000 in
set_option maxHeartbeats 4000000 in
theorem xe_X9_reached {S : xi_S} {res : xi_R} (v0 : Nat) (v1 : Int32) (m : xi_M) (h : E_X9_reached S v0 v1 m = some res) : xi_X S (P_X9_reached S) (0, [some (.ref v0), some (.int v1), none, none], [], m) res := by
  unfold E_X9_reached at h
  refine xr_iconst i_X9_reached_0 (q := 1) rfl ?_
  refine xr_istore_n i_X9_reached_1 rfl (L2 := [some (.ref v0), some (.int v1), some (.int (Int32.ofInt 0)), none]) rfl (q := 2) rfl ?_
  refine xr_iconst i_X9_reached_2 (q := 3) rfl ?_
  refine xr_istore_n i_X9_reached_3 rfl (L2 := [some (.ref v0), some (.int v1), some (.int (Int32.ofInt 0)), some (.int (Int32.ofInt 0))]) rfl (q := 4) rfl ?_
  exact xi_X_le (xi_le_s (xi_le_s (xi_le_s (xi_le_s xi_le_z)))) (xs_X9_reached_4 10000 _ _ _ _ _ h)
set_option maxRecDepth 100000 in
theorem po_X9_reached {l : Launch} {E : xi_E} {S : xi_S} {D : va_G} {tys : List (ClassId × FieldType)} (hC : xCx E S tys) : xi_Pok l E S D vwCl tys xNs RX9 xTs cX9_reached 4 3 (P_X9_reached S) := ⟨xi_dc_ok, by rw [hC.2]; exact xfo_X9, xkio_X9, xklo_X9, xi_calls_ok (ins := .invokestatic) (List.forall_mem_cons.mpr ⟨(xc_X9_143 (sn_X9_isReached hC) (by decide)), fun _ h => absurd h List.not_mem_nil⟩), xi_calls_ok (ins := .invokevirtual) (fun _ h => absurd h List.not_mem_nil)⟩
theorem sn_X9_reached {l : Launch} {E : xi_E} {S : xi_S} {D : va_G} {tys : List (ClassId × FieldType)} (hC : xCx E S tys) : ∀ As m1 r m2, F_X9_reached S As m1 = some (r, m2) → xi_Sound l E S D vwCl tys xNs xTs yX9_reached cX9_reached 4 (some .int) 3 As m1 r m2 := by
  intro As m1 r m2 h
  unfold F_X9_reached at h
  split at h
  · exact xi_meth (P := P_X9_reached S) (by decide) hC.1 (po_X9_reached hC) (Nat.le_of_ble_eq_true rfl) rfl (xe_X9_reached _ _ _ h)
  · exact xi_no h
theorem i_X9_mark_0 : xi_dc cX9_mark 0 = some (.aload_n 0, 1) := by decide +kernel
theorem i_X9_mark_1 : xi_dc cX9_mark 1 = some (.iload_n 1, 1) := by decide +kernel
theorem i_X9_mark_2 : xi_dc cX9_mark 2 = some (.invokevirtual 167, 3) := by decide +kernel
theorem i_X9_mark_5 : xi_dc cX9_mark 5 = some (.ifCond .eq 12, 3) := by decide +kernel
theorem t_X9_mark_5 : ((5 : Nat) : Int) + 12 = ((17 : Nat) : Int) := by decide +kernel
theorem i_X9_mark_8 : xi_dc cX9_mark 8 = some (.iload_n 2, 1) := by decide +kernel
theorem i_X9_mark_9 : xi_dc cX9_mark 9 = some (.iconst 1, 1) := by decide +kernel
theorem i_X9_mark_10 : xi_dc cX9_mark 10 = some (.iconst 5, 1) := by decide +kernel
theorem i_X9_mark_11 : xi_dc cX9_mark 11 = some (.invokestatic 63, 3) := by decide +kernel
theorem i_X9_mark_14 : xi_dc cX9_mark 14 = some (.ifCond .ne 5, 3) := by decide +kernel
theorem t_X9_mark_14 : ((14 : Nat) : Int) + 5 = ((19 : Nat) : Int) := by decide +kernel
theorem i_X9_mark_17 : xi_dc cX9_mark 17 = some (.iconst (-1), 1) := by decide +kernel
theorem i_X9_mark_18 : xi_dc cX9_mark 18 = some (.ireturn, 1) := by decide +kernel
theorem i_X9_mark_19 : xi_dc cX9_mark 19 = some (.bipush 10, 2) := by decide +kernel
theorem i_X9_mark_21 : xi_dc cX9_mark 21 = some (.iconst 4, 1) := by decide +kernel
theorem i_X9_mark_22 : xi_dc cX9_mark 22 = some (.iload_n 1, 1) := by decide +kernel
theorem i_X9_mark_23 : xi_dc cX9_mark 23 = some (.imul, 1) := by decide +kernel
theorem i_X9_mark_24 : xi_dc cX9_mark 24 = some (.iadd, 1) := by decide +kernel
theorem i_X9_mark_25 : xi_dc cX9_mark 25 = some (.istore_n 3, 1) := by decide +kernel
theorem i_X9_mark_26 : xi_dc cX9_mark 26 = some (.aload_n 0, 1) := by decide +kernel
theorem i_X9_mark_27 : xi_dc cX9_mark 27 = some (.getfield 25, 3) := by decide +kernel
theorem i_X9_mark_30 : xi_dc cX9_mark 30 = some (.iload_n 3, 1) := by decide +kernel
theorem i_X9_mark_31 : xi_dc cX9_mark 31 = some (.iaload, 1) := by decide +kernel
theorem i_X9_mark_32 : xi_dc cX9_mark 32 = some (.iload_n 2, 1) := by decide +kernel
theorem i_X9_mark_33 : xi_dc cX9_mark 33 = some (.invokestatic 173, 3) := by decide +kernel
theorem i_X9_mark_36 : xi_dc cX9_mark 36 = some (.ifCond .ne 9, 3) := by decide +kernel
theorem t_X9_mark_36 : ((36 : Nat) : Int) + 9 = ((45 : Nat) : Int) := by decide +kernel
theorem i_X9_mark_39 : xi_dc cX9_mark 39 = some (.aload_n 0, 1) := by decide +kernel
theorem i_X9_mark_40 : xi_dc cX9_mark 40 = some (.iconst 3, 1) := by decide +kernel
theorem i_X9_mark_41 : xi_dc cX9_mark 41 = some (.invokevirtual 71, 3) := by decide +kernel
theorem i_X9_mark_44 : xi_dc cX9_mark 44 = some (.ireturn, 1) := by decide +kernel
theorem i_X9_mark_45 : xi_dc cX9_mark 45 = some (.iload_n 2, 1) := by decide +kernel
theorem i_X9_mark_46 : xi_dc cX9_mark 46 = some (.tableswitch 111 1 4 #[30, 50, 56, 71], 30) := by decide +kernel
theorem i_X9_mark_76 : xi_dc cX9_mark 76 = some (.aload_n 0, 1) := by decide +kernel
theorem i_X9_mark_77 : xi_dc cX9_mark 77 = some (.getfield 25, 3) := by decide +kernel
theorem i_X9_mark_80 : xi_dc cX9_mark 80 = some (.iload_n 1, 1) := by decide +kernel
theorem i_X9_mark_81 : xi_dc cX9_mark 81 = some (.invokestatic 154, 3) := by decide +kernel
theorem i_X9_mark_84 : xi_dc cX9_mark 84 = some (.aload_n 0, 1) := by decide +kernel
theorem i_X9_mark_85 : xi_dc cX9_mark 85 = some (.getfield 25, 3) := by decide +kernel
theorem i_X9_mark_88 : xi_dc cX9_mark 88 = some (.iload_n 3, 1) := by decide +kernel
theorem i_X9_mark_89 : xi_dc cX9_mark 89 = some (.iconst 2, 1) := by decide +kernel
theorem i_X9_mark_90 : xi_dc cX9_mark 90 = some (.iadd, 1) := by decide +kernel
theorem i_X9_mark_91 : xi_dc cX9_mark 91 = some (.iaload, 1) := by decide +kernel
theorem i_X9_mark_92 : xi_dc cX9_mark 92 = some (.invokestatic 136, 3) := by decide +kernel
theorem i_X9_mark_95 : xi_dc cX9_mark 95 = some (.ireturn, 1) := by decide +kernel
theorem i_X9_mark_96 : xi_dc cX9_mark 96 = some (.aload_n 0, 1) := by decide +kernel
theorem i_X9_mark_97 : xi_dc cX9_mark 97 = some (.iload_n 1, 1) := by decide +kernel
theorem i_X9_mark_98 : xi_dc cX9_mark 98 = some (.invokevirtual 177, 3) := by decide +kernel
theorem i_X9_mark_101 : xi_dc cX9_mark 101 = some (.ireturn, 1) := by decide +kernel
theorem i_X9_mark_102 : xi_dc cX9_mark 102 = some (.aload_n 0, 1) := by decide +kernel
theorem i_X9_mark_103 : xi_dc cX9_mark 103 = some (.aload_n 0, 1) := by decide +kernel
theorem i_X9_mark_104 : xi_dc cX9_mark 104 = some (.getfield 25, 3) := by decide +kernel
theorem i_X9_mark_107 : xi_dc cX9_mark 107 = some (.iload_n 3, 1) := by decide +kernel
theorem i_X9_mark_108 : xi_dc cX9_mark 108 = some (.iconst 1, 1) := by decide +kernel
theorem i_X9_mark_109 : xi_dc cX9_mark 109 = some (.iadd, 1) := by decide +kernel
theorem i_X9_mark_110 : xi_dc cX9_mark 110 = some (.iaload, 1) := by decide +kernel
theorem i_X9_mark_111 : xi_dc cX9_mark 111 = some (.iload_n 1, 1) := by decide +kernel
theorem i_X9_mark_112 : xi_dc cX9_mark 112 = some (.iconst 0, 1) := by decide +kernel
theorem i_X9_mark_113 : xi_dc cX9_mark 113 = some (.invokevirtual 180, 3) := by decide +kernel
theorem i_X9_mark_116 : xi_dc cX9_mark 116 = some (.ireturn, 1) := by decide +kernel
theorem i_X9_mark_117 : xi_dc cX9_mark 117 = some (.aload_n 0, 1) := by decide +kernel
theorem i_X9_mark_118 : xi_dc cX9_mark 118 = some (.getfield 25, 3) := by decide +kernel
theorem i_X9_mark_121 : xi_dc cX9_mark 121 = some (.iload_n 1, 1) := by decide +kernel
theorem i_X9_mark_122 : xi_dc cX9_mark 122 = some (.invokestatic 154, 3) := by decide +kernel
theorem i_X9_mark_125 : xi_dc cX9_mark 125 = some (.iconst 4, 1) := by decide +kernel
theorem i_X9_mark_126 : xi_dc cX9_mark 126 = some (.aload_n 0, 1) := by decide +kernel
theorem i_X9_mark_127 : xi_dc cX9_mark 127 = some (.getfield 25, 3) := by decide +kernel
theorem i_X9_mark_130 : xi_dc cX9_mark 130 = some (.iload_n 3, 1) := by decide +kernel
theorem i_X9_mark_131 : xi_dc cX9_mark 131 = some (.iconst 3, 1) := by decide +kernel
theorem i_X9_mark_132 : xi_dc cX9_mark 132 = some (.iadd, 1) := by decide +kernel
theorem i_X9_mark_133 : xi_dc cX9_mark 133 = some (.iaload, 1) := by decide +kernel
theorem i_X9_mark_134 : xi_dc cX9_mark 134 = some (.aload_n 0, 1) := by decide +kernel
theorem i_X9_mark_135 : xi_dc cX9_mark 135 = some (.getfield 25, 3) := by decide +kernel
theorem i_X9_mark_138 : xi_dc cX9_mark 138 = some (.iload_n 3, 1) := by decide +kernel
theorem i_X9_mark_139 : xi_dc cX9_mark 139 = some (.iconst 2, 1) := by decide +kernel
theorem i_X9_mark_140 : xi_dc cX9_mark 140 = some (.iadd, 1) := by decide +kernel
theorem i_X9_mark_141 : xi_dc cX9_mark 141 = some (.iaload, 1) := by decide +kernel
theorem i_X9_mark_142 : xi_dc cX9_mark 142 = some (.iconst 1, 1) := by decide +kernel
theorem i_X9_mark_143 : xi_dc cX9_mark 143 = some (.aload_n 0, 1) := by decide +kernel
theorem i_X9_mark_144 : xi_dc cX9_mark 144 = some (.getfield 25, 3) := by decide +kernel
theorem i_X9_mark_147 : xi_dc cX9_mark 147 = some (.iconst 3, 1) := by decide +kernel
theorem i_X9_mark_148 : xi_dc cX9_mark 148 = some (.iaload, 1) := by decide +kernel
theorem i_X9_mark_149 : xi_dc cX9_mark 149 = some (.isub, 1) := by decide +kernel
theorem i_X9_mark_150 : xi_dc cX9_mark 150 = some (.invokestatic 128, 3) := by decide +kernel
theorem i_X9_mark_153 : xi_dc cX9_mark 153 = some (.invokestatic 136, 3) := by decide +kernel
theorem i_X9_mark_156 : xi_dc cX9_mark 156 = some (.ireturn, 1) := by decide +kernel
theorem i_X9_mark_157 : xi_dc cX9_mark 157 = some (.aload_n 0, 1) := by decide +kernel
theorem i_X9_mark_158 : xi_dc cX9_mark 158 = some (.iconst 1, 1) := by decide +kernel
theorem i_X9_mark_159 : xi_dc cX9_mark 159 = some (.aload_n 0, 1) := by decide +kernel
theorem i_X9_mark_160 : xi_dc cX9_mark 160 = some (.getfield 25, 3) := by decide +kernel
theorem i_X9_mark_163 : xi_dc cX9_mark 163 = some (.iload_n 3, 1) := by decide +kernel
theorem i_X9_mark_164 : xi_dc cX9_mark 164 = some (.iconst 1, 1) := by decide +kernel
theorem i_X9_mark_165 : xi_dc cX9_mark 165 = some (.iadd, 1) := by decide +kernel
theorem i_X9_mark_166 : xi_dc cX9_mark 166 = some (.iaload, 1) := by decide +kernel
theorem i_X9_mark_167 : xi_dc cX9_mark 167 = some (.isub, 1) := by decide +kernel
theorem i_X9_mark_168 : xi_dc cX9_mark 168 = some (.iload_n 1, 1) := by decide +kernel
theorem i_X9_mark_169 : xi_dc cX9_mark 169 = some (.iconst 1, 1) := by decide +kernel
theorem i_X9_mark_170 : xi_dc cX9_mark 170 = some (.invokevirtual 180, 3) := by decide +kernel
theorem i_X9_mark_173 : xi_dc cX9_mark 173 = some (.ireturn, 1) := by decide +kernel
def P_X9_mark (S : xi_S) : xi_P := (xi_dc cX9_mark, xi_tab xfl_X9, xi_tab xki_X9, xi_tab xkl_X9, xi_tab xcs_X9, xi_tab xcv_X9, xi_calls [(63, xi_wS 3 (F_X9_in0 S)), (128, xi_wS 4 (F_X9_landing S)), (136, xi_wS 2 (F_X9_apart S)), (154, xi_wS 2 (F_X9_ball S)), (173, xi_wS 2 (F_X9_isOf S))], xi_calls [(71, xi_wV S 11 1 (F_X9_found S)), (167, xi_wV S 11 1 (F_X9_isPlayer S)), (177, xi_wV S 11 1 (F_X9_reached S)), (180, xi_wV S 11 3 (F_X9_ballsOf S))], 1)
theorem cc_X9_mark_63 (S : xi_S) (a0 : Int32) (a1 : Int32) (a2 : Int32) (m : xi_M) : (P_X9_mark S).2.2.2.2.2.2.1 63 [.int a0, .int a1, .int a2] m = (E_X9_in0 S a0 a1 a2 m) := by
  show xi_calls [(63, xi_wS 3 (F_X9_in0 S)), (128, xi_wS 4 (F_X9_landing S)), (136, xi_wS 2 (F_X9_apart S)), (154, xi_wS 2 (F_X9_ball S)), (173, xi_wS 2 (F_X9_isOf S))] 63 [.int a0, .int a1, .int a2] m = _
  refine Eq.trans (b := xi_wS 3 (F_X9_in0 S) [.int a0, .int a1, .int a2] m) (xi_calls_hit rfl) ?_
  exact xi_wS_eq rfl
theorem cc_X9_mark_128 (S : xi_S) (a0 : Int32) (a1 : Int32) (a2 : Int32) (a3 : Int32) (m : xi_M) : (P_X9_mark S).2.2.2.2.2.2.1 128 [.int a0, .int a1, .int a2, .int a3] m = (E_X9_landing S a0 a1 a2 a3 m) := by
  show xi_calls [(63, xi_wS 3 (F_X9_in0 S)), (128, xi_wS 4 (F_X9_landing S)), (136, xi_wS 2 (F_X9_apart S)), (154, xi_wS 2 (F_X9_ball S)), (173, xi_wS 2 (F_X9_isOf S))] 128 [.int a0, .int a1, .int a2, .int a3] m = _
  refine Eq.trans (b := xi_calls [(128, xi_wS 4 (F_X9_landing S)), (136, xi_wS 2 (F_X9_apart S)), (154, xi_wS 2 (F_X9_ball S)), (173, xi_wS 2 (F_X9_isOf S))] 128 [.int a0, .int a1, .int a2, .int a3] m) (xi_calls_miss rfl) ?_
  refine Eq.trans (b := xi_wS 4 (F_X9_landing S) [.int a0, .int a1, .int a2, .int a3] m) (xi_calls_hit rfl) ?_
  exact xi_wS_eq rfl
theorem cc_X9_mark_136 (S : xi_S) (a0 : Int32) (a1 : Int32) (m : xi_M) : (P_X9_mark S).2.2.2.2.2.2.1 136 [.int a0, .int a1] m = (E_X9_apart S a0 a1 m) := by
  show xi_calls [(63, xi_wS 3 (F_X9_in0 S)), (128, xi_wS 4 (F_X9_landing S)), (136, xi_wS 2 (F_X9_apart S)), (154, xi_wS 2 (F_X9_ball S)), (173, xi_wS 2 (F_X9_isOf S))] 136 [.int a0, .int a1] m = _
  refine Eq.trans (b := xi_calls [(128, xi_wS 4 (F_X9_landing S)), (136, xi_wS 2 (F_X9_apart S)), (154, xi_wS 2 (F_X9_ball S)), (173, xi_wS 2 (F_X9_isOf S))] 136 [.int a0, .int a1] m) (xi_calls_miss rfl) ?_
  refine Eq.trans (b := xi_calls [(136, xi_wS 2 (F_X9_apart S)), (154, xi_wS 2 (F_X9_ball S)), (173, xi_wS 2 (F_X9_isOf S))] 136 [.int a0, .int a1] m) (xi_calls_miss rfl) ?_
  refine Eq.trans (b := xi_wS 2 (F_X9_apart S) [.int a0, .int a1] m) (xi_calls_hit rfl) ?_
  exact xi_wS_eq rfl
theorem cc_X9_mark_154 (S : xi_S) (a0 : Nat) (a1 : Int32) (m : xi_M) : (P_X9_mark S).2.2.2.2.2.2.1 154 [.ref a0, .int a1] m = (E_X9_ball S a0 a1 m) := by
  show xi_calls [(63, xi_wS 3 (F_X9_in0 S)), (128, xi_wS 4 (F_X9_landing S)), (136, xi_wS 2 (F_X9_apart S)), (154, xi_wS 2 (F_X9_ball S)), (173, xi_wS 2 (F_X9_isOf S))] 154 [.ref a0, .int a1] m = _
  refine Eq.trans (b := xi_calls [(128, xi_wS 4 (F_X9_landing S)), (136, xi_wS 2 (F_X9_apart S)), (154, xi_wS 2 (F_X9_ball S)), (173, xi_wS 2 (F_X9_isOf S))] 154 [.ref a0, .int a1] m) (xi_calls_miss rfl) ?_
  refine Eq.trans (b := xi_calls [(136, xi_wS 2 (F_X9_apart S)), (154, xi_wS 2 (F_X9_ball S)), (173, xi_wS 2 (F_X9_isOf S))] 154 [.ref a0, .int a1] m) (xi_calls_miss rfl) ?_
  refine Eq.trans (b := xi_calls [(154, xi_wS 2 (F_X9_ball S)), (173, xi_wS 2 (F_X9_isOf S))] 154 [.ref a0, .int a1] m) (xi_calls_miss rfl) ?_
  refine Eq.trans (b := xi_wS 2 (F_X9_ball S) [.ref a0, .int a1] m) (xi_calls_hit rfl) ?_
  exact xi_wS_eq rfl
theorem cc_X9_mark_173 (S : xi_S) (a0 : Int32) (a1 : Int32) (m : xi_M) : (P_X9_mark S).2.2.2.2.2.2.1 173 [.int a0, .int a1] m = (E_X9_isOf S a0 a1 m) := by
  show xi_calls [(63, xi_wS 3 (F_X9_in0 S)), (128, xi_wS 4 (F_X9_landing S)), (136, xi_wS 2 (F_X9_apart S)), (154, xi_wS 2 (F_X9_ball S)), (173, xi_wS 2 (F_X9_isOf S))] 173 [.int a0, .int a1] m = _
  refine Eq.trans (b := xi_calls [(128, xi_wS 4 (F_X9_landing S)), (136, xi_wS 2 (F_X9_apart S)), (154, xi_wS 2 (F_X9_ball S)), (173, xi_wS 2 (F_X9_isOf S))] 173 [.int a0, .int a1] m) (xi_calls_miss rfl) ?_
  refine Eq.trans (b := xi_calls [(136, xi_wS 2 (F_X9_apart S)), (154, xi_wS 2 (F_X9_ball S)), (173, xi_wS 2 (F_X9_isOf S))] 173 [.int a0, .int a1] m) (xi_calls_miss rfl) ?_
  refine Eq.trans (b := xi_calls [(154, xi_wS 2 (F_X9_ball S)), (173, xi_wS 2 (F_X9_isOf S))] 173 [.int a0, .int a1] m) (xi_calls_miss rfl) ?_
  refine Eq.trans (b := xi_calls [(173, xi_wS 2 (F_X9_isOf S))] 173 [.int a0, .int a1] m) (xi_calls_miss rfl) ?_
  refine Eq.trans (b := xi_wS 2 (F_X9_isOf S) [.int a0, .int a1] m) (xi_calls_hit rfl) ?_
  exact xi_wS_eq rfl
theorem cc_X9_mark_71 (S : xi_S) (a0 : Nat) (a1 : Int32) (m : xi_M) : (P_X9_mark S).2.2.2.2.2.2.2.1 71 [.ref a0, .int a1] m = (if S.1 a0 = 11 then E_X9_found S a0 a1 m else none) := by
  show xi_calls [(71, xi_wV S 11 1 (F_X9_found S)), (167, xi_wV S 11 1 (F_X9_isPlayer S)), (177, xi_wV S 11 1 (F_X9_reached S)), (180, xi_wV S 11 3 (F_X9_ballsOf S))] 71 [.ref a0, .int a1] m = _
  refine Eq.trans (b := xi_wV S 11 1 (F_X9_found S) [.ref a0, .int a1] m) (xi_calls_hit rfl) ?_
  exact xi_wV_eq rfl
theorem cc_X9_mark_167 (S : xi_S) (a0 : Nat) (a1 : Int32) (m : xi_M) : (P_X9_mark S).2.2.2.2.2.2.2.1 167 [.ref a0, .int a1] m = (if S.1 a0 = 11 then E_X9_isPlayer S a0 a1 m else none) := by
  show xi_calls [(71, xi_wV S 11 1 (F_X9_found S)), (167, xi_wV S 11 1 (F_X9_isPlayer S)), (177, xi_wV S 11 1 (F_X9_reached S)), (180, xi_wV S 11 3 (F_X9_ballsOf S))] 167 [.ref a0, .int a1] m = _
  refine Eq.trans (b := xi_calls [(167, xi_wV S 11 1 (F_X9_isPlayer S)), (177, xi_wV S 11 1 (F_X9_reached S)), (180, xi_wV S 11 3 (F_X9_ballsOf S))] 167 [.ref a0, .int a1] m) (xi_calls_miss rfl) ?_
  refine Eq.trans (b := xi_wV S 11 1 (F_X9_isPlayer S) [.ref a0, .int a1] m) (xi_calls_hit rfl) ?_
  exact xi_wV_eq rfl
theorem cc_X9_mark_177 (S : xi_S) (a0 : Nat) (a1 : Int32) (m : xi_M) : (P_X9_mark S).2.2.2.2.2.2.2.1 177 [.ref a0, .int a1] m = (if S.1 a0 = 11 then E_X9_reached S a0 a1 m else none) := by
  show xi_calls [(71, xi_wV S 11 1 (F_X9_found S)), (167, xi_wV S 11 1 (F_X9_isPlayer S)), (177, xi_wV S 11 1 (F_X9_reached S)), (180, xi_wV S 11 3 (F_X9_ballsOf S))] 177 [.ref a0, .int a1] m = _
  refine Eq.trans (b := xi_calls [(167, xi_wV S 11 1 (F_X9_isPlayer S)), (177, xi_wV S 11 1 (F_X9_reached S)), (180, xi_wV S 11 3 (F_X9_ballsOf S))] 177 [.ref a0, .int a1] m) (xi_calls_miss rfl) ?_
  refine Eq.trans (b := xi_calls [(177, xi_wV S 11 1 (F_X9_reached S)), (180, xi_wV S 11 3 (F_X9_ballsOf S))] 177 [.ref a0, .int a1] m) (xi_calls_miss rfl) ?_
  refine Eq.trans (b := xi_wV S 11 1 (F_X9_reached S) [.ref a0, .int a1] m) (xi_calls_hit rfl) ?_
  exact xi_wV_eq rfl
theorem cc_X9_mark_180 (S : xi_S) (a0 : Nat) (a1 : Int32) (a2 : Int32) (a3 : Int32) (m : xi_M) : (P_X9_mark S).2.2.2.2.2.2.2.1 180 [.ref a0, .int a1, .int a2, .int a3] m = (if S.1 a0 = 11 then E_X9_ballsOf S a0 a1 a2 a3 m else none) := by
  show xi_calls [(71, xi_wV S 11 1 (F_X9_found S)), (167, xi_wV S 11 1 (F_X9_isPlayer S)), (177, xi_wV S 11 1 (F_X9_reached S)), (180, xi_wV S 11 3 (F_X9_ballsOf S))] 180 [.ref a0, .int a1, .int a2, .int a3] m = _
  refine Eq.trans (b := xi_calls [(167, xi_wV S 11 1 (F_X9_isPlayer S)), (177, xi_wV S 11 1 (F_X9_reached S)), (180, xi_wV S 11 3 (F_X9_ballsOf S))] 180 [.ref a0, .int a1, .int a2, .int a3] m) (xi_calls_miss rfl) ?_
  refine Eq.trans (b := xi_calls [(177, xi_wV S 11 1 (F_X9_reached S)), (180, xi_wV S 11 3 (F_X9_ballsOf S))] 180 [.ref a0, .int a1, .int a2, .int a3] m) (xi_calls_miss rfl) ?_
  refine Eq.trans (b := xi_calls [(180, xi_wV S 11 3 (F_X9_ballsOf S))] 180 [.ref a0, .int a1, .int a2, .int a3] m) (xi_calls_miss rfl) ?_
  refine Eq.trans (b := xi_wV S 11 3 (F_X9_ballsOf S) [.ref a0, .int a1, .int a2, .int a3] m) (xi_calls_hit rfl) ?_
  exact xi_wV_eq rfl
def E_X9_mark (S : xi_S) (v0 : Nat) (v1 : Int32) (v2 : Int32) (m : xi_M) : Option xi_R :=
  xi_bI (if S.1 v0 = 11 then E_X9_isPlayer S v0 v1 m else none) fun x2 m1 =>
  if x2 = 0 then
    some (some (.int (Int32.ofInt (-1))), m1)
  else
    xi_bI (E_X9_in0 S v2 (Int32.ofInt 1) (Int32.ofInt 5) m1) fun x4 m3 =>
    if x4 = 0 then
      some (some (.int (Int32.ofInt (-1))), m3)
    else
      if S.1 v0 = 11 then (S.2.2 v0 5).bind fun b6 =>
        if S.1 b6 = 0 ∧ ¬ ((((Int8.ofInt 10).toInt32) + ((Int32.ofInt 4) * v1)) < 0 ∨ S.2.1 b6 ≤ Int32.toNatClampNeg (((Int8.ofInt 10).toInt32) + ((Int32.ofInt 4) * v1))) then
          xi_bI (E_X9_isOf S (m3.1 b6 (Int32.toNatClampNeg (((Int8.ofInt 10).toInt32) + ((Int32.ofInt 4) * v1)))) v2 m3) fun x9 m8 =>
          if x9 = 0 then
            xi_bI (if S.1 v0 = 11 then E_X9_found S v0 (Int32.ofInt 3) m8 else none) fun x53 m52 =>
            some (some (.int x53), m52)
          else
            if Int32.toInt v2 = 1 then
              if S.1 v0 = 11 then (S.2.2 v0 5).bind fun b12 =>
                xi_bI (E_X9_ball S b12 v1 m8) fun x14 m13 =>
                if S.1 v0 = 11 then (S.2.2 v0 5).bind fun b16 =>
                  if S.1 b16 = 0 ∧ ¬ (((((Int8.ofInt 10).toInt32) + ((Int32.ofInt 4) * v1)) + (Int32.ofInt 2)) < 0 ∨ S.2.1 b16 ≤ Int32.toNatClampNeg ((((Int8.ofInt 10).toInt32) + ((Int32.ofInt 4) * v1)) + (Int32.ofInt 2))) then
                    xi_bI (E_X9_apart S x14 (m13.1 b16 (Int32.toNatClampNeg ((((Int8.ofInt 10).toInt32) + ((Int32.ofInt 4) * v1)) + (Int32.ofInt 2)))) m13) fun x19 m18 =>
                    some (some (.int x19), m18)
                  else none
                else none
              else none
            else
              if Int32.toInt v2 = 2 then
                xi_bI (if S.1 v0 = 11 then E_X9_reached S v0 v1 m8 else none) fun x22 m21 =>
                some (some (.int x22), m21)
              else
                if Int32.toInt v2 = 3 then
                  if S.1 v0 = 11 then (S.2.2 v0 5).bind fun b25 =>
                    if S.1 b25 = 0 ∧ ¬ (((((Int8.ofInt 10).toInt32) + ((Int32.ofInt 4) * v1)) + (Int32.ofInt 1)) < 0 ∨ S.2.1 b25 ≤ Int32.toNatClampNeg ((((Int8.ofInt 10).toInt32) + ((Int32.ofInt 4) * v1)) + (Int32.ofInt 1))) then
                      xi_bI (if S.1 v0 = 11 then E_X9_ballsOf S v0 (m8.1 b25 (Int32.toNatClampNeg ((((Int8.ofInt 10).toInt32) + ((Int32.ofInt 4) * v1)) + (Int32.ofInt 1)))) v1 (Int32.ofInt 0) m8 else none) fun x28 m27 =>
                      some (some (.int x28), m27)
                    else none
                  else none
                else
                  if Int32.toInt v2 = 4 then
                    if S.1 v0 = 11 then (S.2.2 v0 5).bind fun b31 =>
                      xi_bI (E_X9_ball S b31 v1 m8) fun x33 m32 =>
                      if S.1 v0 = 11 then (S.2.2 v0 5).bind fun b35 =>
                        if S.1 b35 = 0 ∧ ¬ (((((Int8.ofInt 10).toInt32) + ((Int32.ofInt 4) * v1)) + (Int32.ofInt 3)) < 0 ∨ S.2.1 b35 ≤ Int32.toNatClampNeg ((((Int8.ofInt 10).toInt32) + ((Int32.ofInt 4) * v1)) + (Int32.ofInt 3))) then
                          if S.1 v0 = 11 then (S.2.2 v0 5).bind fun b38 =>
                            if S.1 b38 = 0 ∧ ¬ (((((Int8.ofInt 10).toInt32) + ((Int32.ofInt 4) * v1)) + (Int32.ofInt 2)) < 0 ∨ S.2.1 b38 ≤ Int32.toNatClampNeg ((((Int8.ofInt 10).toInt32) + ((Int32.ofInt 4) * v1)) + (Int32.ofInt 2))) then
                              if S.1 v0 = 11 then (S.2.2 v0 5).bind fun b41 =>
                                if S.1 b41 = 0 ∧ ¬ ((Int32.ofInt 3) < 0 ∨ S.2.1 b41 ≤ Int32.toNatClampNeg (Int32.ofInt 3)) then
                                  xi_bI (E_X9_landing S (Int32.ofInt 4) (m32.1 b35 (Int32.toNatClampNeg ((((Int8.ofInt 10).toInt32) + ((Int32.ofInt 4) * v1)) + (Int32.ofInt 3)))) (m32.1 b38 (Int32.toNatClampNeg ((((Int8.ofInt 10).toInt32) + ((Int32.ofInt 4) * v1)) + (Int32.ofInt 2)))) ((Int32.ofInt 1) - (m32.1 b41 (Int32.toNatClampNeg (Int32.ofInt 3)))) m32) fun x44 m43 =>
                                  xi_bI (E_X9_apart S x33 x44 m43) fun x46 m45 =>
                                  some (some (.int x46), m45)
                                else none
                              else none
                            else none
                          else none
                        else none
                      else none
                    else none
                  else
                    if S.1 v0 = 11 then (S.2.2 v0 5).bind fun b48 =>
                      if S.1 b48 = 0 ∧ ¬ (((((Int8.ofInt 10).toInt32) + ((Int32.ofInt 4) * v1)) + (Int32.ofInt 1)) < 0 ∨ S.2.1 b48 ≤ Int32.toNatClampNeg ((((Int8.ofInt 10).toInt32) + ((Int32.ofInt 4) * v1)) + (Int32.ofInt 1))) then
                        xi_bI (if S.1 v0 = 11 then E_X9_ballsOf S v0 ((Int32.ofInt 1) - (m8.1 b48 (Int32.toNatClampNeg ((((Int8.ofInt 10).toInt32) + ((Int32.ofInt 4) * v1)) + (Int32.ofInt 1))))) v1 (Int32.ofInt 1) m8 else none) fun x51 m50 =>
                        some (some (.int x51), m50)
                      else none
                    else none
        else none
      else none
def F_X9_mark (S : xi_S) : xi_F := fun As m => match As with
  | [.ref v0, .int v1, .int v2] => E_X9_mark S v0 v1 v2 m
  | _ => none
set_option maxRecDepth 100000 in
set_option maxHeartbeats 4000000 in
theorem xe_X9_mark {S : xi_S} {res : xi_R} (v0 : Nat) (v1 : Int32) (v2 : Int32) (m : xi_M) (h : E_X9_mark S v0 v1 v2 m = some res) : xi_X S (P_X9_mark S) (0, [some (.ref v0), some (.int v1), some (.int v2), none], [], m) res := by
  unfold E_X9_mark at h
  refine xr_aload_n i_X9_mark_0 rfl (q := 1) rfl ?_
  refine xr_iload_n i_X9_mark_1 rfl (q := 2) rfl ?_
  obtain ⟨x2, m1, em1, h⟩ := xi_bI_some h
  refine xr_VI i_X9_mark_2 xcve_X9_167 rfl (As := [.ref v0, .int v1]) rfl (rest := []) rfl ((cc_X9_mark_167 S _ _ _).trans em1) (q := 5) rfl ?_
  by_cases c56 : x2 = 0
  · replace h := (if_pos c56).symm.trans h
    refine xr_ifCond_eq_p i_X9_mark_5 c56 (q := 17) t_X9_mark_5 (q2 := 8) rfl ?_
    refine xr_iconst i_X9_mark_17 (q := 18) rfl ?_
    exact xr_ireturn i_X9_mark_18 rfl h
  · replace h := (if_neg c56).symm.trans h
    refine xr_ifCond_eq_n i_X9_mark_5 c56 (q := 17) t_X9_mark_5 (q2 := 8) rfl ?_
    refine xr_iload_n i_X9_mark_8 rfl (q := 9) rfl ?_
    refine xr_iconst i_X9_mark_9 (q := 10) rfl ?_
    refine xr_iconst i_X9_mark_10 (q := 11) rfl ?_
    obtain ⟨x4, m3, em3, h⟩ := xi_bI_some h
    refine xr_SI i_X9_mark_11 xcse_X9_63 rfl (As := [.int v2, .int (Int32.ofInt 1), .int (Int32.ofInt 5)]) rfl (rest := []) rfl ((cc_X9_mark_63 S _ _ _ _).trans em3) (q := 14) rfl ?_
    by_cases c55 : x4 = 0
    · replace h := (if_pos c55).symm.trans h
      refine xr_ifCond_ne_p i_X9_mark_14 c55 (q := 19) t_X9_mark_14 (q2 := 17) rfl ?_
      refine xr_iconst i_X9_mark_17 (q := 18) rfl ?_
      exact xr_ireturn i_X9_mark_18 rfl h
    · replace h := (if_neg c55).symm.trans h
      refine xr_ifCond_ne_n i_X9_mark_14 c55 (q := 19) t_X9_mark_14 (q2 := 17) rfl ?_
      refine xr_bipush i_X9_mark_19 (q := 21) rfl ?_
      refine xr_iconst i_X9_mark_21 (q := 22) rfl ?_
      refine xr_iload_n i_X9_mark_22 rfl (q := 23) rfl ?_
      refine xr_imul i_X9_mark_23 (q := 24) rfl ?_
      refine xr_iadd i_X9_mark_24 (q := 25) rfl ?_
      refine xr_istore_n i_X9_mark_25 rfl (L2 := [some (.ref v0), some (.int v1), some (.int v2), some (.int (((Int8.ofInt 10).toInt32) + ((Int32.ofInt 4) * v1)))]) rfl (q := 26) rfl ?_
      refine xr_aload_n i_X9_mark_26 rfl (q := 27) rfl ?_
      obtain ⟨c5, h⟩ := xi_if_some h
      obtain ⟨b6, eb6, h⟩ := xi_bind_some h
      refine xr_getR i_X9_mark_27 xfe_X9_25 c5 eb6 (q := 30) rfl ?_
      refine xr_iload_n i_X9_mark_30 rfl (q := 31) rfl ?_
      obtain ⟨c7, h⟩ := xi_if_some h
      refine xr_iaload i_X9_mark_31 c7 (q := 32) rfl ?_
      refine xr_iload_n i_X9_mark_32 rfl (q := 33) rfl ?_
      obtain ⟨x9, m8, em8, h⟩ := xi_bI_some h
      refine xr_SI i_X9_mark_33 xcse_X9_173 rfl (As := [.int (m3.1 b6 (Int32.toNatClampNeg (((Int8.ofInt 10).toInt32) + ((Int32.ofInt 4) * v1)))), .int v2]) rfl (rest := []) rfl ((cc_X9_mark_173 S _ _ _).trans em8) (q := 36) rfl ?_
      by_cases c54 : x9 = 0
      · replace h := (if_pos c54).symm.trans h
        refine xr_ifCond_ne_p i_X9_mark_36 c54 (q := 45) t_X9_mark_36 (q2 := 39) rfl ?_
        refine xr_aload_n i_X9_mark_39 rfl (q := 40) rfl ?_
        refine xr_iconst i_X9_mark_40 (q := 41) rfl ?_
        obtain ⟨x53, m52, em52, h⟩ := xi_bI_some h
        refine xr_VI i_X9_mark_41 xcve_X9_71 rfl (As := [.ref v0, .int (Int32.ofInt 3)]) rfl (rest := []) rfl ((cc_X9_mark_71 S _ _ _).trans em52) (q := 44) rfl ?_
        exact xr_ireturn i_X9_mark_44 rfl h
      · replace h := (if_neg c54).symm.trans h
        refine xr_ifCond_ne_n i_X9_mark_36 c54 (q := 45) t_X9_mark_36 (q2 := 39) rfl ?_
        refine xr_iload_n i_X9_mark_45 rfl (q := 46) rfl ?_
        by_cases c10 : Int32.toInt v2 = 1
        · replace h := (if_pos c10).symm.trans h
          refine xr_table i_X9_mark_46 rfl (off := 30) (fun kk => xi_sw_hit c10) (q := 76) rfl ?_
          refine xr_aload_n i_X9_mark_76 rfl (q := 77) rfl ?_
          obtain ⟨c11, h⟩ := xi_if_some h
          obtain ⟨b12, eb12, h⟩ := xi_bind_some h
          refine xr_getR i_X9_mark_77 xfe_X9_25 c11 eb12 (q := 80) rfl ?_
          refine xr_iload_n i_X9_mark_80 rfl (q := 81) rfl ?_
          obtain ⟨x14, m13, em13, h⟩ := xi_bI_some h
          refine xr_SI i_X9_mark_81 xcse_X9_154 rfl (As := [.ref b12, .int v1]) rfl (rest := []) rfl ((cc_X9_mark_154 S _ _ _).trans em13) (q := 84) rfl ?_
          refine xr_aload_n i_X9_mark_84 rfl (q := 85) rfl ?_
          obtain ⟨c15, h⟩ := xi_if_some h
          obtain ⟨b16, eb16, h⟩ := xi_bind_some h
          refine xr_getR i_X9_mark_85 xfe_X9_25 c15 eb16 (q := 88) rfl ?_
          refine xr_iload_n i_X9_mark_88 rfl (q := 89) rfl ?_
          refine xr_iconst i_X9_mark_89 (q := 90) rfl ?_
          refine xr_iadd i_X9_mark_90 (q := 91) rfl ?_
          obtain ⟨c17, h⟩ := xi_if_some h
          refine xr_iaload i_X9_mark_91 c17 (q := 92) rfl ?_
          obtain ⟨x19, m18, em18, h⟩ := xi_bI_some h
          refine xr_SI i_X9_mark_92 xcse_X9_136 rfl (As := [.int x14, .int (m13.1 b16 (Int32.toNatClampNeg ((((Int8.ofInt 10).toInt32) + ((Int32.ofInt 4) * v1)) + (Int32.ofInt 2))))]) rfl (rest := []) rfl ((cc_X9_mark_136 S _ _ _).trans em18) (q := 95) rfl ?_
          exact xr_ireturn i_X9_mark_95 rfl h
        · replace h := (if_neg c10).symm.trans h
          by_cases c20 : Int32.toInt v2 = 2
          · replace h := (if_pos c20).symm.trans h
            refine xr_table i_X9_mark_46 rfl (off := 50) (fun kk => (xi_sw_miss c10).trans (xi_sw_hit c20)) (q := 96) rfl ?_
            refine xr_aload_n i_X9_mark_96 rfl (q := 97) rfl ?_
            refine xr_iload_n i_X9_mark_97 rfl (q := 98) rfl ?_
            obtain ⟨x22, m21, em21, h⟩ := xi_bI_some h
            refine xr_VI i_X9_mark_98 xcve_X9_177 rfl (As := [.ref v0, .int v1]) rfl (rest := []) rfl ((cc_X9_mark_177 S _ _ _).trans em21) (q := 101) rfl ?_
            exact xr_ireturn i_X9_mark_101 rfl h
          · replace h := (if_neg c20).symm.trans h
            by_cases c23 : Int32.toInt v2 = 3
            · replace h := (if_pos c23).symm.trans h
              refine xr_table i_X9_mark_46 rfl (off := 56) (fun kk => (xi_sw_miss c10).trans ((xi_sw_miss c20).trans (xi_sw_hit c23))) (q := 102) rfl ?_
              refine xr_aload_n i_X9_mark_102 rfl (q := 103) rfl ?_
              refine xr_aload_n i_X9_mark_103 rfl (q := 104) rfl ?_
              obtain ⟨c24, h⟩ := xi_if_some h
              obtain ⟨b25, eb25, h⟩ := xi_bind_some h
              refine xr_getR i_X9_mark_104 xfe_X9_25 c24 eb25 (q := 107) rfl ?_
              refine xr_iload_n i_X9_mark_107 rfl (q := 108) rfl ?_
              refine xr_iconst i_X9_mark_108 (q := 109) rfl ?_
              refine xr_iadd i_X9_mark_109 (q := 110) rfl ?_
              obtain ⟨c26, h⟩ := xi_if_some h
              refine xr_iaload i_X9_mark_110 c26 (q := 111) rfl ?_
              refine xr_iload_n i_X9_mark_111 rfl (q := 112) rfl ?_
              refine xr_iconst i_X9_mark_112 (q := 113) rfl ?_
              obtain ⟨x28, m27, em27, h⟩ := xi_bI_some h
              refine xr_VI i_X9_mark_113 xcve_X9_180 rfl (As := [.ref v0, .int (m8.1 b25 (Int32.toNatClampNeg ((((Int8.ofInt 10).toInt32) + ((Int32.ofInt 4) * v1)) + (Int32.ofInt 1)))), .int v1, .int (Int32.ofInt 0)]) rfl (rest := []) rfl ((cc_X9_mark_180 S _ _ _ _ _).trans em27) (q := 116) rfl ?_
              exact xr_ireturn i_X9_mark_116 rfl h
            · replace h := (if_neg c23).symm.trans h
              by_cases c29 : Int32.toInt v2 = 4
              · replace h := (if_pos c29).symm.trans h
                refine xr_table i_X9_mark_46 rfl (off := 71) (fun kk => (xi_sw_miss c10).trans ((xi_sw_miss c20).trans ((xi_sw_miss c23).trans (xi_sw_hit c29)))) (q := 117) rfl ?_
                refine xr_aload_n i_X9_mark_117 rfl (q := 118) rfl ?_
                obtain ⟨c30, h⟩ := xi_if_some h
                obtain ⟨b31, eb31, h⟩ := xi_bind_some h
                refine xr_getR i_X9_mark_118 xfe_X9_25 c30 eb31 (q := 121) rfl ?_
                refine xr_iload_n i_X9_mark_121 rfl (q := 122) rfl ?_
                obtain ⟨x33, m32, em32, h⟩ := xi_bI_some h
                refine xr_SI i_X9_mark_122 xcse_X9_154 rfl (As := [.ref b31, .int v1]) rfl (rest := []) rfl ((cc_X9_mark_154 S _ _ _).trans em32) (q := 125) rfl ?_
                refine xr_iconst i_X9_mark_125 (q := 126) rfl ?_
                refine xr_aload_n i_X9_mark_126 rfl (q := 127) rfl ?_
                obtain ⟨c34, h⟩ := xi_if_some h
                obtain ⟨b35, eb35, h⟩ := xi_bind_some h
                refine xr_getR i_X9_mark_127 xfe_X9_25 c34 eb35 (q := 130) rfl ?_
                refine xr_iload_n i_X9_mark_130 rfl (q := 131) rfl ?_
                refine xr_iconst i_X9_mark_131 (q := 132) rfl ?_
                refine xr_iadd i_X9_mark_132 (q := 133) rfl ?_
                obtain ⟨c36, h⟩ := xi_if_some h
                refine xr_iaload i_X9_mark_133 c36 (q := 134) rfl ?_
                refine xr_aload_n i_X9_mark_134 rfl (q := 135) rfl ?_
                obtain ⟨c37, h⟩ := xi_if_some h
                obtain ⟨b38, eb38, h⟩ := xi_bind_some h
                refine xr_getR i_X9_mark_135 xfe_X9_25 c37 eb38 (q := 138) rfl ?_
                refine xr_iload_n i_X9_mark_138 rfl (q := 139) rfl ?_
                refine xr_iconst i_X9_mark_139 (q := 140) rfl ?_
                refine xr_iadd i_X9_mark_140 (q := 141) rfl ?_
                obtain ⟨c39, h⟩ := xi_if_some h
                refine xr_iaload i_X9_mark_141 c39 (q := 142) rfl ?_
                refine xr_iconst i_X9_mark_142 (q := 143) rfl ?_
                refine xr_aload_n i_X9_mark_143 rfl (q := 144) rfl ?_
                obtain ⟨c40, h⟩ := xi_if_some h
                obtain ⟨b41, eb41, h⟩ := xi_bind_some h
                refine xr_getR i_X9_mark_144 xfe_X9_25 c40 eb41 (q := 147) rfl ?_
                refine xr_iconst i_X9_mark_147 (q := 148) rfl ?_
                obtain ⟨c42, h⟩ := xi_if_some h
                refine xr_iaload i_X9_mark_148 c42 (q := 149) rfl ?_
                refine xr_isub i_X9_mark_149 (q := 150) rfl ?_
                obtain ⟨x44, m43, em43, h⟩ := xi_bI_some h
                refine xr_SI i_X9_mark_150 xcse_X9_128 rfl (As := [.int (Int32.ofInt 4), .int (m32.1 b35 (Int32.toNatClampNeg ((((Int8.ofInt 10).toInt32) + ((Int32.ofInt 4) * v1)) + (Int32.ofInt 3)))), .int (m32.1 b38 (Int32.toNatClampNeg ((((Int8.ofInt 10).toInt32) + ((Int32.ofInt 4) * v1)) + (Int32.ofInt 2)))), .int ((Int32.ofInt 1) - (m32.1 b41 (Int32.toNatClampNeg (Int32.ofInt 3))))]) rfl (rest := [.int x33]) rfl ((cc_X9_mark_128 S _ _ _ _ _).trans em43) (q := 153) rfl ?_
                obtain ⟨x46, m45, em45, h⟩ := xi_bI_some h
                refine xr_SI i_X9_mark_153 xcse_X9_136 rfl (As := [.int x33, .int x44]) rfl (rest := []) rfl ((cc_X9_mark_136 S _ _ _).trans em45) (q := 156) rfl ?_
                exact xr_ireturn i_X9_mark_156 rfl h
              · replace h := (if_neg c29).symm.trans h
                refine xr_table i_X9_mark_46 rfl (off := 111) (fun kk => (xi_sw_miss c10).trans ((xi_sw_miss c20).trans ((xi_sw_miss c23).trans ((xi_sw_miss c29).trans (rfl))))) (q := 157) rfl ?_
                refine xr_aload_n i_X9_mark_157 rfl (q := 158) rfl ?_
                refine xr_iconst i_X9_mark_158 (q := 159) rfl ?_
                refine xr_aload_n i_X9_mark_159 rfl (q := 160) rfl ?_
                obtain ⟨c47, h⟩ := xi_if_some h
                obtain ⟨b48, eb48, h⟩ := xi_bind_some h
                refine xr_getR i_X9_mark_160 xfe_X9_25 c47 eb48 (q := 163) rfl ?_
                refine xr_iload_n i_X9_mark_163 rfl (q := 164) rfl ?_
                refine xr_iconst i_X9_mark_164 (q := 165) rfl ?_
                refine xr_iadd i_X9_mark_165 (q := 166) rfl ?_
                obtain ⟨c49, h⟩ := xi_if_some h
                refine xr_iaload i_X9_mark_166 c49 (q := 167) rfl ?_
                refine xr_isub i_X9_mark_167 (q := 168) rfl ?_
                refine xr_iload_n i_X9_mark_168 rfl (q := 169) rfl ?_
                refine xr_iconst i_X9_mark_169 (q := 170) rfl ?_
                obtain ⟨x51, m50, em50, h⟩ := xi_bI_some h
                refine xr_VI i_X9_mark_170 xcve_X9_180 rfl (As := [.ref v0, .int ((Int32.ofInt 1) - (m8.1 b48 (Int32.toNatClampNeg ((((Int8.ofInt 10).toInt32) + ((Int32.ofInt 4) * v1)) + (Int32.ofInt 1))))), .int v1, .int (Int32.ofInt 1)]) rfl (rest := []) rfl ((cc_X9_mark_180 S _ _ _ _ _).trans em50) (q := 173) rfl ?_
                exact xr_ireturn i_X9_mark_173 rfl h
set_option maxRecDepth 100000 in
theorem po_X9_mark {l : Launch} {E : xi_E} {S : xi_S} {D : va_G} {tys : List (ClassId × FieldType)} (hC : xCx E S tys) : xi_Pok l E S D vwCl tys xNs RX9 xTs cX9_mark 4 4 (P_X9_mark S) := ⟨xi_dc_ok, by rw [hC.2]; exact xfo_X9, xkio_X9, xklo_X9, xi_calls_ok (ins := .invokestatic) (List.forall_mem_cons.mpr ⟨(xc_X9_63 (sn_X9_in0 hC) (by decide)), List.forall_mem_cons.mpr ⟨(xc_X9_128 (sn_X9_landing hC) (by decide)), List.forall_mem_cons.mpr ⟨(xc_X9_136 (sn_X9_apart hC) (by decide)), List.forall_mem_cons.mpr ⟨(xc_X9_154 (sn_X9_ball hC) (by decide)), List.forall_mem_cons.mpr ⟨(xc_X9_173 (sn_X9_isOf hC) (by decide)), fun _ h => absurd h List.not_mem_nil⟩⟩⟩⟩⟩), xi_calls_ok (ins := .invokevirtual) (List.forall_mem_cons.mpr ⟨(xc_X9_71 hC.1 (sn_X9_found hC) (by decide)), List.forall_mem_cons.mpr ⟨(xc_X9_167 hC.1 (sn_X9_isPlayer hC) (by decide)), List.forall_mem_cons.mpr ⟨(xc_X9_177 hC.1 (sn_X9_reached hC) (by decide)), List.forall_mem_cons.mpr ⟨(xc_X9_180 hC.1 (sn_X9_ballsOf hC) (by decide)), fun _ h => absurd h List.not_mem_nil⟩⟩⟩⟩)⟩
theorem sn_X9_mark {l : Launch} {E : xi_E} {S : xi_S} {D : va_G} {tys : List (ClassId × FieldType)} (hC : xCx E S tys) : ∀ As m1 r m2, F_X9_mark S As m1 = some (r, m2) → xi_Sound l E S D vwCl tys xNs xTs yX9_mark cX9_mark 4 (some .int) 4 As m1 r m2 := by
  intro As m1 r m2 h
  unfold F_X9_mark at h
  split at h
  · exact xi_meth (P := P_X9_mark S) (by decide) hC.1 (po_X9_mark hC) (Nat.le_of_ble_eq_true rfl) rfl (xe_X9_mark _ _ _ _ h)
  · exact xi_no h
theorem i_X9_notes_0 : xi_dc cX9_notes 0 = some (.aload_n 0, 1) := by decide +kernel
theorem i_X9_notes_1 : xi_dc cX9_notes 1 = some (.getfield 25, 3) := by decide +kernel
theorem i_X9_notes_4 : xi_dc cX9_notes 4 = some (.iconst 0, 1) := by decide +kernel
theorem i_X9_notes_5 : xi_dc cX9_notes 5 = some (.aload_n 0, 1) := by decide +kernel
theorem i_X9_notes_6 : xi_dc cX9_notes 6 = some (.getfield 34, 3) := by decide +kernel
theorem i_X9_notes_9 : xi_dc cX9_notes 9 = some (.bipush 34, 2) := by decide +kernel
theorem i_X9_notes_11 : xi_dc cX9_notes 11 = some (.aload_n 0, 1) := by decide +kernel
theorem i_X9_notes_12 : xi_dc cX9_notes 12 = some (.getfield 125, 3) := by decide +kernel
theorem i_X9_notes_15 : xi_dc cX9_notes 15 = some (.imul, 1) := by decide +kernel
theorem i_X9_notes_16 : xi_dc cX9_notes 16 = some (.bipush 34, 2) := by decide +kernel
theorem i_X9_notes_18 : xi_dc cX9_notes 18 = some (.invokestatic 121, 3) := by decide +kernel
theorem i_X9_notes_21 : xi_dc cX9_notes 21 = some (.aload_n 0, 1) := by decide +kernel
theorem i_X9_notes_22 : xi_dc cX9_notes 22 = some (.dup, 1) := by decide +kernel
theorem i_X9_notes_23 : xi_dc cX9_notes 23 = some (.getfield 125, 3) := by decide +kernel
theorem i_X9_notes_26 : xi_dc cX9_notes 26 = some (.iconst 1, 1) := by decide +kernel
theorem i_X9_notes_27 : xi_dc cX9_notes 27 = some (.iadd, 1) := by decide +kernel
theorem i_X9_notes_28 : xi_dc cX9_notes 28 = some (.putfield 125, 3) := by decide +kernel
theorem i_X9_notes_31 : xi_dc cX9_notes 31 = some (.return_, 1) := by decide +kernel
def P_X9_notes (S : xi_S) : xi_P := (xi_dc cX9_notes, xi_tab xfl_X9, xi_tab xki_X9, xi_tab xkl_X9, xi_tab xcs_X9, xi_tab xcv_X9, xi_calls [(121, xi_wS 5 (F_X9_copies S))], xi_calls [], 0)
theorem cc_X9_notes_121 (S : xi_S) (a0 : Nat) (a1 : Int32) (a2 : Nat) (a3 : Int32) (a4 : Int32) (m : xi_M) : (P_X9_notes S).2.2.2.2.2.2.1 121 [.ref a0, .int a1, .ref a2, .int a3, .int a4] m = (E_X9_copies S a0 a1 a2 a3 a4 m) := by
  show xi_calls [(121, xi_wS 5 (F_X9_copies S))] 121 [.ref a0, .int a1, .ref a2, .int a3, .int a4] m = _
  refine Eq.trans (b := xi_wS 5 (F_X9_copies S) [.ref a0, .int a1, .ref a2, .int a3, .int a4] m) (xi_calls_hit rfl) ?_
  exact xi_wS_eq rfl
def E_X9_notes (S : xi_S) (v0 : Nat) (m : xi_M) : Option xi_R :=
  if S.1 v0 = 11 then (S.2.2 v0 5).bind fun b2 =>
    if S.1 v0 = 11 then (S.2.2 v0 8).bind fun b4 =>
      if S.1 v0 = 11 then
        xi_bV (E_X9_copies S b2 (Int32.ofInt 0) b4 (((Int8.ofInt 34).toInt32) * (m.1 v0 9)) ((Int8.ofInt 34).toInt32) m) fun m6 =>
        if S.1 v0 = 11 then
          if S.1 v0 = 11 then
            some (none, (xi_wI m6 v0 9 ((m6.1 v0 9) + (Int32.ofInt 1))))
          else none
        else none
      else none
    else none
  else none
def F_X9_notes (S : xi_S) : xi_F := fun As m => match As with
  | [.ref v0] => E_X9_notes S v0 m
  | _ => none
set_option maxRecDepth 100000 in
set_option maxHeartbeats 4000000 in
theorem xe_X9_notes {S : xi_S} {res : xi_R} (v0 : Nat) (m : xi_M) (h : E_X9_notes S v0 m = some res) : xi_X S (P_X9_notes S) (0, [some (.ref v0)], [], m) res := by
  unfold E_X9_notes at h
  refine xr_aload_n i_X9_notes_0 rfl (q := 1) rfl ?_
  obtain ⟨c1, h⟩ := xi_if_some h
  obtain ⟨b2, eb2, h⟩ := xi_bind_some h
  refine xr_getR i_X9_notes_1 xfe_X9_25 c1 eb2 (q := 4) rfl ?_
  refine xr_iconst i_X9_notes_4 (q := 5) rfl ?_
  refine xr_aload_n i_X9_notes_5 rfl (q := 6) rfl ?_
  obtain ⟨c3, h⟩ := xi_if_some h
  obtain ⟨b4, eb4, h⟩ := xi_bind_some h
  refine xr_getR i_X9_notes_6 xfe_X9_34 c3 eb4 (q := 9) rfl ?_
  refine xr_bipush i_X9_notes_9 (q := 11) rfl ?_
  refine xr_aload_n i_X9_notes_11 rfl (q := 12) rfl ?_
  obtain ⟨c5, h⟩ := xi_if_some h
  refine xr_getI i_X9_notes_12 xfe_X9_125 c5 (q := 15) rfl ?_
  refine xr_imul i_X9_notes_15 (q := 16) rfl ?_
  refine xr_bipush i_X9_notes_16 (q := 18) rfl ?_
  obtain ⟨m6, em6, h⟩ := xi_bV_some h
  refine xr_SV i_X9_notes_18 xcse_X9_121 rfl (As := [.ref b2, .int (Int32.ofInt 0), .ref b4, .int (((Int8.ofInt 34).toInt32) * (m.1 v0 9)), .int ((Int8.ofInt 34).toInt32)]) rfl (rest := []) rfl ((cc_X9_notes_121 S _ _ _ _ _ _).trans em6) (q := 21) rfl ?_
  refine xr_aload_n i_X9_notes_21 rfl (q := 22) rfl ?_
  refine xr_dup_r i_X9_notes_22 (q := 23) rfl ?_
  obtain ⟨c7, h⟩ := xi_if_some h
  refine xr_getI i_X9_notes_23 xfe_X9_125 c7 (q := 26) rfl ?_
  refine xr_iconst i_X9_notes_26 (q := 27) rfl ?_
  refine xr_iadd i_X9_notes_27 (q := 28) rfl ?_
  obtain ⟨c8, h⟩ := xi_if_some h
  refine xr_putI i_X9_notes_28 xfe_X9_125 c8 (q := 31) rfl ?_
  exact xr_return i_X9_notes_31 rfl h
set_option maxRecDepth 100000 in
theorem po_X9_notes {l : Launch} {E : xi_E} {S : xi_S} {D : va_G} {tys : List (ClassId × FieldType)} (hC : xCx E S tys) : xi_Pok l E S D vwCl tys xNs RX9 xTs cX9_notes 1 1 (P_X9_notes S) := ⟨xi_dc_ok, by rw [hC.2]; exact xfo_X9, xkio_X9, xklo_X9, xi_calls_ok (ins := .invokestatic) (List.forall_mem_cons.mpr ⟨(xc_X9_121 (sn_X9_copies hC) (by decide)), fun _ h => absurd h List.not_mem_nil⟩), xi_calls_ok (ins := .invokevirtual) (fun _ h => absurd h List.not_mem_nil)⟩
theorem sn_X9_notes {l : Launch} {E : xi_E} {S : xi_S} {D : va_G} {tys : List (ClassId × FieldType)} (hC : xCx E S tys) : ∀ As m1 r m2, F_X9_notes S As m1 = some (r, m2) → xi_Sound l E S D vwCl tys xNs xTs yX9_notes cX9_notes 1 none 1 As m1 r m2 := by
  intro As m1 r m2 h
  unfold F_X9_notes at h
  split at h
  · exact xi_meth (P := P_X9_notes S) (by decide) hC.1 (po_X9_notes hC) (Nat.le_of_ble_eq_true rfl) rfl (xe_X9_notes _ _ h)
  · exact xi_no h
theorem i_X9_term_0 : xi_dc cX9_term 0 = some (.aload_n 0, 1) := by decide +kernel
theorem i_X9_term_1 : xi_dc cX9_term 1 = some (.invokevirtual 183, 3) := by decide +kernel
theorem i_X9_term_4 : xi_dc cX9_term 4 = some (.ifCond .ne 6, 3) := by decide +kernel
theorem t_X9_term_4 : ((4 : Nat) : Int) + 6 = ((10 : Nat) : Int) := by decide +kernel
theorem i_X9_term_7 : xi_dc cX9_term 7 = some (.bipush (-4), 2) := by decide +kernel
theorem i_X9_term_9 : xi_dc cX9_term 9 = some (.ireturn, 1) := by decide +kernel
theorem i_X9_term_10 : xi_dc cX9_term 10 = some (.aload_n 0, 1) := by decide +kernel
theorem i_X9_term_11 : xi_dc cX9_term 11 = some (.getfield 125, 3) := by decide +kernel
theorem i_X9_term_14 : xi_dc cX9_term 14 = some (.bipush 40, 2) := by decide +kernel
theorem i_X9_term_16 : xi_dc cX9_term 16 = some (.if_icmp .ne 6, 3) := by decide +kernel
theorem t_X9_term_16 : ((16 : Nat) : Int) + 6 = ((22 : Nat) : Int) := by decide +kernel
theorem i_X9_term_19 : xi_dc cX9_term 19 = some (.bipush (-2), 2) := by decide +kernel
theorem i_X9_term_21 : xi_dc cX9_term 21 = some (.ireturn, 1) := by decide +kernel
theorem i_X9_term_22 : xi_dc cX9_term 22 = some (.aload_n 0, 1) := by decide +kernel
theorem i_X9_term_23 : xi_dc cX9_term 23 = some (.invokevirtual 187, 3) := by decide +kernel
theorem i_X9_term_26 : xi_dc cX9_term 26 = some (.aload_n 0, 1) := by decide +kernel
theorem i_X9_term_27 : xi_dc cX9_term 27 = some (.getfield 25, 3) := by decide +kernel
theorem i_X9_term_30 : xi_dc cX9_term 30 = some (.invokestatic 190, 3) := by decide +kernel
theorem i_X9_term_33 : xi_dc cX9_term 33 = some (.ireturn, 1) := by decide +kernel
def P_X9_term (S : xi_S) : xi_P := (xi_dc cX9_term, xi_tab xfl_X9, xi_tab xki_X9, xi_tab xkl_X9, xi_tab xcs_X9, xi_tab xcv_X9, xi_calls [(190, xi_wS 1 (F_X9_plays S))], xi_calls [(183, xi_wV S 11 0 (F_X9_isAny S)), (187, xi_wV S 11 0 (F_X9_notes S))], 1)
theorem cc_X9_term_190 (S : xi_S) (a0 : Nat) (m : xi_M) : (P_X9_term S).2.2.2.2.2.2.1 190 [.ref a0] m = (E_X9_plays S a0 m) := by
  show xi_calls [(190, xi_wS 1 (F_X9_plays S))] 190 [.ref a0] m = _
  refine Eq.trans (b := xi_wS 1 (F_X9_plays S) [.ref a0] m) (xi_calls_hit rfl) ?_
  exact xi_wS_eq rfl
theorem cc_X9_term_183 (S : xi_S) (a0 : Nat) (m : xi_M) : (P_X9_term S).2.2.2.2.2.2.2.1 183 [.ref a0] m = (if S.1 a0 = 11 then E_X9_isAny S a0 m else none) := by
  show xi_calls [(183, xi_wV S 11 0 (F_X9_isAny S)), (187, xi_wV S 11 0 (F_X9_notes S))] 183 [.ref a0] m = _
  refine Eq.trans (b := xi_wV S 11 0 (F_X9_isAny S) [.ref a0] m) (xi_calls_hit rfl) ?_
  exact xi_wV_eq rfl
theorem cc_X9_term_187 (S : xi_S) (a0 : Nat) (m : xi_M) : (P_X9_term S).2.2.2.2.2.2.2.1 187 [.ref a0] m = (if S.1 a0 = 11 then E_X9_notes S a0 m else none) := by
  show xi_calls [(183, xi_wV S 11 0 (F_X9_isAny S)), (187, xi_wV S 11 0 (F_X9_notes S))] 187 [.ref a0] m = _
  refine Eq.trans (b := xi_calls [(187, xi_wV S 11 0 (F_X9_notes S))] 187 [.ref a0] m) (xi_calls_miss rfl) ?_
  refine Eq.trans (b := xi_wV S 11 0 (F_X9_notes S) [.ref a0] m) (xi_calls_hit rfl) ?_
  exact xi_wV_eq rfl
def E_X9_term (S : xi_S) (v0 : Nat) (m : xi_M) : Option xi_R :=
  xi_bI (if S.1 v0 = 11 then E_X9_isAny S v0 m else none) fun x2 m1 =>
  if x2 = 0 then
    some (some (.int ((Int8.ofInt (-4)).toInt32)), m1)
  else
    if S.1 v0 = 11 then
      if (m1.1 v0 9) = ((Int8.ofInt 40).toInt32) then
        some (some (.int ((Int8.ofInt (-2)).toInt32)), m1)
      else
        xi_bV (if S.1 v0 = 11 then E_X9_notes S v0 m1 else none) fun m4 =>
        if S.1 v0 = 11 then (S.2.2 v0 5).bind fun b6 =>
          xi_bI (E_X9_plays S b6 m4) fun x8 m7 =>
          some (some (.int x8), m7)
        else none
    else none
def F_X9_term (S : xi_S) : xi_F := fun As m => match As with
  | [.ref v0] => E_X9_term S v0 m
  | _ => none
set_option maxRecDepth 100000 in
set_option maxHeartbeats 4000000 in
theorem xe_X9_term {S : xi_S} {res : xi_R} (v0 : Nat) (m : xi_M) (h : E_X9_term S v0 m = some res) : xi_X S (P_X9_term S) (0, [some (.ref v0)], [], m) res := by
  unfold E_X9_term at h
  refine xr_aload_n i_X9_term_0 rfl (q := 1) rfl ?_
  obtain ⟨x2, m1, em1, h⟩ := xi_bI_some h
  refine xr_VI i_X9_term_1 xcve_X9_183 rfl (As := [.ref v0]) rfl (rest := []) rfl ((cc_X9_term_183 S _ _).trans em1) (q := 4) rfl ?_
  by_cases c10 : x2 = 0
  · replace h := (if_pos c10).symm.trans h
    refine xr_ifCond_ne_p i_X9_term_4 c10 (q := 10) t_X9_term_4 (q2 := 7) rfl ?_
    refine xr_bipush i_X9_term_7 (q := 9) rfl ?_
    exact xr_ireturn i_X9_term_9 rfl h
  · replace h := (if_neg c10).symm.trans h
    refine xr_ifCond_ne_n i_X9_term_4 c10 (q := 10) t_X9_term_4 (q2 := 7) rfl ?_
    refine xr_aload_n i_X9_term_10 rfl (q := 11) rfl ?_
    obtain ⟨c3, h⟩ := xi_if_some h
    refine xr_getI i_X9_term_11 xfe_X9_125 c3 (q := 14) rfl ?_
    refine xr_bipush i_X9_term_14 (q := 16) rfl ?_
    by_cases c9 : (m1.1 v0 9) = ((Int8.ofInt 40).toInt32)
    · replace h := (if_pos c9).symm.trans h
      refine xr_if_icmp_ne_p i_X9_term_16 c9 (q := 22) t_X9_term_16 (q2 := 19) rfl ?_
      refine xr_bipush i_X9_term_19 (q := 21) rfl ?_
      exact xr_ireturn i_X9_term_21 rfl h
    · replace h := (if_neg c9).symm.trans h
      refine xr_if_icmp_ne_n i_X9_term_16 c9 (q := 22) t_X9_term_16 (q2 := 19) rfl ?_
      refine xr_aload_n i_X9_term_22 rfl (q := 23) rfl ?_
      obtain ⟨m4, em4, h⟩ := xi_bV_some h
      refine xr_VV i_X9_term_23 xcve_X9_187 rfl (As := [.ref v0]) rfl (rest := []) rfl ((cc_X9_term_187 S _ _).trans em4) (q := 26) rfl ?_
      refine xr_aload_n i_X9_term_26 rfl (q := 27) rfl ?_
      obtain ⟨c5, h⟩ := xi_if_some h
      obtain ⟨b6, eb6, h⟩ := xi_bind_some h
      refine xr_getR i_X9_term_27 xfe_X9_25 c5 eb6 (q := 30) rfl ?_
      obtain ⟨x8, m7, em7, h⟩ := xi_bI_some h
      refine xr_SI i_X9_term_30 xcse_X9_190 rfl (As := [.ref b6]) rfl (rest := []) rfl ((cc_X9_term_190 S _ _).trans em7) (q := 33) rfl ?_
      exact xr_ireturn i_X9_term_33 rfl h
set_option maxRecDepth 100000 in
theorem po_X9_term {l : Launch} {E : xi_E} {S : xi_S} {D : va_G} {tys : List (ClassId × FieldType)} (hC : xCx E S tys) : xi_Pok l E S D vwCl tys xNs RX9 xTs cX9_term 1 8 (P_X9_term S) := ⟨xi_dc_ok, by rw [hC.2]; exact xfo_X9, xkio_X9, xklo_X9, xi_calls_ok (ins := .invokestatic) (List.forall_mem_cons.mpr ⟨(xc_X9_190 (sn_X9_plays hC) (by decide)), fun _ h => absurd h List.not_mem_nil⟩), xi_calls_ok (ins := .invokevirtual) (List.forall_mem_cons.mpr ⟨(xc_X9_183 hC.1 (sn_X9_isAny hC) (by decide)), List.forall_mem_cons.mpr ⟨(xc_X9_187 hC.1 (sn_X9_notes hC) (by decide)), fun _ h => absurd h List.not_mem_nil⟩⟩)⟩
theorem sn_X9_term {l : Launch} {E : xi_E} {S : xi_S} {D : va_G} {tys : List (ClassId × FieldType)} (hC : xCx E S tys) : ∀ As m1 r m2, F_X9_term S As m1 = some (r, m2) → xi_Sound l E S D vwCl tys xNs xTs yX9_term cX9_term 1 (some .int) 8 As m1 r m2 := by
  intro As m1 r m2 h
  unfold F_X9_term at h
  split at h
  · exact xi_meth (P := P_X9_term S) (by decide) hC.1 (po_X9_term hC) (Nat.le_of_ble_eq_true rfl) rfl (xe_X9_term _ _ h)
  · exact xi_no h
theorem i_X9_nudge_0 : xi_dc cX9_nudge 0 = some (.iload_n 1, 1) := by decide +kernel
theorem i_X9_nudge_1 : xi_dc cX9_nudge 1 = some (.iconst 0, 1) := by decide +kernel
theorem i_X9_nudge_2 : xi_dc cX9_nudge 2 = some (.iconst 3, 1) := by decide +kernel
theorem i_X9_nudge_3 : xi_dc cX9_nudge 3 = some (.invokestatic 63, 3) := by decide +kernel
theorem i_X9_nudge_6 : xi_dc cX9_nudge 6 = some (.ifCond .eq 17, 3) := by decide +kernel
theorem t_X9_nudge_6 : ((6 : Nat) : Int) + 17 = ((23 : Nat) : Int) := by decide +kernel
theorem i_X9_nudge_9 : xi_dc cX9_nudge 9 = some (.iload_n 2, 1) := by decide +kernel
theorem i_X9_nudge_10 : xi_dc cX9_nudge 10 = some (.ifCond .eq 13, 3) := by decide +kernel
theorem t_X9_nudge_10 : ((10 : Nat) : Int) + 13 = ((23 : Nat) : Int) := by decide +kernel
theorem i_X9_nudge_13 : xi_dc cX9_nudge 13 = some (.iload_n 2, 1) := by decide +kernel
theorem i_X9_nudge_14 : xi_dc cX9_nudge 14 = some (.bipush (-3), 2) := by decide +kernel
theorem i_X9_nudge_16 : xi_dc cX9_nudge 16 = some (.iconst 3, 1) := by decide +kernel
theorem i_X9_nudge_17 : xi_dc cX9_nudge 17 = some (.invokestatic 63, 3) := by decide +kernel
theorem i_X9_nudge_20 : xi_dc cX9_nudge 20 = some (.ifCond .ne 5, 3) := by decide +kernel
theorem t_X9_nudge_20 : ((20 : Nat) : Int) + 5 = ((25 : Nat) : Int) := by decide +kernel
theorem i_X9_nudge_23 : xi_dc cX9_nudge 23 = some (.iconst (-1), 1) := by decide +kernel
theorem i_X9_nudge_24 : xi_dc cX9_nudge 24 = some (.ireturn, 1) := by decide +kernel
theorem i_X9_nudge_25 : xi_dc cX9_nudge 25 = some (.aload_n 0, 1) := by decide +kernel
theorem i_X9_nudge_26 : xi_dc cX9_nudge 26 = some (.invokevirtual 183, 3) := by decide +kernel
theorem i_X9_nudge_29 : xi_dc cX9_nudge 29 = some (.ifCond .eq 15, 3) := by decide +kernel
theorem t_X9_nudge_29 : ((29 : Nat) : Int) + 15 = ((44 : Nat) : Int) := by decide +kernel
theorem i_X9_nudge_32 : xi_dc cX9_nudge 32 = some (.aload_n 0, 1) := by decide +kernel
theorem i_X9_nudge_33 : xi_dc cX9_nudge 33 = some (.getfield 25, 3) := by decide +kernel
theorem i_X9_nudge_36 : xi_dc cX9_nudge 36 = some (.iload_n 1, 1) := by decide +kernel
theorem i_X9_nudge_37 : xi_dc cX9_nudge 37 = some (.iload_n 2, 1) := by decide +kernel
theorem i_X9_nudge_38 : xi_dc cX9_nudge 38 = some (.invokestatic 193, 3) := by decide +kernel
theorem i_X9_nudge_41 : xi_dc cX9_nudge 41 = some (.ifCond .ne 6, 3) := by decide +kernel
theorem t_X9_nudge_41 : ((41 : Nat) : Int) + 6 = ((47 : Nat) : Int) := by decide +kernel
theorem i_X9_nudge_44 : xi_dc cX9_nudge 44 = some (.bipush (-4), 2) := by decide +kernel
theorem i_X9_nudge_46 : xi_dc cX9_nudge 46 = some (.ireturn, 1) := by decide +kernel
theorem i_X9_nudge_47 : xi_dc cX9_nudge 47 = some (.aload_n 0, 1) := by decide +kernel
theorem i_X9_nudge_48 : xi_dc cX9_nudge 48 = some (.getfield 125, 3) := by decide +kernel
theorem i_X9_nudge_51 : xi_dc cX9_nudge 51 = some (.bipush 40, 2) := by decide +kernel
theorem i_X9_nudge_53 : xi_dc cX9_nudge 53 = some (.if_icmp .ne 6, 3) := by decide +kernel
theorem t_X9_nudge_53 : ((53 : Nat) : Int) + 6 = ((59 : Nat) : Int) := by decide +kernel
theorem i_X9_nudge_56 : xi_dc cX9_nudge 56 = some (.bipush (-2), 2) := by decide +kernel
theorem i_X9_nudge_58 : xi_dc cX9_nudge 58 = some (.ireturn, 1) := by decide +kernel
theorem i_X9_nudge_59 : xi_dc cX9_nudge 59 = some (.aload_n 0, 1) := by decide +kernel
theorem i_X9_nudge_60 : xi_dc cX9_nudge 60 = some (.invokevirtual 187, 3) := by decide +kernel
theorem i_X9_nudge_63 : xi_dc cX9_nudge 63 = some (.aload_n 0, 1) := by decide +kernel
theorem i_X9_nudge_64 : xi_dc cX9_nudge 64 = some (.getfield 25, 3) := by decide +kernel
theorem i_X9_nudge_67 : xi_dc cX9_nudge 67 = some (.iload_n 1, 1) := by decide +kernel
theorem i_X9_nudge_68 : xi_dc cX9_nudge 68 = some (.invokestatic 196, 3) := by decide +kernel
theorem i_X9_nudge_71 : xi_dc cX9_nudge 71 = some (.istore_n 3, 1) := by decide +kernel
theorem i_X9_nudge_72 : xi_dc cX9_nudge 72 = some (.aload_n 0, 1) := by decide +kernel
theorem i_X9_nudge_73 : xi_dc cX9_nudge 73 = some (.getfield 25, 3) := by decide +kernel
theorem i_X9_nudge_76 : xi_dc cX9_nudge 76 = some (.bipush 6, 2) := by decide +kernel
theorem i_X9_nudge_78 : xi_dc cX9_nudge 78 = some (.iload_n 1, 1) := by decide +kernel
theorem i_X9_nudge_79 : xi_dc cX9_nudge 79 = some (.iadd, 1) := by decide +kernel
theorem i_X9_nudge_80 : xi_dc cX9_nudge 80 = some (.dup2, 1) := by decide +kernel
theorem i_X9_nudge_81 : xi_dc cX9_nudge 81 = some (.iaload, 1) := by decide +kernel
theorem i_X9_nudge_82 : xi_dc cX9_nudge 82 = some (.iload_n 2, 1) := by decide +kernel
theorem i_X9_nudge_83 : xi_dc cX9_nudge 83 = some (.iadd, 1) := by decide +kernel
theorem i_X9_nudge_84 : xi_dc cX9_nudge 84 = some (.iastore, 1) := by decide +kernel
theorem i_X9_nudge_85 : xi_dc cX9_nudge 85 = some (.iload_n 3, 1) := by decide +kernel
theorem i_X9_nudge_86 : xi_dc cX9_nudge 86 = some (.ireturn, 1) := by decide +kernel
def P_X9_nudge (S : xi_S) : xi_P := (xi_dc cX9_nudge, xi_tab xfl_X9, xi_tab xki_X9, xi_tab xkl_X9, xi_tab xcs_X9, xi_tab xcv_X9, xi_calls [(63, xi_wS 3 (F_X9_in0 S)), (193, xi_wS 3 (F_X9_mayMove S)), (196, xi_wS 2 (F_X9_seenBy S))], xi_calls [(183, xi_wV S 11 0 (F_X9_isAny S)), (187, xi_wV S 11 0 (F_X9_notes S))], 1)
theorem cc_X9_nudge_63 (S : xi_S) (a0 : Int32) (a1 : Int32) (a2 : Int32) (m : xi_M) : (P_X9_nudge S).2.2.2.2.2.2.1 63 [.int a0, .int a1, .int a2] m = (E_X9_in0 S a0 a1 a2 m) := by
  show xi_calls [(63, xi_wS 3 (F_X9_in0 S)), (193, xi_wS 3 (F_X9_mayMove S)), (196, xi_wS 2 (F_X9_seenBy S))] 63 [.int a0, .int a1, .int a2] m = _
  refine Eq.trans (b := xi_wS 3 (F_X9_in0 S) [.int a0, .int a1, .int a2] m) (xi_calls_hit rfl) ?_
  exact xi_wS_eq rfl
theorem cc_X9_nudge_193 (S : xi_S) (a0 : Nat) (a1 : Int32) (a2 : Int32) (m : xi_M) : (P_X9_nudge S).2.2.2.2.2.2.1 193 [.ref a0, .int a1, .int a2] m = (E_X9_mayMove S a0 a1 a2 m) := by
  show xi_calls [(63, xi_wS 3 (F_X9_in0 S)), (193, xi_wS 3 (F_X9_mayMove S)), (196, xi_wS 2 (F_X9_seenBy S))] 193 [.ref a0, .int a1, .int a2] m = _
  refine Eq.trans (b := xi_calls [(193, xi_wS 3 (F_X9_mayMove S)), (196, xi_wS 2 (F_X9_seenBy S))] 193 [.ref a0, .int a1, .int a2] m) (xi_calls_miss rfl) ?_
  refine Eq.trans (b := xi_wS 3 (F_X9_mayMove S) [.ref a0, .int a1, .int a2] m) (xi_calls_hit rfl) ?_
  exact xi_wS_eq rfl
theorem cc_X9_nudge_196 (S : xi_S) (a0 : Nat) (a1 : Int32) (m : xi_M) : (P_X9_nudge S).2.2.2.2.2.2.1 196 [.ref a0, .int a1] m = (E_X9_seenBy S a0 a1 m) := by
  show xi_calls [(63, xi_wS 3 (F_X9_in0 S)), (193, xi_wS 3 (F_X9_mayMove S)), (196, xi_wS 2 (F_X9_seenBy S))] 196 [.ref a0, .int a1] m = _
  refine Eq.trans (b := xi_calls [(193, xi_wS 3 (F_X9_mayMove S)), (196, xi_wS 2 (F_X9_seenBy S))] 196 [.ref a0, .int a1] m) (xi_calls_miss rfl) ?_
  refine Eq.trans (b := xi_calls [(196, xi_wS 2 (F_X9_seenBy S))] 196 [.ref a0, .int a1] m) (xi_calls_miss rfl) ?_
  refine Eq.trans (b := xi_wS 2 (F_X9_seenBy S) [.ref a0, .int a1] m) (xi_calls_hit rfl) ?_
  exact xi_wS_eq rfl
theorem cc_X9_nudge_183 (S : xi_S) (a0 : Nat) (m : xi_M) : (P_X9_nudge S).2.2.2.2.2.2.2.1 183 [.ref a0] m = (if S.1 a0 = 11 then E_X9_isAny S a0 m else none) := by
  show xi_calls [(183, xi_wV S 11 0 (F_X9_isAny S)), (187, xi_wV S 11 0 (F_X9_notes S))] 183 [.ref a0] m = _
  refine Eq.trans (b := xi_wV S 11 0 (F_X9_isAny S) [.ref a0] m) (xi_calls_hit rfl) ?_
  exact xi_wV_eq rfl
theorem cc_X9_nudge_187 (S : xi_S) (a0 : Nat) (m : xi_M) : (P_X9_nudge S).2.2.2.2.2.2.2.1 187 [.ref a0] m = (if S.1 a0 = 11 then E_X9_notes S a0 m else none) := by
  show xi_calls [(183, xi_wV S 11 0 (F_X9_isAny S)), (187, xi_wV S 11 0 (F_X9_notes S))] 187 [.ref a0] m = _
  refine Eq.trans (b := xi_calls [(187, xi_wV S 11 0 (F_X9_notes S))] 187 [.ref a0] m) (xi_calls_miss rfl) ?_
  refine Eq.trans (b := xi_wV S 11 0 (F_X9_notes S) [.ref a0] m) (xi_calls_hit rfl) ?_
  exact xi_wV_eq rfl
def E_X9_nudge (S : xi_S) (v0 : Nat) (v1 : Int32) (v2 : Int32) (m : xi_M) : Option xi_R :=
  xi_bI (E_X9_in0 S v1 (Int32.ofInt 0) (Int32.ofInt 3) m) fun x2 m1 =>
  if x2 = 0 then
    some (some (.int (Int32.ofInt (-1))), m1)
  else
    if v2 = 0 then
      some (some (.int (Int32.ofInt (-1))), m1)
    else
      xi_bI (E_X9_in0 S v2 ((Int8.ofInt (-3)).toInt32) (Int32.ofInt 3) m1) fun x4 m3 =>
      if x4 = 0 then
        some (some (.int (Int32.ofInt (-1))), m3)
      else
        xi_bI (if S.1 v0 = 11 then E_X9_isAny S v0 m3 else none) fun x6 m5 =>
        if x6 = 0 then
          some (some (.int ((Int8.ofInt (-4)).toInt32)), m5)
        else
          if S.1 v0 = 11 then (S.2.2 v0 5).bind fun b8 =>
            xi_bI (E_X9_mayMove S b8 v1 v2 m5) fun x10 m9 =>
            if x10 = 0 then
              some (some (.int ((Int8.ofInt (-4)).toInt32)), m9)
            else
              if S.1 v0 = 11 then
                if (m9.1 v0 9) = ((Int8.ofInt 40).toInt32) then
                  some (some (.int ((Int8.ofInt (-2)).toInt32)), m9)
                else
                  xi_bV (if S.1 v0 = 11 then E_X9_notes S v0 m9 else none) fun m12 =>
                  if S.1 v0 = 11 then (S.2.2 v0 5).bind fun b14 =>
                    xi_bI (E_X9_seenBy S b14 v1 m12) fun x16 m15 =>
                    if S.1 v0 = 11 then (S.2.2 v0 5).bind fun b18 =>
                      if S.1 b18 = 0 ∧ ¬ ((((Int8.ofInt 6).toInt32) + v1) < 0 ∨ S.2.1 b18 ≤ Int32.toNatClampNeg (((Int8.ofInt 6).toInt32) + v1)) then
                        if S.1 b18 = 0 ∧ ¬ ((((Int8.ofInt 6).toInt32) + v1) < 0 ∨ S.2.1 b18 ≤ Int32.toNatClampNeg (((Int8.ofInt 6).toInt32) + v1)) then
                          some (some (.int x16), (xi_wI m15 b18 (Int32.toNatClampNeg (((Int8.ofInt 6).toInt32) + v1)) ((m15.1 b18 (Int32.toNatClampNeg (((Int8.ofInt 6).toInt32) + v1))) + v2)))
                        else none
                      else none
                    else none
                  else none
              else none
          else none
def F_X9_nudge (S : xi_S) : xi_F := fun As m => match As with
  | [.ref v0, .int v1, .int v2] => E_X9_nudge S v0 v1 v2 m
  | _ => none
set_option maxRecDepth 100000 in
set_option maxHeartbeats 4000000 in
theorem xe_X9_nudge {S : xi_S} {res : xi_R} (v0 : Nat) (v1 : Int32) (v2 : Int32) (m : xi_M) (h : E_X9_nudge S v0 v1 v2 m = some res) : xi_X S (P_X9_nudge S) (0, [some (.ref v0), some (.int v1), some (.int v2), none], [], m) res := by
  unfold E_X9_nudge at h
  refine xr_iload_n i_X9_nudge_0 rfl (q := 1) rfl ?_
  refine xr_iconst i_X9_nudge_1 (q := 2) rfl ?_
  refine xr_iconst i_X9_nudge_2 (q := 3) rfl ?_
  obtain ⟨x2, m1, em1, h⟩ := xi_bI_some h
  refine xr_SI i_X9_nudge_3 xcse_X9_63 rfl (As := [.int v1, .int (Int32.ofInt 0), .int (Int32.ofInt 3)]) rfl (rest := []) rfl ((cc_X9_nudge_63 S _ _ _ _).trans em1) (q := 6) rfl ?_
  by_cases c26 : x2 = 0
  · replace h := (if_pos c26).symm.trans h
    refine xr_ifCond_eq_p i_X9_nudge_6 c26 (q := 23) t_X9_nudge_6 (q2 := 9) rfl ?_
    refine xr_iconst i_X9_nudge_23 (q := 24) rfl ?_
    exact xr_ireturn i_X9_nudge_24 rfl h
  · replace h := (if_neg c26).symm.trans h
    refine xr_ifCond_eq_n i_X9_nudge_6 c26 (q := 23) t_X9_nudge_6 (q2 := 9) rfl ?_
    refine xr_iload_n i_X9_nudge_9 rfl (q := 10) rfl ?_
    by_cases c25 : v2 = 0
    · replace h := (if_pos c25).symm.trans h
      refine xr_ifCond_eq_p i_X9_nudge_10 c25 (q := 23) t_X9_nudge_10 (q2 := 13) rfl ?_
      refine xr_iconst i_X9_nudge_23 (q := 24) rfl ?_
      exact xr_ireturn i_X9_nudge_24 rfl h
    · replace h := (if_neg c25).symm.trans h
      refine xr_ifCond_eq_n i_X9_nudge_10 c25 (q := 23) t_X9_nudge_10 (q2 := 13) rfl ?_
      refine xr_iload_n i_X9_nudge_13 rfl (q := 14) rfl ?_
      refine xr_bipush i_X9_nudge_14 (q := 16) rfl ?_
      refine xr_iconst i_X9_nudge_16 (q := 17) rfl ?_
      obtain ⟨x4, m3, em3, h⟩ := xi_bI_some h
      refine xr_SI i_X9_nudge_17 xcse_X9_63 rfl (As := [.int v2, .int ((Int8.ofInt (-3)).toInt32), .int (Int32.ofInt 3)]) rfl (rest := []) rfl ((cc_X9_nudge_63 S _ _ _ _).trans em3) (q := 20) rfl ?_
      by_cases c24 : x4 = 0
      · replace h := (if_pos c24).symm.trans h
        refine xr_ifCond_ne_p i_X9_nudge_20 c24 (q := 25) t_X9_nudge_20 (q2 := 23) rfl ?_
        refine xr_iconst i_X9_nudge_23 (q := 24) rfl ?_
        exact xr_ireturn i_X9_nudge_24 rfl h
      · replace h := (if_neg c24).symm.trans h
        refine xr_ifCond_ne_n i_X9_nudge_20 c24 (q := 25) t_X9_nudge_20 (q2 := 23) rfl ?_
        refine xr_aload_n i_X9_nudge_25 rfl (q := 26) rfl ?_
        obtain ⟨x6, m5, em5, h⟩ := xi_bI_some h
        refine xr_VI i_X9_nudge_26 xcve_X9_183 rfl (As := [.ref v0]) rfl (rest := []) rfl ((cc_X9_nudge_183 S _ _).trans em5) (q := 29) rfl ?_
        by_cases c23 : x6 = 0
        · replace h := (if_pos c23).symm.trans h
          refine xr_ifCond_eq_p i_X9_nudge_29 c23 (q := 44) t_X9_nudge_29 (q2 := 32) rfl ?_
          refine xr_bipush i_X9_nudge_44 (q := 46) rfl ?_
          exact xr_ireturn i_X9_nudge_46 rfl h
        · replace h := (if_neg c23).symm.trans h
          refine xr_ifCond_eq_n i_X9_nudge_29 c23 (q := 44) t_X9_nudge_29 (q2 := 32) rfl ?_
          refine xr_aload_n i_X9_nudge_32 rfl (q := 33) rfl ?_
          obtain ⟨c7, h⟩ := xi_if_some h
          obtain ⟨b8, eb8, h⟩ := xi_bind_some h
          refine xr_getR i_X9_nudge_33 xfe_X9_25 c7 eb8 (q := 36) rfl ?_
          refine xr_iload_n i_X9_nudge_36 rfl (q := 37) rfl ?_
          refine xr_iload_n i_X9_nudge_37 rfl (q := 38) rfl ?_
          obtain ⟨x10, m9, em9, h⟩ := xi_bI_some h
          refine xr_SI i_X9_nudge_38 xcse_X9_193 rfl (As := [.ref b8, .int v1, .int v2]) rfl (rest := []) rfl ((cc_X9_nudge_193 S _ _ _ _).trans em9) (q := 41) rfl ?_
          by_cases c22 : x10 = 0
          · replace h := (if_pos c22).symm.trans h
            refine xr_ifCond_ne_p i_X9_nudge_41 c22 (q := 47) t_X9_nudge_41 (q2 := 44) rfl ?_
            refine xr_bipush i_X9_nudge_44 (q := 46) rfl ?_
            exact xr_ireturn i_X9_nudge_46 rfl h
          · replace h := (if_neg c22).symm.trans h
            refine xr_ifCond_ne_n i_X9_nudge_41 c22 (q := 47) t_X9_nudge_41 (q2 := 44) rfl ?_
            refine xr_aload_n i_X9_nudge_47 rfl (q := 48) rfl ?_
            obtain ⟨c11, h⟩ := xi_if_some h
            refine xr_getI i_X9_nudge_48 xfe_X9_125 c11 (q := 51) rfl ?_
            refine xr_bipush i_X9_nudge_51 (q := 53) rfl ?_
            by_cases c21 : (m9.1 v0 9) = ((Int8.ofInt 40).toInt32)
            · replace h := (if_pos c21).symm.trans h
              refine xr_if_icmp_ne_p i_X9_nudge_53 c21 (q := 59) t_X9_nudge_53 (q2 := 56) rfl ?_
              refine xr_bipush i_X9_nudge_56 (q := 58) rfl ?_
              exact xr_ireturn i_X9_nudge_58 rfl h
            · replace h := (if_neg c21).symm.trans h
              refine xr_if_icmp_ne_n i_X9_nudge_53 c21 (q := 59) t_X9_nudge_53 (q2 := 56) rfl ?_
              refine xr_aload_n i_X9_nudge_59 rfl (q := 60) rfl ?_
              obtain ⟨m12, em12, h⟩ := xi_bV_some h
              refine xr_VV i_X9_nudge_60 xcve_X9_187 rfl (As := [.ref v0]) rfl (rest := []) rfl ((cc_X9_nudge_187 S _ _).trans em12) (q := 63) rfl ?_
              refine xr_aload_n i_X9_nudge_63 rfl (q := 64) rfl ?_
              obtain ⟨c13, h⟩ := xi_if_some h
              obtain ⟨b14, eb14, h⟩ := xi_bind_some h
              refine xr_getR i_X9_nudge_64 xfe_X9_25 c13 eb14 (q := 67) rfl ?_
              refine xr_iload_n i_X9_nudge_67 rfl (q := 68) rfl ?_
              obtain ⟨x16, m15, em15, h⟩ := xi_bI_some h
              refine xr_SI i_X9_nudge_68 xcse_X9_196 rfl (As := [.ref b14, .int v1]) rfl (rest := []) rfl ((cc_X9_nudge_196 S _ _ _).trans em15) (q := 71) rfl ?_
              refine xr_istore_n i_X9_nudge_71 rfl (L2 := [some (.ref v0), some (.int v1), some (.int v2), some (.int x16)]) rfl (q := 72) rfl ?_
              refine xr_aload_n i_X9_nudge_72 rfl (q := 73) rfl ?_
              obtain ⟨c17, h⟩ := xi_if_some h
              obtain ⟨b18, eb18, h⟩ := xi_bind_some h
              refine xr_getR i_X9_nudge_73 xfe_X9_25 c17 eb18 (q := 76) rfl ?_
              refine xr_bipush i_X9_nudge_76 (q := 78) rfl ?_
              refine xr_iload_n i_X9_nudge_78 rfl (q := 79) rfl ?_
              refine xr_iadd i_X9_nudge_79 (q := 80) rfl ?_
              refine xr_dup2 i_X9_nudge_80 (q := 81) rfl ?_
              obtain ⟨c19, h⟩ := xi_if_some h
              refine xr_iaload i_X9_nudge_81 c19 (q := 82) rfl ?_
              refine xr_iload_n i_X9_nudge_82 rfl (q := 83) rfl ?_
              refine xr_iadd i_X9_nudge_83 (q := 84) rfl ?_
              obtain ⟨c20, h⟩ := xi_if_some h
              refine xr_iastore i_X9_nudge_84 c20 (q := 85) rfl ?_
              refine xr_iload_n i_X9_nudge_85 rfl (q := 86) rfl ?_
              exact xr_ireturn i_X9_nudge_86 rfl h
set_option maxRecDepth 100000 in
theorem po_X9_nudge {l : Launch} {E : xi_E} {S : xi_S} {D : va_G} {tys : List (ClassId × FieldType)} (hC : xCx E S tys) : xi_Pok l E S D vwCl tys xNs RX9 xTs cX9_nudge 4 2 (P_X9_nudge S) := ⟨xi_dc_ok, by rw [hC.2]; exact xfo_X9, xkio_X9, xklo_X9, xi_calls_ok (ins := .invokestatic) (List.forall_mem_cons.mpr ⟨(xc_X9_63 (sn_X9_in0 hC) (by decide)), List.forall_mem_cons.mpr ⟨(xc_X9_193 (sn_X9_mayMove hC) (by decide)), List.forall_mem_cons.mpr ⟨(xc_X9_196 (sn_X9_seenBy hC) (by decide)), fun _ h => absurd h List.not_mem_nil⟩⟩⟩), xi_calls_ok (ins := .invokevirtual) (List.forall_mem_cons.mpr ⟨(xc_X9_183 hC.1 (sn_X9_isAny hC) (by decide)), List.forall_mem_cons.mpr ⟨(xc_X9_187 hC.1 (sn_X9_notes hC) (by decide)), fun _ h => absurd h List.not_mem_nil⟩⟩)⟩
theorem sn_X9_nudge {l : Launch} {E : xi_E} {S : xi_S} {D : va_G} {tys : List (ClassId × FieldType)} (hC : xCx E S tys) : ∀ As m1 r m2, F_X9_nudge S As m1 = some (r, m2) → xi_Sound l E S D vwCl tys xNs xTs yX9_nudge cX9_nudge 4 (some .int) 2 As m1 r m2 := by
  intro As m1 r m2 h
  unfold F_X9_nudge at h
  split at h
  · exact xi_meth (P := P_X9_nudge S) (by decide) hC.1 (po_X9_nudge hC) (Nat.le_of_ble_eq_true rfl) rfl (xe_X9_nudge _ _ _ _ h)
  · exact xi_no h
theorem i_X9_rain_0 : xi_dc cX9_rain 0 = some (.iload_n 1, 1) := by decide +kernel
theorem i_X9_rain_1 : xi_dc cX9_rain 1 = some (.iconst 0, 1) := by decide +kernel
theorem i_X9_rain_2 : xi_dc cX9_rain 2 = some (.iconst 1, 1) := by decide +kernel
theorem i_X9_rain_3 : xi_dc cX9_rain 3 = some (.invokestatic 63, 3) := by decide +kernel
theorem i_X9_rain_6 : xi_dc cX9_rain 6 = some (.ifCond .ne 5, 3) := by decide +kernel
theorem t_X9_rain_6 : ((6 : Nat) : Int) + 5 = ((11 : Nat) : Int) := by decide +kernel
theorem i_X9_rain_9 : xi_dc cX9_rain 9 = some (.iconst (-1), 1) := by decide +kernel
theorem i_X9_rain_10 : xi_dc cX9_rain 10 = some (.ireturn, 1) := by decide +kernel
theorem i_X9_rain_11 : xi_dc cX9_rain 11 = some (.aload_n 0, 1) := by decide +kernel
theorem i_X9_rain_12 : xi_dc cX9_rain 12 = some (.invokevirtual 183, 3) := by decide +kernel
theorem i_X9_rain_15 : xi_dc cX9_rain 15 = some (.ifCond .eq 13, 3) := by decide +kernel
theorem t_X9_rain_15 : ((15 : Nat) : Int) + 13 = ((28 : Nat) : Int) := by decide +kernel
theorem i_X9_rain_18 : xi_dc cX9_rain 18 = some (.aload_n 0, 1) := by decide +kernel
theorem i_X9_rain_19 : xi_dc cX9_rain 19 = some (.getfield 25, 3) := by decide +kernel
theorem i_X9_rain_22 : xi_dc cX9_rain 22 = some (.iconst 3, 1) := by decide +kernel
theorem i_X9_rain_23 : xi_dc cX9_rain 23 = some (.iaload, 1) := by decide +kernel
theorem i_X9_rain_24 : xi_dc cX9_rain 24 = some (.iload_n 1, 1) := by decide +kernel
theorem i_X9_rain_25 : xi_dc cX9_rain 25 = some (.if_icmp .ne 6, 3) := by decide +kernel
theorem t_X9_rain_25 : ((25 : Nat) : Int) + 6 = ((31 : Nat) : Int) := by decide +kernel
theorem i_X9_rain_28 : xi_dc cX9_rain 28 = some (.bipush (-4), 2) := by decide +kernel
theorem i_X9_rain_30 : xi_dc cX9_rain 30 = some (.ireturn, 1) := by decide +kernel
theorem i_X9_rain_31 : xi_dc cX9_rain 31 = some (.aload_n 0, 1) := by decide +kernel
theorem i_X9_rain_32 : xi_dc cX9_rain 32 = some (.getfield 125, 3) := by decide +kernel
theorem i_X9_rain_35 : xi_dc cX9_rain 35 = some (.bipush 40, 2) := by decide +kernel
theorem i_X9_rain_37 : xi_dc cX9_rain 37 = some (.if_icmp .ne 6, 3) := by decide +kernel
theorem t_X9_rain_37 : ((37 : Nat) : Int) + 6 = ((43 : Nat) : Int) := by decide +kernel
theorem i_X9_rain_40 : xi_dc cX9_rain 40 = some (.bipush (-2), 2) := by decide +kernel
theorem i_X9_rain_42 : xi_dc cX9_rain 42 = some (.ireturn, 1) := by decide +kernel
theorem i_X9_rain_43 : xi_dc cX9_rain 43 = some (.aload_n 0, 1) := by decide +kernel
theorem i_X9_rain_44 : xi_dc cX9_rain 44 = some (.invokevirtual 187, 3) := by decide +kernel
theorem i_X9_rain_47 : xi_dc cX9_rain 47 = some (.aload_n 0, 1) := by decide +kernel
theorem i_X9_rain_48 : xi_dc cX9_rain 48 = some (.getfield 25, 3) := by decide +kernel
theorem i_X9_rain_51 : xi_dc cX9_rain 51 = some (.iconst 3, 1) := by decide +kernel
theorem i_X9_rain_52 : xi_dc cX9_rain 52 = some (.iload_n 1, 1) := by decide +kernel
theorem i_X9_rain_53 : xi_dc cX9_rain 53 = some (.iastore, 1) := by decide +kernel
theorem i_X9_rain_54 : xi_dc cX9_rain 54 = some (.iload_n 1, 1) := by decide +kernel
theorem i_X9_rain_55 : xi_dc cX9_rain 55 = some (.ireturn, 1) := by decide +kernel
def P_X9_rain (S : xi_S) : xi_P := (xi_dc cX9_rain, xi_tab xfl_X9, xi_tab xki_X9, xi_tab xkl_X9, xi_tab xcs_X9, xi_tab xcv_X9, xi_calls [(63, xi_wS 3 (F_X9_in0 S))], xi_calls [(183, xi_wV S 11 0 (F_X9_isAny S)), (187, xi_wV S 11 0 (F_X9_notes S))], 1)
theorem cc_X9_rain_63 (S : xi_S) (a0 : Int32) (a1 : Int32) (a2 : Int32) (m : xi_M) : (P_X9_rain S).2.2.2.2.2.2.1 63 [.int a0, .int a1, .int a2] m = (E_X9_in0 S a0 a1 a2 m) := by
  show xi_calls [(63, xi_wS 3 (F_X9_in0 S))] 63 [.int a0, .int a1, .int a2] m = _
  refine Eq.trans (b := xi_wS 3 (F_X9_in0 S) [.int a0, .int a1, .int a2] m) (xi_calls_hit rfl) ?_
  exact xi_wS_eq rfl
theorem cc_X9_rain_183 (S : xi_S) (a0 : Nat) (m : xi_M) : (P_X9_rain S).2.2.2.2.2.2.2.1 183 [.ref a0] m = (if S.1 a0 = 11 then E_X9_isAny S a0 m else none) := by
  show xi_calls [(183, xi_wV S 11 0 (F_X9_isAny S)), (187, xi_wV S 11 0 (F_X9_notes S))] 183 [.ref a0] m = _
  refine Eq.trans (b := xi_wV S 11 0 (F_X9_isAny S) [.ref a0] m) (xi_calls_hit rfl) ?_
  exact xi_wV_eq rfl
theorem cc_X9_rain_187 (S : xi_S) (a0 : Nat) (m : xi_M) : (P_X9_rain S).2.2.2.2.2.2.2.1 187 [.ref a0] m = (if S.1 a0 = 11 then E_X9_notes S a0 m else none) := by
  show xi_calls [(183, xi_wV S 11 0 (F_X9_isAny S)), (187, xi_wV S 11 0 (F_X9_notes S))] 187 [.ref a0] m = _
  refine Eq.trans (b := xi_calls [(187, xi_wV S 11 0 (F_X9_notes S))] 187 [.ref a0] m) (xi_calls_miss rfl) ?_
  refine Eq.trans (b := xi_wV S 11 0 (F_X9_notes S) [.ref a0] m) (xi_calls_hit rfl) ?_
  exact xi_wV_eq rfl
def E_X9_rain (S : xi_S) (v0 : Nat) (v1 : Int32) (m : xi_M) : Option xi_R :=
  xi_bI (E_X9_in0 S v1 (Int32.ofInt 0) (Int32.ofInt 1) m) fun x2 m1 =>
  if x2 = 0 then
    some (some (.int (Int32.ofInt (-1))), m1)
  else
    xi_bI (if S.1 v0 = 11 then E_X9_isAny S v0 m1 else none) fun x4 m3 =>
    if x4 = 0 then
      some (some (.int ((Int8.ofInt (-4)).toInt32)), m3)
    else
      if S.1 v0 = 11 then (S.2.2 v0 5).bind fun b6 =>
        if S.1 b6 = 0 ∧ ¬ ((Int32.ofInt 3) < 0 ∨ S.2.1 b6 ≤ Int32.toNatClampNeg (Int32.ofInt 3)) then
          if (m3.1 b6 (Int32.toNatClampNeg (Int32.ofInt 3))) = v1 then
            some (some (.int ((Int8.ofInt (-4)).toInt32)), m3)
          else
            if S.1 v0 = 11 then
              if (m3.1 v0 9) = ((Int8.ofInt 40).toInt32) then
                some (some (.int ((Int8.ofInt (-2)).toInt32)), m3)
              else
                xi_bV (if S.1 v0 = 11 then E_X9_notes S v0 m3 else none) fun m9 =>
                if S.1 v0 = 11 then (S.2.2 v0 5).bind fun b11 =>
                  if S.1 b11 = 0 ∧ ¬ ((Int32.ofInt 3) < 0 ∨ S.2.1 b11 ≤ Int32.toNatClampNeg (Int32.ofInt 3)) then
                    some (some (.int v1), (xi_wI m9 b11 (Int32.toNatClampNeg (Int32.ofInt 3)) v1))
                  else none
                else none
            else none
        else none
      else none
def F_X9_rain (S : xi_S) : xi_F := fun As m => match As with
  | [.ref v0, .int v1] => E_X9_rain S v0 v1 m
  | _ => none
set_option maxRecDepth 100000 in
set_option maxHeartbeats 4000000 in
theorem xe_X9_rain {S : xi_S} {res : xi_R} (v0 : Nat) (v1 : Int32) (m : xi_M) (h : E_X9_rain S v0 v1 m = some res) : xi_X S (P_X9_rain S) (0, [some (.ref v0), some (.int v1)], [], m) res := by
  unfold E_X9_rain at h
  refine xr_iload_n i_X9_rain_0 rfl (q := 1) rfl ?_
  refine xr_iconst i_X9_rain_1 (q := 2) rfl ?_
  refine xr_iconst i_X9_rain_2 (q := 3) rfl ?_
  obtain ⟨x2, m1, em1, h⟩ := xi_bI_some h
  refine xr_SI i_X9_rain_3 xcse_X9_63 rfl (As := [.int v1, .int (Int32.ofInt 0), .int (Int32.ofInt 1)]) rfl (rest := []) rfl ((cc_X9_rain_63 S _ _ _ _).trans em1) (q := 6) rfl ?_
  by_cases c16 : x2 = 0
  · replace h := (if_pos c16).symm.trans h
    refine xr_ifCond_ne_p i_X9_rain_6 c16 (q := 11) t_X9_rain_6 (q2 := 9) rfl ?_
    refine xr_iconst i_X9_rain_9 (q := 10) rfl ?_
    exact xr_ireturn i_X9_rain_10 rfl h
  · replace h := (if_neg c16).symm.trans h
    refine xr_ifCond_ne_n i_X9_rain_6 c16 (q := 11) t_X9_rain_6 (q2 := 9) rfl ?_
    refine xr_aload_n i_X9_rain_11 rfl (q := 12) rfl ?_
    obtain ⟨x4, m3, em3, h⟩ := xi_bI_some h
    refine xr_VI i_X9_rain_12 xcve_X9_183 rfl (As := [.ref v0]) rfl (rest := []) rfl ((cc_X9_rain_183 S _ _).trans em3) (q := 15) rfl ?_
    by_cases c15 : x4 = 0
    · replace h := (if_pos c15).symm.trans h
      refine xr_ifCond_eq_p i_X9_rain_15 c15 (q := 28) t_X9_rain_15 (q2 := 18) rfl ?_
      refine xr_bipush i_X9_rain_28 (q := 30) rfl ?_
      exact xr_ireturn i_X9_rain_30 rfl h
    · replace h := (if_neg c15).symm.trans h
      refine xr_ifCond_eq_n i_X9_rain_15 c15 (q := 28) t_X9_rain_15 (q2 := 18) rfl ?_
      refine xr_aload_n i_X9_rain_18 rfl (q := 19) rfl ?_
      obtain ⟨c5, h⟩ := xi_if_some h
      obtain ⟨b6, eb6, h⟩ := xi_bind_some h
      refine xr_getR i_X9_rain_19 xfe_X9_25 c5 eb6 (q := 22) rfl ?_
      refine xr_iconst i_X9_rain_22 (q := 23) rfl ?_
      obtain ⟨c7, h⟩ := xi_if_some h
      refine xr_iaload i_X9_rain_23 c7 (q := 24) rfl ?_
      refine xr_iload_n i_X9_rain_24 rfl (q := 25) rfl ?_
      by_cases c14 : (m3.1 b6 (Int32.toNatClampNeg (Int32.ofInt 3))) = v1
      · replace h := (if_pos c14).symm.trans h
        refine xr_if_icmp_ne_p i_X9_rain_25 c14 (q := 31) t_X9_rain_25 (q2 := 28) rfl ?_
        refine xr_bipush i_X9_rain_28 (q := 30) rfl ?_
        exact xr_ireturn i_X9_rain_30 rfl h
      · replace h := (if_neg c14).symm.trans h
        refine xr_if_icmp_ne_n i_X9_rain_25 c14 (q := 31) t_X9_rain_25 (q2 := 28) rfl ?_
        refine xr_aload_n i_X9_rain_31 rfl (q := 32) rfl ?_
        obtain ⟨c8, h⟩ := xi_if_some h
        refine xr_getI i_X9_rain_32 xfe_X9_125 c8 (q := 35) rfl ?_
        refine xr_bipush i_X9_rain_35 (q := 37) rfl ?_
        by_cases c13 : (m3.1 v0 9) = ((Int8.ofInt 40).toInt32)
        · replace h := (if_pos c13).symm.trans h
          refine xr_if_icmp_ne_p i_X9_rain_37 c13 (q := 43) t_X9_rain_37 (q2 := 40) rfl ?_
          refine xr_bipush i_X9_rain_40 (q := 42) rfl ?_
          exact xr_ireturn i_X9_rain_42 rfl h
        · replace h := (if_neg c13).symm.trans h
          refine xr_if_icmp_ne_n i_X9_rain_37 c13 (q := 43) t_X9_rain_37 (q2 := 40) rfl ?_
          refine xr_aload_n i_X9_rain_43 rfl (q := 44) rfl ?_
          obtain ⟨m9, em9, h⟩ := xi_bV_some h
          refine xr_VV i_X9_rain_44 xcve_X9_187 rfl (As := [.ref v0]) rfl (rest := []) rfl ((cc_X9_rain_187 S _ _).trans em9) (q := 47) rfl ?_
          refine xr_aload_n i_X9_rain_47 rfl (q := 48) rfl ?_
          obtain ⟨c10, h⟩ := xi_if_some h
          obtain ⟨b11, eb11, h⟩ := xi_bind_some h
          refine xr_getR i_X9_rain_48 xfe_X9_25 c10 eb11 (q := 51) rfl ?_
          refine xr_iconst i_X9_rain_51 (q := 52) rfl ?_
          refine xr_iload_n i_X9_rain_52 rfl (q := 53) rfl ?_
          obtain ⟨c12, h⟩ := xi_if_some h
          refine xr_iastore i_X9_rain_53 c12 (q := 54) rfl ?_
          refine xr_iload_n i_X9_rain_54 rfl (q := 55) rfl ?_
          exact xr_ireturn i_X9_rain_55 rfl h
set_option maxRecDepth 100000 in
theorem po_X9_rain {l : Launch} {E : xi_E} {S : xi_S} {D : va_G} {tys : List (ClassId × FieldType)} (hC : xCx E S tys) : xi_Pok l E S D vwCl tys xNs RX9 xTs cX9_rain 2 2 (P_X9_rain S) := ⟨xi_dc_ok, by rw [hC.2]; exact xfo_X9, xkio_X9, xklo_X9, xi_calls_ok (ins := .invokestatic) (List.forall_mem_cons.mpr ⟨(xc_X9_63 (sn_X9_in0 hC) (by decide)), fun _ h => absurd h List.not_mem_nil⟩), xi_calls_ok (ins := .invokevirtual) (List.forall_mem_cons.mpr ⟨(xc_X9_183 hC.1 (sn_X9_isAny hC) (by decide)), List.forall_mem_cons.mpr ⟨(xc_X9_187 hC.1 (sn_X9_notes hC) (by decide)), fun _ h => absurd h List.not_mem_nil⟩⟩)⟩
theorem sn_X9_rain {l : Launch} {E : xi_E} {S : xi_S} {D : va_G} {tys : List (ClassId × FieldType)} (hC : xCx E S tys) : ∀ As m1 r m2, F_X9_rain S As m1 = some (r, m2) → xi_Sound l E S D vwCl tys xNs xTs yX9_rain cX9_rain 2 (some .int) 2 As m1 r m2 := by
  intro As m1 r m2 h
  unfold F_X9_rain at h
  split at h
  · exact xi_meth (P := P_X9_rain S) (by decide) hC.1 (po_X9_rain hC) (Nat.le_of_ble_eq_true rfl) rfl (xe_X9_rain _ _ _ h)
  · exact xi_no h
theorem i_X9_stand_0 : xi_dc cX9_stand 0 = some (.aload_n 0, 1) := by decide +kernel
theorem i_X9_stand_1 : xi_dc cX9_stand 1 = some (.iload_n 1, 1) := by decide +kernel
theorem i_X9_stand_2 : xi_dc cX9_stand 2 = some (.invokevirtual 167, 3) := by decide +kernel
theorem i_X9_stand_5 : xi_dc cX9_stand 5 = some (.ifCond .eq 13, 3) := by decide +kernel
theorem t_X9_stand_5 : ((5 : Nat) : Int) + 13 = ((18 : Nat) : Int) := by decide +kernel
theorem i_X9_stand_8 : xi_dc cX9_stand 8 = some (.iload_n 2, 1) := by decide +kernel
theorem i_X9_stand_9 : xi_dc cX9_stand 9 = some (.iconst 0, 1) := by decide +kernel
theorem i_X9_stand_10 : xi_dc cX9_stand 10 = some (.bipush 20, 2) := by decide +kernel
theorem i_X9_stand_12 : xi_dc cX9_stand 12 = some (.invokestatic 63, 3) := by decide +kernel
theorem i_X9_stand_15 : xi_dc cX9_stand 15 = some (.ifCond .ne 5, 3) := by decide +kernel
theorem t_X9_stand_15 : ((15 : Nat) : Int) + 5 = ((20 : Nat) : Int) := by decide +kernel
theorem i_X9_stand_18 : xi_dc cX9_stand 18 = some (.iconst (-1), 1) := by decide +kernel
theorem i_X9_stand_19 : xi_dc cX9_stand 19 = some (.ireturn, 1) := by decide +kernel
theorem i_X9_stand_20 : xi_dc cX9_stand 20 = some (.aload_n 0, 1) := by decide +kernel
theorem i_X9_stand_21 : xi_dc cX9_stand 21 = some (.getfield 25, 3) := by decide +kernel
theorem i_X9_stand_24 : xi_dc cX9_stand 24 = some (.bipush 10, 2) := by decide +kernel
theorem i_X9_stand_26 : xi_dc cX9_stand 26 = some (.iconst 4, 1) := by decide +kernel
theorem i_X9_stand_27 : xi_dc cX9_stand 27 = some (.iload_n 1, 1) := by decide +kernel
theorem i_X9_stand_28 : xi_dc cX9_stand 28 = some (.imul, 1) := by decide +kernel
theorem i_X9_stand_29 : xi_dc cX9_stand 29 = some (.iadd, 1) := by decide +kernel
theorem i_X9_stand_30 : xi_dc cX9_stand 30 = some (.iconst 2, 1) := by decide +kernel
theorem i_X9_stand_31 : xi_dc cX9_stand 31 = some (.iadd, 1) := by decide +kernel
theorem i_X9_stand_32 : xi_dc cX9_stand 32 = some (.iaload, 1) := by decide +kernel
theorem i_X9_stand_33 : xi_dc cX9_stand 33 = some (.istore_n 3, 1) := by decide +kernel
theorem i_X9_stand_34 : xi_dc cX9_stand 34 = some (.iload_n 3, 1) := by decide +kernel
theorem i_X9_stand_35 : xi_dc cX9_stand 35 = some (.iload_n 2, 1) := by decide +kernel
theorem i_X9_stand_36 : xi_dc cX9_stand 36 = some (.if_icmp .ne 6, 3) := by decide +kernel
theorem t_X9_stand_36 : ((36 : Nat) : Int) + 6 = ((42 : Nat) : Int) := by decide +kernel
theorem i_X9_stand_39 : xi_dc cX9_stand 39 = some (.bipush (-4), 2) := by decide +kernel
theorem i_X9_stand_41 : xi_dc cX9_stand 41 = some (.ireturn, 1) := by decide +kernel
theorem i_X9_stand_42 : xi_dc cX9_stand 42 = some (.aload_n 0, 1) := by decide +kernel
theorem i_X9_stand_43 : xi_dc cX9_stand 43 = some (.getfield 125, 3) := by decide +kernel
theorem i_X9_stand_46 : xi_dc cX9_stand 46 = some (.bipush 40, 2) := by decide +kernel
theorem i_X9_stand_48 : xi_dc cX9_stand 48 = some (.if_icmp .ne 6, 3) := by decide +kernel
theorem t_X9_stand_48 : ((48 : Nat) : Int) + 6 = ((54 : Nat) : Int) := by decide +kernel
theorem i_X9_stand_51 : xi_dc cX9_stand 51 = some (.bipush (-2), 2) := by decide +kernel
theorem i_X9_stand_53 : xi_dc cX9_stand 53 = some (.ireturn, 1) := by decide +kernel
theorem i_X9_stand_54 : xi_dc cX9_stand 54 = some (.aload_n 0, 1) := by decide +kernel
theorem i_X9_stand_55 : xi_dc cX9_stand 55 = some (.invokevirtual 187, 3) := by decide +kernel
theorem i_X9_stand_58 : xi_dc cX9_stand 58 = some (.aload_n 0, 1) := by decide +kernel
theorem i_X9_stand_59 : xi_dc cX9_stand 59 = some (.getfield 25, 3) := by decide +kernel
theorem i_X9_stand_62 : xi_dc cX9_stand 62 = some (.bipush 10, 2) := by decide +kernel
theorem i_X9_stand_64 : xi_dc cX9_stand 64 = some (.iconst 4, 1) := by decide +kernel
theorem i_X9_stand_65 : xi_dc cX9_stand 65 = some (.iload_n 1, 1) := by decide +kernel
theorem i_X9_stand_66 : xi_dc cX9_stand 66 = some (.imul, 1) := by decide +kernel
theorem i_X9_stand_67 : xi_dc cX9_stand 67 = some (.iadd, 1) := by decide +kernel
theorem i_X9_stand_68 : xi_dc cX9_stand 68 = some (.iconst 2, 1) := by decide +kernel
theorem i_X9_stand_69 : xi_dc cX9_stand 69 = some (.iadd, 1) := by decide +kernel
theorem i_X9_stand_70 : xi_dc cX9_stand 70 = some (.iload_n 2, 1) := by decide +kernel
theorem i_X9_stand_71 : xi_dc cX9_stand 71 = some (.iastore, 1) := by decide +kernel
theorem i_X9_stand_72 : xi_dc cX9_stand 72 = some (.iload_n 3, 1) := by decide +kernel
theorem i_X9_stand_73 : xi_dc cX9_stand 73 = some (.ireturn, 1) := by decide +kernel
def P_X9_stand (S : xi_S) : xi_P := (xi_dc cX9_stand, xi_tab xfl_X9, xi_tab xki_X9, xi_tab xkl_X9, xi_tab xcs_X9, xi_tab xcv_X9, xi_calls [(63, xi_wS 3 (F_X9_in0 S))], xi_calls [(167, xi_wV S 11 1 (F_X9_isPlayer S)), (187, xi_wV S 11 0 (F_X9_notes S))], 1)
theorem cc_X9_stand_63 (S : xi_S) (a0 : Int32) (a1 : Int32) (a2 : Int32) (m : xi_M) : (P_X9_stand S).2.2.2.2.2.2.1 63 [.int a0, .int a1, .int a2] m = (E_X9_in0 S a0 a1 a2 m) := by
  show xi_calls [(63, xi_wS 3 (F_X9_in0 S))] 63 [.int a0, .int a1, .int a2] m = _
  refine Eq.trans (b := xi_wS 3 (F_X9_in0 S) [.int a0, .int a1, .int a2] m) (xi_calls_hit rfl) ?_
  exact xi_wS_eq rfl
theorem cc_X9_stand_167 (S : xi_S) (a0 : Nat) (a1 : Int32) (m : xi_M) : (P_X9_stand S).2.2.2.2.2.2.2.1 167 [.ref a0, .int a1] m = (if S.1 a0 = 11 then E_X9_isPlayer S a0 a1 m else none) := by
  show xi_calls [(167, xi_wV S 11 1 (F_X9_isPlayer S)), (187, xi_wV S 11 0 (F_X9_notes S))] 167 [.ref a0, .int a1] m = _
  refine Eq.trans (b := xi_wV S 11 1 (F_X9_isPlayer S) [.ref a0, .int a1] m) (xi_calls_hit rfl) ?_
  exact xi_wV_eq rfl
theorem cc_X9_stand_187 (S : xi_S) (a0 : Nat) (m : xi_M) : (P_X9_stand S).2.2.2.2.2.2.2.1 187 [.ref a0] m = (if S.1 a0 = 11 then E_X9_notes S a0 m else none) := by
  show xi_calls [(167, xi_wV S 11 1 (F_X9_isPlayer S)), (187, xi_wV S 11 0 (F_X9_notes S))] 187 [.ref a0] m = _
  refine Eq.trans (b := xi_calls [(187, xi_wV S 11 0 (F_X9_notes S))] 187 [.ref a0] m) (xi_calls_miss rfl) ?_
  refine Eq.trans (b := xi_wV S 11 0 (F_X9_notes S) [.ref a0] m) (xi_calls_hit rfl) ?_
  exact xi_wV_eq rfl
def E_X9_stand (S : xi_S) (v0 : Nat) (v1 : Int32) (v2 : Int32) (m : xi_M) : Option xi_R :=
  xi_bI (if S.1 v0 = 11 then E_X9_isPlayer S v0 v1 m else none) fun x2 m1 =>
  if x2 = 0 then
    some (some (.int (Int32.ofInt (-1))), m1)
  else
    xi_bI (E_X9_in0 S v2 (Int32.ofInt 0) ((Int8.ofInt 20).toInt32) m1) fun x4 m3 =>
    if x4 = 0 then
      some (some (.int (Int32.ofInt (-1))), m3)
    else
      if S.1 v0 = 11 then (S.2.2 v0 5).bind fun b6 =>
        if S.1 b6 = 0 ∧ ¬ (((((Int8.ofInt 10).toInt32) + ((Int32.ofInt 4) * v1)) + (Int32.ofInt 2)) < 0 ∨ S.2.1 b6 ≤ Int32.toNatClampNeg ((((Int8.ofInt 10).toInt32) + ((Int32.ofInt 4) * v1)) + (Int32.ofInt 2))) then
          if (m3.1 b6 (Int32.toNatClampNeg ((((Int8.ofInt 10).toInt32) + ((Int32.ofInt 4) * v1)) + (Int32.ofInt 2)))) = v2 then
            some (some (.int ((Int8.ofInt (-4)).toInt32)), m3)
          else
            if S.1 v0 = 11 then
              if (m3.1 v0 9) = ((Int8.ofInt 40).toInt32) then
                some (some (.int ((Int8.ofInt (-2)).toInt32)), m3)
              else
                xi_bV (if S.1 v0 = 11 then E_X9_notes S v0 m3 else none) fun m9 =>
                if S.1 v0 = 11 then (S.2.2 v0 5).bind fun b11 =>
                  if S.1 b11 = 0 ∧ ¬ (((((Int8.ofInt 10).toInt32) + ((Int32.ofInt 4) * v1)) + (Int32.ofInt 2)) < 0 ∨ S.2.1 b11 ≤ Int32.toNatClampNeg ((((Int8.ofInt 10).toInt32) + ((Int32.ofInt 4) * v1)) + (Int32.ofInt 2))) then
                    some (some (.int (m3.1 b6 (Int32.toNatClampNeg ((((Int8.ofInt 10).toInt32) + ((Int32.ofInt 4) * v1)) + (Int32.ofInt 2))))), (xi_wI m9 b11 (Int32.toNatClampNeg ((((Int8.ofInt 10).toInt32) + ((Int32.ofInt 4) * v1)) + (Int32.ofInt 2))) v2))
                  else none
                else none
            else none
        else none
      else none
def F_X9_stand (S : xi_S) : xi_F := fun As m => match As with
  | [.ref v0, .int v1, .int v2] => E_X9_stand S v0 v1 v2 m
  | _ => none
set_option maxRecDepth 100000 in
set_option maxHeartbeats 4000000 in
theorem xe_X9_stand {S : xi_S} {res : xi_R} (v0 : Nat) (v1 : Int32) (v2 : Int32) (m : xi_M) (h : E_X9_stand S v0 v1 v2 m = some res) : xi_X S (P_X9_stand S) (0, [some (.ref v0), some (.int v1), some (.int v2), none], [], m) res := by
  unfold E_X9_stand at h
  refine xr_aload_n i_X9_stand_0 rfl (q := 1) rfl ?_
  refine xr_iload_n i_X9_stand_1 rfl (q := 2) rfl ?_
  obtain ⟨x2, m1, em1, h⟩ := xi_bI_some h
  refine xr_VI i_X9_stand_2 xcve_X9_167 rfl (As := [.ref v0, .int v1]) rfl (rest := []) rfl ((cc_X9_stand_167 S _ _ _).trans em1) (q := 5) rfl ?_
  by_cases c16 : x2 = 0
  · replace h := (if_pos c16).symm.trans h
    refine xr_ifCond_eq_p i_X9_stand_5 c16 (q := 18) t_X9_stand_5 (q2 := 8) rfl ?_
    refine xr_iconst i_X9_stand_18 (q := 19) rfl ?_
    exact xr_ireturn i_X9_stand_19 rfl h
  · replace h := (if_neg c16).symm.trans h
    refine xr_ifCond_eq_n i_X9_stand_5 c16 (q := 18) t_X9_stand_5 (q2 := 8) rfl ?_
    refine xr_iload_n i_X9_stand_8 rfl (q := 9) rfl ?_
    refine xr_iconst i_X9_stand_9 (q := 10) rfl ?_
    refine xr_bipush i_X9_stand_10 (q := 12) rfl ?_
    obtain ⟨x4, m3, em3, h⟩ := xi_bI_some h
    refine xr_SI i_X9_stand_12 xcse_X9_63 rfl (As := [.int v2, .int (Int32.ofInt 0), .int ((Int8.ofInt 20).toInt32)]) rfl (rest := []) rfl ((cc_X9_stand_63 S _ _ _ _).trans em3) (q := 15) rfl ?_
    by_cases c15 : x4 = 0
    · replace h := (if_pos c15).symm.trans h
      refine xr_ifCond_ne_p i_X9_stand_15 c15 (q := 20) t_X9_stand_15 (q2 := 18) rfl ?_
      refine xr_iconst i_X9_stand_18 (q := 19) rfl ?_
      exact xr_ireturn i_X9_stand_19 rfl h
    · replace h := (if_neg c15).symm.trans h
      refine xr_ifCond_ne_n i_X9_stand_15 c15 (q := 20) t_X9_stand_15 (q2 := 18) rfl ?_
      refine xr_aload_n i_X9_stand_20 rfl (q := 21) rfl ?_
      obtain ⟨c5, h⟩ := xi_if_some h
      obtain ⟨b6, eb6, h⟩ := xi_bind_some h
      refine xr_getR i_X9_stand_21 xfe_X9_25 c5 eb6 (q := 24) rfl ?_
      refine xr_bipush i_X9_stand_24 (q := 26) rfl ?_
      refine xr_iconst i_X9_stand_26 (q := 27) rfl ?_
      refine xr_iload_n i_X9_stand_27 rfl (q := 28) rfl ?_
      refine xr_imul i_X9_stand_28 (q := 29) rfl ?_
      refine xr_iadd i_X9_stand_29 (q := 30) rfl ?_
      refine xr_iconst i_X9_stand_30 (q := 31) rfl ?_
      refine xr_iadd i_X9_stand_31 (q := 32) rfl ?_
      obtain ⟨c7, h⟩ := xi_if_some h
      refine xr_iaload i_X9_stand_32 c7 (q := 33) rfl ?_
      refine xr_istore_n i_X9_stand_33 rfl (L2 := [some (.ref v0), some (.int v1), some (.int v2), some (.int (m3.1 b6 (Int32.toNatClampNeg ((((Int8.ofInt 10).toInt32) + ((Int32.ofInt 4) * v1)) + (Int32.ofInt 2)))))]) rfl (q := 34) rfl ?_
      refine xr_iload_n i_X9_stand_34 rfl (q := 35) rfl ?_
      refine xr_iload_n i_X9_stand_35 rfl (q := 36) rfl ?_
      by_cases c14 : (m3.1 b6 (Int32.toNatClampNeg ((((Int8.ofInt 10).toInt32) + ((Int32.ofInt 4) * v1)) + (Int32.ofInt 2)))) = v2
      · replace h := (if_pos c14).symm.trans h
        refine xr_if_icmp_ne_p i_X9_stand_36 c14 (q := 42) t_X9_stand_36 (q2 := 39) rfl ?_
        refine xr_bipush i_X9_stand_39 (q := 41) rfl ?_
        exact xr_ireturn i_X9_stand_41 rfl h
      · replace h := (if_neg c14).symm.trans h
        refine xr_if_icmp_ne_n i_X9_stand_36 c14 (q := 42) t_X9_stand_36 (q2 := 39) rfl ?_
        refine xr_aload_n i_X9_stand_42 rfl (q := 43) rfl ?_
        obtain ⟨c8, h⟩ := xi_if_some h
        refine xr_getI i_X9_stand_43 xfe_X9_125 c8 (q := 46) rfl ?_
        refine xr_bipush i_X9_stand_46 (q := 48) rfl ?_
        by_cases c13 : (m3.1 v0 9) = ((Int8.ofInt 40).toInt32)
        · replace h := (if_pos c13).symm.trans h
          refine xr_if_icmp_ne_p i_X9_stand_48 c13 (q := 54) t_X9_stand_48 (q2 := 51) rfl ?_
          refine xr_bipush i_X9_stand_51 (q := 53) rfl ?_
          exact xr_ireturn i_X9_stand_53 rfl h
        · replace h := (if_neg c13).symm.trans h
          refine xr_if_icmp_ne_n i_X9_stand_48 c13 (q := 54) t_X9_stand_48 (q2 := 51) rfl ?_
          refine xr_aload_n i_X9_stand_54 rfl (q := 55) rfl ?_
          obtain ⟨m9, em9, h⟩ := xi_bV_some h
          refine xr_VV i_X9_stand_55 xcve_X9_187 rfl (As := [.ref v0]) rfl (rest := []) rfl ((cc_X9_stand_187 S _ _).trans em9) (q := 58) rfl ?_
          refine xr_aload_n i_X9_stand_58 rfl (q := 59) rfl ?_
          obtain ⟨c10, h⟩ := xi_if_some h
          obtain ⟨b11, eb11, h⟩ := xi_bind_some h
          refine xr_getR i_X9_stand_59 xfe_X9_25 c10 eb11 (q := 62) rfl ?_
          refine xr_bipush i_X9_stand_62 (q := 64) rfl ?_
          refine xr_iconst i_X9_stand_64 (q := 65) rfl ?_
          refine xr_iload_n i_X9_stand_65 rfl (q := 66) rfl ?_
          refine xr_imul i_X9_stand_66 (q := 67) rfl ?_
          refine xr_iadd i_X9_stand_67 (q := 68) rfl ?_
          refine xr_iconst i_X9_stand_68 (q := 69) rfl ?_
          refine xr_iadd i_X9_stand_69 (q := 70) rfl ?_
          refine xr_iload_n i_X9_stand_70 rfl (q := 71) rfl ?_
          obtain ⟨c12, h⟩ := xi_if_some h
          refine xr_iastore i_X9_stand_71 c12 (q := 72) rfl ?_
          refine xr_iload_n i_X9_stand_72 rfl (q := 73) rfl ?_
          exact xr_ireturn i_X9_stand_73 rfl h
set_option maxRecDepth 100000 in
theorem po_X9_stand {l : Launch} {E : xi_E} {S : xi_S} {D : va_G} {tys : List (ClassId × FieldType)} (hC : xCx E S tys) : xi_Pok l E S D vwCl tys xNs RX9 xTs cX9_stand 4 2 (P_X9_stand S) := ⟨xi_dc_ok, by rw [hC.2]; exact xfo_X9, xkio_X9, xklo_X9, xi_calls_ok (ins := .invokestatic) (List.forall_mem_cons.mpr ⟨(xc_X9_63 (sn_X9_in0 hC) (by decide)), fun _ h => absurd h List.not_mem_nil⟩), xi_calls_ok (ins := .invokevirtual) (List.forall_mem_cons.mpr ⟨(xc_X9_167 hC.1 (sn_X9_isPlayer hC) (by decide)), List.forall_mem_cons.mpr ⟨(xc_X9_187 hC.1 (sn_X9_notes hC) (by decide)), fun _ h => absurd h List.not_mem_nil⟩⟩)⟩
theorem sn_X9_stand {l : Launch} {E : xi_E} {S : xi_S} {D : va_G} {tys : List (ClassId × FieldType)} (hC : xCx E S tys) : ∀ As m1 r m2, F_X9_stand S As m1 = some (r, m2) → xi_Sound l E S D vwCl tys xNs xTs yX9_stand cX9_stand 4 (some .int) 2 As m1 r m2 := by
  intro As m1 r m2 h
  unfold F_X9_stand at h
  split at h
  · exact xi_meth (P := P_X9_stand S) (by decide) hC.1 (po_X9_stand hC) (Nat.le_of_ble_eq_true rfl) rfl (xe_X9_stand _ _ _ _ h)
  · exact xi_no h
theorem i_X9_undo_0 : xi_dc cX9_undo 0 = some (.iload_n 1, 1) := by decide +kernel
theorem i_X9_undo_1 : xi_dc cX9_undo 1 = some (.iconst 0, 1) := by decide +kernel
theorem i_X9_undo_2 : xi_dc cX9_undo 2 = some (.aload_n 0, 1) := by decide +kernel
theorem i_X9_undo_3 : xi_dc cX9_undo 3 = some (.getfield 125, 3) := by decide +kernel
theorem i_X9_undo_6 : xi_dc cX9_undo 6 = some (.invokestatic 63, 3) := by decide +kernel
theorem i_X9_undo_9 : xi_dc cX9_undo 9 = some (.ifCond .ne 5, 3) := by decide +kernel
theorem t_X9_undo_9 : ((9 : Nat) : Int) + 5 = ((14 : Nat) : Int) := by decide +kernel
theorem i_X9_undo_12 : xi_dc cX9_undo 12 = some (.iconst (-1), 1) := by decide +kernel
theorem i_X9_undo_13 : xi_dc cX9_undo 13 = some (.ireturn, 1) := by decide +kernel
theorem i_X9_undo_14 : xi_dc cX9_undo 14 = some (.aload_n 0, 1) := by decide +kernel
theorem i_X9_undo_15 : xi_dc cX9_undo 15 = some (.getfield 125, 3) := by decide +kernel
theorem i_X9_undo_18 : xi_dc cX9_undo 18 = some (.iload_n 1, 1) := by decide +kernel
theorem i_X9_undo_19 : xi_dc cX9_undo 19 = some (.isub, 1) := by decide +kernel
theorem i_X9_undo_20 : xi_dc cX9_undo 20 = some (.istore_n 2, 1) := by decide +kernel
theorem i_X9_undo_21 : xi_dc cX9_undo 21 = some (.iload_n 2, 1) := by decide +kernel
theorem i_X9_undo_22 : xi_dc cX9_undo 22 = some (.ifCond .le 21, 3) := by decide +kernel
theorem t_X9_undo_22 : ((22 : Nat) : Int) + 21 = ((43 : Nat) : Int) := by decide +kernel
theorem i_X9_undo_25 : xi_dc cX9_undo 25 = some (.aload_n 0, 1) := by decide +kernel
theorem i_X9_undo_26 : xi_dc cX9_undo 26 = some (.getfield 34, 3) := by decide +kernel
theorem i_X9_undo_29 : xi_dc cX9_undo 29 = some (.bipush 34, 2) := by decide +kernel
theorem i_X9_undo_31 : xi_dc cX9_undo 31 = some (.iload_n 1, 1) := by decide +kernel
theorem i_X9_undo_32 : xi_dc cX9_undo 32 = some (.imul, 1) := by decide +kernel
theorem i_X9_undo_33 : xi_dc cX9_undo 33 = some (.aload_n 0, 1) := by decide +kernel
theorem i_X9_undo_34 : xi_dc cX9_undo 34 = some (.getfield 25, 3) := by decide +kernel
theorem i_X9_undo_37 : xi_dc cX9_undo 37 = some (.iconst 0, 1) := by decide +kernel
theorem i_X9_undo_38 : xi_dc cX9_undo 38 = some (.bipush 34, 2) := by decide +kernel
theorem i_X9_undo_40 : xi_dc cX9_undo 40 = some (.invokestatic 121, 3) := by decide +kernel
theorem i_X9_undo_43 : xi_dc cX9_undo 43 = some (.aload_n 0, 1) := by decide +kernel
theorem i_X9_undo_44 : xi_dc cX9_undo 44 = some (.iload_n 1, 1) := by decide +kernel
theorem i_X9_undo_45 : xi_dc cX9_undo 45 = some (.putfield 125, 3) := by decide +kernel
theorem i_X9_undo_48 : xi_dc cX9_undo 48 = some (.iload_n 2, 1) := by decide +kernel
theorem i_X9_undo_49 : xi_dc cX9_undo 49 = some (.ireturn, 1) := by decide +kernel
def P_X9_undo (S : xi_S) : xi_P := (xi_dc cX9_undo, xi_tab xfl_X9, xi_tab xki_X9, xi_tab xkl_X9, xi_tab xcs_X9, xi_tab xcv_X9, xi_calls [(63, xi_wS 3 (F_X9_in0 S)), (121, xi_wS 5 (F_X9_copies S))], xi_calls [], 1)
theorem cc_X9_undo_63 (S : xi_S) (a0 : Int32) (a1 : Int32) (a2 : Int32) (m : xi_M) : (P_X9_undo S).2.2.2.2.2.2.1 63 [.int a0, .int a1, .int a2] m = (E_X9_in0 S a0 a1 a2 m) := by
  show xi_calls [(63, xi_wS 3 (F_X9_in0 S)), (121, xi_wS 5 (F_X9_copies S))] 63 [.int a0, .int a1, .int a2] m = _
  refine Eq.trans (b := xi_wS 3 (F_X9_in0 S) [.int a0, .int a1, .int a2] m) (xi_calls_hit rfl) ?_
  exact xi_wS_eq rfl
theorem cc_X9_undo_121 (S : xi_S) (a0 : Nat) (a1 : Int32) (a2 : Nat) (a3 : Int32) (a4 : Int32) (m : xi_M) : (P_X9_undo S).2.2.2.2.2.2.1 121 [.ref a0, .int a1, .ref a2, .int a3, .int a4] m = (E_X9_copies S a0 a1 a2 a3 a4 m) := by
  show xi_calls [(63, xi_wS 3 (F_X9_in0 S)), (121, xi_wS 5 (F_X9_copies S))] 121 [.ref a0, .int a1, .ref a2, .int a3, .int a4] m = _
  refine Eq.trans (b := xi_calls [(121, xi_wS 5 (F_X9_copies S))] 121 [.ref a0, .int a1, .ref a2, .int a3, .int a4] m) (xi_calls_miss rfl) ?_
  refine Eq.trans (b := xi_wS 5 (F_X9_copies S) [.ref a0, .int a1, .ref a2, .int a3, .int a4] m) (xi_calls_hit rfl) ?_
  exact xi_wS_eq rfl
def E_X9_undo (S : xi_S) (v0 : Nat) (v1 : Int32) (m : xi_M) : Option xi_R :=
  if S.1 v0 = 11 then
    xi_bI (E_X9_in0 S v1 (Int32.ofInt 0) (m.1 v0 9) m) fun x3 m2 =>
    if x3 = 0 then
      some (some (.int (Int32.ofInt (-1))), m2)
    else
      if S.1 v0 = 11 then
        if ((m2.1 v0 9) - v1) ≤ 0 then
          if S.1 v0 = 11 then
            some (some (.int ((m2.1 v0 9) - v1)), (xi_wI m2 v0 9 v1))
          else none
        else
          if S.1 v0 = 11 then (S.2.2 v0 8).bind fun b7 =>
            if S.1 v0 = 11 then (S.2.2 v0 5).bind fun b9 =>
              xi_bV (E_X9_copies S b7 (((Int8.ofInt 34).toInt32) * v1) b9 (Int32.ofInt 0) ((Int8.ofInt 34).toInt32) m2) fun m10 =>
              if S.1 v0 = 11 then
                some (some (.int ((m2.1 v0 9) - v1)), (xi_wI m10 v0 9 v1))
              else none
            else none
          else none
      else none
  else none
def F_X9_undo (S : xi_S) : xi_F := fun As m => match As with
  | [.ref v0, .int v1] => E_X9_undo S v0 v1 m
  | _ => none
set_option maxRecDepth 100000 in
set_option maxHeartbeats 4000000 in
theorem xe_X9_undo {S : xi_S} {res : xi_R} (v0 : Nat) (v1 : Int32) (m : xi_M) (h : E_X9_undo S v0 v1 m = some res) : xi_X S (P_X9_undo S) (0, [some (.ref v0), some (.int v1), none], [], m) res := by
  unfold E_X9_undo at h
  refine xr_iload_n i_X9_undo_0 rfl (q := 1) rfl ?_
  refine xr_iconst i_X9_undo_1 (q := 2) rfl ?_
  refine xr_aload_n i_X9_undo_2 rfl (q := 3) rfl ?_
  obtain ⟨c1, h⟩ := xi_if_some h
  refine xr_getI i_X9_undo_3 xfe_X9_125 c1 (q := 6) rfl ?_
  obtain ⟨x3, m2, em2, h⟩ := xi_bI_some h
  refine xr_SI i_X9_undo_6 xcse_X9_63 rfl (As := [.int v1, .int (Int32.ofInt 0), .int (m.1 v0 9)]) rfl (rest := []) rfl ((cc_X9_undo_63 S _ _ _ _).trans em2) (q := 9) rfl ?_
  by_cases c13 : x3 = 0
  · replace h := (if_pos c13).symm.trans h
    refine xr_ifCond_ne_p i_X9_undo_9 c13 (q := 14) t_X9_undo_9 (q2 := 12) rfl ?_
    refine xr_iconst i_X9_undo_12 (q := 13) rfl ?_
    exact xr_ireturn i_X9_undo_13 rfl h
  · replace h := (if_neg c13).symm.trans h
    refine xr_ifCond_ne_n i_X9_undo_9 c13 (q := 14) t_X9_undo_9 (q2 := 12) rfl ?_
    refine xr_aload_n i_X9_undo_14 rfl (q := 15) rfl ?_
    obtain ⟨c4, h⟩ := xi_if_some h
    refine xr_getI i_X9_undo_15 xfe_X9_125 c4 (q := 18) rfl ?_
    refine xr_iload_n i_X9_undo_18 rfl (q := 19) rfl ?_
    refine xr_isub i_X9_undo_19 (q := 20) rfl ?_
    refine xr_istore_n i_X9_undo_20 rfl (L2 := [some (.ref v0), some (.int v1), some (.int ((m2.1 v0 9) - v1))]) rfl (q := 21) rfl ?_
    refine xr_iload_n i_X9_undo_21 rfl (q := 22) rfl ?_
    by_cases c12 : ((m2.1 v0 9) - v1) ≤ 0
    · replace h := (if_pos c12).symm.trans h
      refine xr_ifCond_le_p i_X9_undo_22 c12 (q := 43) t_X9_undo_22 (q2 := 25) rfl ?_
      refine xr_aload_n i_X9_undo_43 rfl (q := 44) rfl ?_
      refine xr_iload_n i_X9_undo_44 rfl (q := 45) rfl ?_
      obtain ⟨c5, h⟩ := xi_if_some h
      refine xr_putI i_X9_undo_45 xfe_X9_125 c5 (q := 48) rfl ?_
      refine xr_iload_n i_X9_undo_48 rfl (q := 49) rfl ?_
      exact xr_ireturn i_X9_undo_49 rfl h
    · replace h := (if_neg c12).symm.trans h
      refine xr_ifCond_le_n i_X9_undo_22 c12 (q := 43) t_X9_undo_22 (q2 := 25) rfl ?_
      refine xr_aload_n i_X9_undo_25 rfl (q := 26) rfl ?_
      obtain ⟨c6, h⟩ := xi_if_some h
      obtain ⟨b7, eb7, h⟩ := xi_bind_some h
      refine xr_getR i_X9_undo_26 xfe_X9_34 c6 eb7 (q := 29) rfl ?_
      refine xr_bipush i_X9_undo_29 (q := 31) rfl ?_
      refine xr_iload_n i_X9_undo_31 rfl (q := 32) rfl ?_
      refine xr_imul i_X9_undo_32 (q := 33) rfl ?_
      refine xr_aload_n i_X9_undo_33 rfl (q := 34) rfl ?_
      obtain ⟨c8, h⟩ := xi_if_some h
      obtain ⟨b9, eb9, h⟩ := xi_bind_some h
      refine xr_getR i_X9_undo_34 xfe_X9_25 c8 eb9 (q := 37) rfl ?_
      refine xr_iconst i_X9_undo_37 (q := 38) rfl ?_
      refine xr_bipush i_X9_undo_38 (q := 40) rfl ?_
      obtain ⟨m10, em10, h⟩ := xi_bV_some h
      refine xr_SV i_X9_undo_40 xcse_X9_121 rfl (As := [.ref b7, .int (((Int8.ofInt 34).toInt32) * v1), .ref b9, .int (Int32.ofInt 0), .int ((Int8.ofInt 34).toInt32)]) rfl (rest := []) rfl ((cc_X9_undo_121 S _ _ _ _ _ _).trans em10) (q := 43) rfl ?_
      refine xr_aload_n i_X9_undo_43 rfl (q := 44) rfl ?_
      refine xr_iload_n i_X9_undo_44 rfl (q := 45) rfl ?_
      obtain ⟨c11, h⟩ := xi_if_some h
      refine xr_putI i_X9_undo_45 xfe_X9_125 c11 (q := 48) rfl ?_
      refine xr_iload_n i_X9_undo_48 rfl (q := 49) rfl ?_
      exact xr_ireturn i_X9_undo_49 rfl h
set_option maxRecDepth 100000 in
theorem po_X9_undo {l : Launch} {E : xi_E} {S : xi_S} {D : va_G} {tys : List (ClassId × FieldType)} (hC : xCx E S tys) : xi_Pok l E S D vwCl tys xNs RX9 xTs cX9_undo 3 1 (P_X9_undo S) := ⟨xi_dc_ok, by rw [hC.2]; exact xfo_X9, xkio_X9, xklo_X9, xi_calls_ok (ins := .invokestatic) (List.forall_mem_cons.mpr ⟨(xc_X9_63 (sn_X9_in0 hC) (by decide)), List.forall_mem_cons.mpr ⟨(xc_X9_121 (sn_X9_copies hC) (by decide)), fun _ h => absurd h List.not_mem_nil⟩⟩), xi_calls_ok (ins := .invokevirtual) (fun _ h => absurd h List.not_mem_nil)⟩
theorem sn_X9_undo {l : Launch} {E : xi_E} {S : xi_S} {D : va_G} {tys : List (ClassId × FieldType)} (hC : xCx E S tys) : ∀ As m1 r m2, F_X9_undo S As m1 = some (r, m2) → xi_Sound l E S D vwCl tys xNs xTs yX9_undo cX9_undo 3 (some .int) 1 As m1 r m2 := by
  intro As m1 r m2 h
  unfold F_X9_undo at h
  split at h
  · exact xi_meth (P := P_X9_undo S) (by decide) hC.1 (po_X9_undo hC) (Nat.le_of_ble_eq_true rfl) rfl (xe_X9_undo _ _ _ h)
  · exact xi_no h
theorem i_X9_keep_0 : xi_dc cX9_keep 0 = some (.iload_n 1, 1) := by decide +kernel
theorem i_X9_keep_1 : xi_dc cX9_keep 1 = some (.iconst 0, 1) := by decide +kernel
theorem i_X9_keep_2 : xi_dc cX9_keep 2 = some (.iconst 2, 1) := by decide +kernel
theorem i_X9_keep_3 : xi_dc cX9_keep 3 = some (.invokestatic 63, 3) := by decide +kernel
theorem i_X9_keep_6 : xi_dc cX9_keep 6 = some (.ifCond .ne 5, 3) := by decide +kernel
theorem t_X9_keep_6 : ((6 : Nat) : Int) + 5 = ((11 : Nat) : Int) := by decide +kernel
theorem i_X9_keep_9 : xi_dc cX9_keep 9 = some (.iconst (-1), 1) := by decide +kernel
theorem i_X9_keep_10 : xi_dc cX9_keep 10 = some (.ireturn, 1) := by decide +kernel
theorem i_X9_keep_11 : xi_dc cX9_keep 11 = some (.aload_n 0, 1) := by decide +kernel
theorem i_X9_keep_12 : xi_dc cX9_keep 12 = some (.invokevirtual 183, 3) := by decide +kernel
theorem i_X9_keep_15 : xi_dc cX9_keep 15 = some (.ifCond .ne 6, 3) := by decide +kernel
theorem t_X9_keep_15 : ((15 : Nat) : Int) + 6 = ((21 : Nat) : Int) := by decide +kernel
theorem i_X9_keep_18 : xi_dc cX9_keep 18 = some (.bipush (-4), 2) := by decide +kernel
theorem i_X9_keep_20 : xi_dc cX9_keep 20 = some (.ireturn, 1) := by decide +kernel
theorem i_X9_keep_21 : xi_dc cX9_keep 21 = some (.aload_n 0, 1) := by decide +kernel
theorem i_X9_keep_22 : xi_dc cX9_keep 22 = some (.getfield 25, 3) := by decide +kernel
theorem i_X9_keep_25 : xi_dc cX9_keep 25 = some (.iconst 0, 1) := by decide +kernel
theorem i_X9_keep_26 : xi_dc cX9_keep 26 = some (.aload_n 0, 1) := by decide +kernel
theorem i_X9_keep_27 : xi_dc cX9_keep 27 = some (.getfield 37, 3) := by decide +kernel
theorem i_X9_keep_30 : xi_dc cX9_keep 30 = some (.bipush 34, 2) := by decide +kernel
theorem i_X9_keep_32 : xi_dc cX9_keep 32 = some (.iload_n 1, 1) := by decide +kernel
theorem i_X9_keep_33 : xi_dc cX9_keep 33 = some (.imul, 1) := by decide +kernel
theorem i_X9_keep_34 : xi_dc cX9_keep 34 = some (.bipush 34, 2) := by decide +kernel
theorem i_X9_keep_36 : xi_dc cX9_keep 36 = some (.invokestatic 121, 3) := by decide +kernel
theorem i_X9_keep_39 : xi_dc cX9_keep 39 = some (.aload_n 0, 1) := by decide +kernel
theorem i_X9_keep_40 : xi_dc cX9_keep 40 = some (.getfield 34, 3) := by decide +kernel
theorem i_X9_keep_43 : xi_dc cX9_keep 43 = some (.iconst 0, 1) := by decide +kernel
theorem i_X9_keep_44 : xi_dc cX9_keep 44 = some (.aload_n 0, 1) := by decide +kernel
theorem i_X9_keep_45 : xi_dc cX9_keep 45 = some (.getfield 40, 3) := by decide +kernel
theorem i_X9_keep_48 : xi_dc cX9_keep 48 = some (.sipush 1360, 3) := by decide +kernel
theorem i_X9_keep_51 : xi_dc cX9_keep 51 = some (.iload_n 1, 1) := by decide +kernel
theorem i_X9_keep_52 : xi_dc cX9_keep 52 = some (.imul, 1) := by decide +kernel
theorem i_X9_keep_53 : xi_dc cX9_keep 53 = some (.sipush 1360, 3) := by decide +kernel
theorem i_X9_keep_56 : xi_dc cX9_keep 56 = some (.invokestatic 121, 3) := by decide +kernel
theorem i_X9_keep_59 : xi_dc cX9_keep 59 = some (.aload_n 0, 1) := by decide +kernel
theorem i_X9_keep_60 : xi_dc cX9_keep 60 = some (.getfield 43, 3) := by decide +kernel
theorem i_X9_keep_63 : xi_dc cX9_keep 63 = some (.iload_n 1, 1) := by decide +kernel
theorem i_X9_keep_64 : xi_dc cX9_keep 64 = some (.aload_n 0, 1) := by decide +kernel
theorem i_X9_keep_65 : xi_dc cX9_keep 65 = some (.getfield 125, 3) := by decide +kernel
theorem i_X9_keep_68 : xi_dc cX9_keep 68 = some (.iastore, 1) := by decide +kernel
theorem i_X9_keep_69 : xi_dc cX9_keep 69 = some (.aload_n 0, 1) := by decide +kernel
theorem i_X9_keep_70 : xi_dc cX9_keep 70 = some (.getfield 125, 3) := by decide +kernel
theorem i_X9_keep_73 : xi_dc cX9_keep 73 = some (.ireturn, 1) := by decide +kernel
def P_X9_keep (S : xi_S) : xi_P := (xi_dc cX9_keep, xi_tab xfl_X9, xi_tab xki_X9, xi_tab xkl_X9, xi_tab xcs_X9, xi_tab xcv_X9, xi_calls [(63, xi_wS 3 (F_X9_in0 S)), (121, xi_wS 5 (F_X9_copies S))], xi_calls [(183, xi_wV S 11 0 (F_X9_isAny S))], 1)
theorem cc_X9_keep_63 (S : xi_S) (a0 : Int32) (a1 : Int32) (a2 : Int32) (m : xi_M) : (P_X9_keep S).2.2.2.2.2.2.1 63 [.int a0, .int a1, .int a2] m = (E_X9_in0 S a0 a1 a2 m) := by
  show xi_calls [(63, xi_wS 3 (F_X9_in0 S)), (121, xi_wS 5 (F_X9_copies S))] 63 [.int a0, .int a1, .int a2] m = _
  refine Eq.trans (b := xi_wS 3 (F_X9_in0 S) [.int a0, .int a1, .int a2] m) (xi_calls_hit rfl) ?_
  exact xi_wS_eq rfl
theorem cc_X9_keep_121 (S : xi_S) (a0 : Nat) (a1 : Int32) (a2 : Nat) (a3 : Int32) (a4 : Int32) (m : xi_M) : (P_X9_keep S).2.2.2.2.2.2.1 121 [.ref a0, .int a1, .ref a2, .int a3, .int a4] m = (E_X9_copies S a0 a1 a2 a3 a4 m) := by
  show xi_calls [(63, xi_wS 3 (F_X9_in0 S)), (121, xi_wS 5 (F_X9_copies S))] 121 [.ref a0, .int a1, .ref a2, .int a3, .int a4] m = _
  refine Eq.trans (b := xi_calls [(121, xi_wS 5 (F_X9_copies S))] 121 [.ref a0, .int a1, .ref a2, .int a3, .int a4] m) (xi_calls_miss rfl) ?_
  refine Eq.trans (b := xi_wS 5 (F_X9_copies S) [.ref a0, .int a1, .ref a2, .int a3, .int a4] m) (xi_calls_hit rfl) ?_
  exact xi_wS_eq rfl
theorem cc_X9_keep_183 (S : xi_S) (a0 : Nat) (m : xi_M) : (P_X9_keep S).2.2.2.2.2.2.2.1 183 [.ref a0] m = (if S.1 a0 = 11 then E_X9_isAny S a0 m else none) := by
  show xi_calls [(183, xi_wV S 11 0 (F_X9_isAny S))] 183 [.ref a0] m = _
  refine Eq.trans (b := xi_wV S 11 0 (F_X9_isAny S) [.ref a0] m) (xi_calls_hit rfl) ?_
  exact xi_wV_eq rfl
def E_X9_keep (S : xi_S) (v0 : Nat) (v1 : Int32) (m : xi_M) : Option xi_R :=
  xi_bI (E_X9_in0 S v1 (Int32.ofInt 0) (Int32.ofInt 2) m) fun x2 m1 =>
  if x2 = 0 then
    some (some (.int (Int32.ofInt (-1))), m1)
  else
    xi_bI (if S.1 v0 = 11 then E_X9_isAny S v0 m1 else none) fun x4 m3 =>
    if x4 = 0 then
      some (some (.int ((Int8.ofInt (-4)).toInt32)), m3)
    else
      if S.1 v0 = 11 then (S.2.2 v0 5).bind fun b6 =>
        if S.1 v0 = 11 then (S.2.2 v0 10).bind fun b8 =>
          xi_bV (E_X9_copies S b6 (Int32.ofInt 0) b8 (((Int8.ofInt 34).toInt32) * v1) ((Int8.ofInt 34).toInt32) m3) fun m9 =>
          if S.1 v0 = 11 then (S.2.2 v0 8).bind fun b11 =>
            if S.1 v0 = 11 then (S.2.2 v0 11).bind fun b13 =>
              xi_bV (E_X9_copies S b11 (Int32.ofInt 0) b13 (((Int16.ofInt 1360).toInt32) * v1) ((Int16.ofInt 1360).toInt32) m9) fun m14 =>
              if S.1 v0 = 11 then (S.2.2 v0 12).bind fun b16 =>
                if S.1 v0 = 11 then
                  if S.1 b16 = 0 ∧ ¬ (v1 < 0 ∨ S.2.1 b16 ≤ Int32.toNatClampNeg v1) then
                    if S.1 v0 = 11 then
                      some (some (.int ((xi_wI m14 b16 (Int32.toNatClampNeg v1) (m14.1 v0 9)).1 v0 9)), (xi_wI m14 b16 (Int32.toNatClampNeg v1) (m14.1 v0 9)))
                    else none
                  else none
                else none
              else none
            else none
          else none
        else none
      else none
def F_X9_keep (S : xi_S) : xi_F := fun As m => match As with
  | [.ref v0, .int v1] => E_X9_keep S v0 v1 m
  | _ => none
set_option maxRecDepth 100000 in
set_option maxHeartbeats 4000000 in
theorem xe_X9_keep {S : xi_S} {res : xi_R} (v0 : Nat) (v1 : Int32) (m : xi_M) (h : E_X9_keep S v0 v1 m = some res) : xi_X S (P_X9_keep S) (0, [some (.ref v0), some (.int v1)], [], m) res := by
  unfold E_X9_keep at h
  refine xr_iload_n i_X9_keep_0 rfl (q := 1) rfl ?_
  refine xr_iconst i_X9_keep_1 (q := 2) rfl ?_
  refine xr_iconst i_X9_keep_2 (q := 3) rfl ?_
  obtain ⟨x2, m1, em1, h⟩ := xi_bI_some h
  refine xr_SI i_X9_keep_3 xcse_X9_63 rfl (As := [.int v1, .int (Int32.ofInt 0), .int (Int32.ofInt 2)]) rfl (rest := []) rfl ((cc_X9_keep_63 S _ _ _ _).trans em1) (q := 6) rfl ?_
  by_cases c21 : x2 = 0
  · replace h := (if_pos c21).symm.trans h
    refine xr_ifCond_ne_p i_X9_keep_6 c21 (q := 11) t_X9_keep_6 (q2 := 9) rfl ?_
    refine xr_iconst i_X9_keep_9 (q := 10) rfl ?_
    exact xr_ireturn i_X9_keep_10 rfl h
  · replace h := (if_neg c21).symm.trans h
    refine xr_ifCond_ne_n i_X9_keep_6 c21 (q := 11) t_X9_keep_6 (q2 := 9) rfl ?_
    refine xr_aload_n i_X9_keep_11 rfl (q := 12) rfl ?_
    obtain ⟨x4, m3, em3, h⟩ := xi_bI_some h
    refine xr_VI i_X9_keep_12 xcve_X9_183 rfl (As := [.ref v0]) rfl (rest := []) rfl ((cc_X9_keep_183 S _ _).trans em3) (q := 15) rfl ?_
    by_cases c20 : x4 = 0
    · replace h := (if_pos c20).symm.trans h
      refine xr_ifCond_ne_p i_X9_keep_15 c20 (q := 21) t_X9_keep_15 (q2 := 18) rfl ?_
      refine xr_bipush i_X9_keep_18 (q := 20) rfl ?_
      exact xr_ireturn i_X9_keep_20 rfl h
    · replace h := (if_neg c20).symm.trans h
      refine xr_ifCond_ne_n i_X9_keep_15 c20 (q := 21) t_X9_keep_15 (q2 := 18) rfl ?_
      refine xr_aload_n i_X9_keep_21 rfl (q := 22) rfl ?_
      obtain ⟨c5, h⟩ := xi_if_some h
      obtain ⟨b6, eb6, h⟩ := xi_bind_some h
      refine xr_getR i_X9_keep_22 xfe_X9_25 c5 eb6 (q := 25) rfl ?_
      refine xr_iconst i_X9_keep_25 (q := 26) rfl ?_
      refine xr_aload_n i_X9_keep_26 rfl (q := 27) rfl ?_
      obtain ⟨c7, h⟩ := xi_if_some h
      obtain ⟨b8, eb8, h⟩ := xi_bind_some h
      refine xr_getR i_X9_keep_27 xfe_X9_37 c7 eb8 (q := 30) rfl ?_
      refine xr_bipush i_X9_keep_30 (q := 32) rfl ?_
      refine xr_iload_n i_X9_keep_32 rfl (q := 33) rfl ?_
      refine xr_imul i_X9_keep_33 (q := 34) rfl ?_
      refine xr_bipush i_X9_keep_34 (q := 36) rfl ?_
      obtain ⟨m9, em9, h⟩ := xi_bV_some h
      refine xr_SV i_X9_keep_36 xcse_X9_121 rfl (As := [.ref b6, .int (Int32.ofInt 0), .ref b8, .int (((Int8.ofInt 34).toInt32) * v1), .int ((Int8.ofInt 34).toInt32)]) rfl (rest := []) rfl ((cc_X9_keep_121 S _ _ _ _ _ _).trans em9) (q := 39) rfl ?_
      refine xr_aload_n i_X9_keep_39 rfl (q := 40) rfl ?_
      obtain ⟨c10, h⟩ := xi_if_some h
      obtain ⟨b11, eb11, h⟩ := xi_bind_some h
      refine xr_getR i_X9_keep_40 xfe_X9_34 c10 eb11 (q := 43) rfl ?_
      refine xr_iconst i_X9_keep_43 (q := 44) rfl ?_
      refine xr_aload_n i_X9_keep_44 rfl (q := 45) rfl ?_
      obtain ⟨c12, h⟩ := xi_if_some h
      obtain ⟨b13, eb13, h⟩ := xi_bind_some h
      refine xr_getR i_X9_keep_45 xfe_X9_40 c12 eb13 (q := 48) rfl ?_
      refine xr_sipush i_X9_keep_48 (q := 51) rfl ?_
      refine xr_iload_n i_X9_keep_51 rfl (q := 52) rfl ?_
      refine xr_imul i_X9_keep_52 (q := 53) rfl ?_
      refine xr_sipush i_X9_keep_53 (q := 56) rfl ?_
      obtain ⟨m14, em14, h⟩ := xi_bV_some h
      refine xr_SV i_X9_keep_56 xcse_X9_121 rfl (As := [.ref b11, .int (Int32.ofInt 0), .ref b13, .int (((Int16.ofInt 1360).toInt32) * v1), .int ((Int16.ofInt 1360).toInt32)]) rfl (rest := []) rfl ((cc_X9_keep_121 S _ _ _ _ _ _).trans em14) (q := 59) rfl ?_
      refine xr_aload_n i_X9_keep_59 rfl (q := 60) rfl ?_
      obtain ⟨c15, h⟩ := xi_if_some h
      obtain ⟨b16, eb16, h⟩ := xi_bind_some h
      refine xr_getR i_X9_keep_60 xfe_X9_43 c15 eb16 (q := 63) rfl ?_
      refine xr_iload_n i_X9_keep_63 rfl (q := 64) rfl ?_
      refine xr_aload_n i_X9_keep_64 rfl (q := 65) rfl ?_
      obtain ⟨c17, h⟩ := xi_if_some h
      refine xr_getI i_X9_keep_65 xfe_X9_125 c17 (q := 68) rfl ?_
      obtain ⟨c18, h⟩ := xi_if_some h
      refine xr_iastore i_X9_keep_68 c18 (q := 69) rfl ?_
      refine xr_aload_n i_X9_keep_69 rfl (q := 70) rfl ?_
      obtain ⟨c19, h⟩ := xi_if_some h
      refine xr_getI i_X9_keep_70 xfe_X9_125 c19 (q := 73) rfl ?_
      exact xr_ireturn i_X9_keep_73 rfl h
set_option maxRecDepth 100000 in
theorem po_X9_keep {l : Launch} {E : xi_E} {S : xi_S} {D : va_G} {tys : List (ClassId × FieldType)} (hC : xCx E S tys) : xi_Pok l E S D vwCl tys xNs RX9 xTs cX9_keep 2 1 (P_X9_keep S) := ⟨xi_dc_ok, by rw [hC.2]; exact xfo_X9, xkio_X9, xklo_X9, xi_calls_ok (ins := .invokestatic) (List.forall_mem_cons.mpr ⟨(xc_X9_63 (sn_X9_in0 hC) (by decide)), List.forall_mem_cons.mpr ⟨(xc_X9_121 (sn_X9_copies hC) (by decide)), fun _ h => absurd h List.not_mem_nil⟩⟩), xi_calls_ok (ins := .invokevirtual) (List.forall_mem_cons.mpr ⟨(xc_X9_183 hC.1 (sn_X9_isAny hC) (by decide)), fun _ h => absurd h List.not_mem_nil⟩)⟩
theorem sn_X9_keep {l : Launch} {E : xi_E} {S : xi_S} {D : va_G} {tys : List (ClassId × FieldType)} (hC : xCx E S tys) : ∀ As m1 r m2, F_X9_keep S As m1 = some (r, m2) → xi_Sound l E S D vwCl tys xNs xTs yX9_keep cX9_keep 2 (some .int) 1 As m1 r m2 := by
  intro As m1 r m2 h
  unfold F_X9_keep at h
  split at h
  · exact xi_meth (P := P_X9_keep S) (by decide) hC.1 (po_X9_keep hC) (Nat.le_of_ble_eq_true rfl) rfl (xe_X9_keep _ _ _ h)
  · exact xi_no h
