theorem i_X9_on_0 : xi_dc cX9_on 0 = some (.iload_n 1, 1) := by decide +kernel
theorem i_X9_on_1 : xi_dc cX9_on 1 = some (.iconst 0, 1) := by decide +kernel
theorem i_X9_on_2 : xi_dc cX9_on 2 = some (.iconst 2, 1) := by decide +kernel
theorem i_X9_on_3 : xi_dc cX9_on 3 = some (.invokestatic 63, 3) := by decide +kernel
theorem i_X9_on_6 : xi_dc cX9_on 6 = some (.ifCond .ne 5, 3) := by decide +kernel
theorem t_X9_on_6 : ((6 : Nat) : Int) + 5 = ((11 : Nat) : Int) := by decide +kernel
theorem i_X9_on_9 : xi_dc cX9_on 9 = some (.iconst (-1), 1) := by decide +kernel
theorem i_X9_on_10 : xi_dc cX9_on 10 = some (.ireturn, 1) := by decide +kernel
theorem i_X9_on_11 : xi_dc cX9_on 11 = some (.aload_n 0, 1) := by decide +kernel
theorem i_X9_on_12 : xi_dc cX9_on 12 = some (.getfield 43, 3) := by decide +kernel
theorem i_X9_on_15 : xi_dc cX9_on 15 = some (.iload_n 1, 1) := by decide +kernel
theorem i_X9_on_16 : xi_dc cX9_on 16 = some (.iaload, 1) := by decide +kernel
theorem i_X9_on_17 : xi_dc cX9_on 17 = some (.bipush (-9), 2) := by decide +kernel
theorem i_X9_on_19 : xi_dc cX9_on 19 = some (.if_icmp .ne 9, 3) := by decide +kernel
theorem t_X9_on_19 : ((19 : Nat) : Int) + 9 = ((28 : Nat) : Int) := by decide +kernel
theorem i_X9_on_22 : xi_dc cX9_on 22 = some (.aload_n 0, 1) := by decide +kernel
theorem i_X9_on_23 : xi_dc cX9_on 23 = some (.iconst 1, 1) := by decide +kernel
theorem i_X9_on_24 : xi_dc cX9_on 24 = some (.invokevirtual 71, 3) := by decide +kernel
theorem i_X9_on_27 : xi_dc cX9_on 27 = some (.ireturn, 1) := by decide +kernel
theorem i_X9_on_28 : xi_dc cX9_on 28 = some (.aload_n 0, 1) := by decide +kernel
theorem i_X9_on_29 : xi_dc cX9_on 29 = some (.getfield 37, 3) := by decide +kernel
theorem i_X9_on_32 : xi_dc cX9_on 32 = some (.bipush 34, 2) := by decide +kernel
theorem i_X9_on_34 : xi_dc cX9_on 34 = some (.iload_n 1, 1) := by decide +kernel
theorem i_X9_on_35 : xi_dc cX9_on 35 = some (.imul, 1) := by decide +kernel
theorem i_X9_on_36 : xi_dc cX9_on 36 = some (.aload_n 0, 1) := by decide +kernel
theorem i_X9_on_37 : xi_dc cX9_on 37 = some (.getfield 25, 3) := by decide +kernel
theorem i_X9_on_40 : xi_dc cX9_on 40 = some (.iconst 0, 1) := by decide +kernel
theorem i_X9_on_41 : xi_dc cX9_on 41 = some (.bipush 34, 2) := by decide +kernel
theorem i_X9_on_43 : xi_dc cX9_on 43 = some (.invokestatic 121, 3) := by decide +kernel
theorem i_X9_on_46 : xi_dc cX9_on 46 = some (.aload_n 0, 1) := by decide +kernel
theorem i_X9_on_47 : xi_dc cX9_on 47 = some (.getfield 40, 3) := by decide +kernel
theorem i_X9_on_50 : xi_dc cX9_on 50 = some (.sipush 1360, 3) := by decide +kernel
theorem i_X9_on_53 : xi_dc cX9_on 53 = some (.iload_n 1, 1) := by decide +kernel
theorem i_X9_on_54 : xi_dc cX9_on 54 = some (.imul, 1) := by decide +kernel
theorem i_X9_on_55 : xi_dc cX9_on 55 = some (.aload_n 0, 1) := by decide +kernel
theorem i_X9_on_56 : xi_dc cX9_on 56 = some (.getfield 34, 3) := by decide +kernel
theorem i_X9_on_59 : xi_dc cX9_on 59 = some (.iconst 0, 1) := by decide +kernel
theorem i_X9_on_60 : xi_dc cX9_on 60 = some (.sipush 1360, 3) := by decide +kernel
theorem i_X9_on_63 : xi_dc cX9_on 63 = some (.invokestatic 121, 3) := by decide +kernel
theorem i_X9_on_66 : xi_dc cX9_on 66 = some (.aload_n 0, 1) := by decide +kernel
theorem i_X9_on_67 : xi_dc cX9_on 67 = some (.aload_n 0, 1) := by decide +kernel
theorem i_X9_on_68 : xi_dc cX9_on 68 = some (.getfield 43, 3) := by decide +kernel
theorem i_X9_on_71 : xi_dc cX9_on 71 = some (.iload_n 1, 1) := by decide +kernel
theorem i_X9_on_72 : xi_dc cX9_on 72 = some (.iaload, 1) := by decide +kernel
theorem i_X9_on_73 : xi_dc cX9_on 73 = some (.putfield 125, 3) := by decide +kernel
theorem i_X9_on_76 : xi_dc cX9_on 76 = some (.aload_n 0, 1) := by decide +kernel
theorem i_X9_on_77 : xi_dc cX9_on 77 = some (.getfield 125, 3) := by decide +kernel
theorem i_X9_on_80 : xi_dc cX9_on 80 = some (.ireturn, 1) := by decide +kernel
def P_X9_on (S : xi_S) : xi_P := (xi_dc cX9_on, xi_tab xfl_X9, xi_tab xki_X9, xi_tab xkl_X9, xi_tab xcs_X9, xi_tab xcv_X9, xi_calls [(63, xi_wS 3 (F_X9_in0 S)), (121, xi_wS 5 (F_X9_copies S))], xi_calls [(71, xi_wV S 11 1 (F_X9_found S))], 1)
theorem cc_X9_on_63 (S : xi_S) (a0 : Int32) (a1 : Int32) (a2 : Int32) (m : xi_M) : (P_X9_on S).2.2.2.2.2.2.1 63 [.int a0, .int a1, .int a2] m = (E_X9_in0 S a0 a1 a2 m) := by
  show xi_calls [(63, xi_wS 3 (F_X9_in0 S)), (121, xi_wS 5 (F_X9_copies S))] 63 [.int a0, .int a1, .int a2] m = _
  refine Eq.trans (b := xi_wS 3 (F_X9_in0 S) [.int a0, .int a1, .int a2] m) (xi_calls_hit rfl) ?_
  exact xi_wS_eq rfl
theorem cc_X9_on_121 (S : xi_S) (a0 : Nat) (a1 : Int32) (a2 : Nat) (a3 : Int32) (a4 : Int32) (m : xi_M) : (P_X9_on S).2.2.2.2.2.2.1 121 [.ref a0, .int a1, .ref a2, .int a3, .int a4] m = (E_X9_copies S a0 a1 a2 a3 a4 m) := by
  show xi_calls [(63, xi_wS 3 (F_X9_in0 S)), (121, xi_wS 5 (F_X9_copies S))] 121 [.ref a0, .int a1, .ref a2, .int a3, .int a4] m = _
  refine Eq.trans (b := xi_calls [(121, xi_wS 5 (F_X9_copies S))] 121 [.ref a0, .int a1, .ref a2, .int a3, .int a4] m) (xi_calls_miss rfl) ?_
  refine Eq.trans (b := xi_wS 5 (F_X9_copies S) [.ref a0, .int a1, .ref a2, .int a3, .int a4] m) (xi_calls_hit rfl) ?_
  exact xi_wS_eq rfl
theorem cc_X9_on_71 (S : xi_S) (a0 : Nat) (a1 : Int32) (m : xi_M) : (P_X9_on S).2.2.2.2.2.2.2.1 71 [.ref a0, .int a1] m = (if S.1 a0 = 11 then E_X9_found S a0 a1 m else none) := by
  show xi_calls [(71, xi_wV S 11 1 (F_X9_found S))] 71 [.ref a0, .int a1] m = _
  refine Eq.trans (b := xi_wV S 11 1 (F_X9_found S) [.ref a0, .int a1] m) (xi_calls_hit rfl) ?_
  exact xi_wV_eq rfl
def E_X9_on (S : xi_S) (v0 : Nat) (v1 : Int32) (m : xi_M) : Option xi_R :=
  xi_bI (E_X9_in0 S v1 (Int32.ofInt 0) (Int32.ofInt 2) m) fun x2 m1 =>
  if x2 = 0 then
    some (some (.int (Int32.ofInt (-1))), m1)
  else
    if S.1 v0 = 11 then (S.2.2 v0 12).bind fun b4 =>
      if S.1 b4 = 0 ∧ ¬ (v1 < 0 ∨ S.2.1 b4 ≤ Int32.toNatClampNeg v1) then
        if (m1.1 b4 (Int32.toNatClampNeg v1)) = ((Int8.ofInt (-9)).toInt32) then
          xi_bI (if S.1 v0 = 11 then E_X9_found S v0 (Int32.ofInt 1) m1 else none) fun x22 m21 =>
          some (some (.int x22), m21)
        else
          if S.1 v0 = 11 then (S.2.2 v0 10).bind fun b7 =>
            if S.1 v0 = 11 then (S.2.2 v0 5).bind fun b9 =>
              xi_bV (E_X9_copies S b7 (((Int8.ofInt 34).toInt32) * v1) b9 (Int32.ofInt 0) ((Int8.ofInt 34).toInt32) m1) fun m10 =>
              if S.1 v0 = 11 then (S.2.2 v0 11).bind fun b12 =>
                if S.1 v0 = 11 then (S.2.2 v0 8).bind fun b14 =>
                  xi_bV (E_X9_copies S b12 (((Int16.ofInt 1360).toInt32) * v1) b14 (Int32.ofInt 0) ((Int16.ofInt 1360).toInt32) m10) fun m15 =>
                  if S.1 v0 = 11 then (S.2.2 v0 12).bind fun b17 =>
                    if S.1 b17 = 0 ∧ ¬ (v1 < 0 ∨ S.2.1 b17 ≤ Int32.toNatClampNeg v1) then
                      if S.1 v0 = 11 then
                        if S.1 v0 = 11 then
                          some (some (.int ((xi_wI m15 v0 9 (m15.1 b17 (Int32.toNatClampNeg v1))).1 v0 9)), (xi_wI m15 v0 9 (m15.1 b17 (Int32.toNatClampNeg v1))))
                        else none
                      else none
                    else none
                  else none
                else none
              else none
            else none
          else none
      else none
    else none
def F_X9_on (S : xi_S) : xi_F := fun As m => match As with
  | [.ref v0, .int v1] => E_X9_on S v0 v1 m
  | _ => none
set_option maxRecDepth 100000 in
set_option maxHeartbeats 4000000 in
theorem xe_X9_on {S : xi_S} {res : xi_R} (v0 : Nat) (v1 : Int32) (m : xi_M) (h : E_X9_on S v0 v1 m = some res) : xi_X S (P_X9_on S) (0, [some (.ref v0), some (.int v1)], [], m) res := by
  unfold E_X9_on at h
  refine xr_iload_n i_X9_on_0 rfl (q := 1) rfl ?_
  refine xr_iconst i_X9_on_1 (q := 2) rfl ?_
  refine xr_iconst i_X9_on_2 (q := 3) rfl ?_
  obtain ⟨x2, m1, em1, h⟩ := xi_bI_some h
  refine xr_SI i_X9_on_3 xcse_X9_63 rfl (As := [.int v1, .int (Int32.ofInt 0), .int (Int32.ofInt 2)]) rfl (rest := []) rfl ((cc_X9_on_63 S _ _ _ _).trans em1) (q := 6) rfl ?_
  by_cases c24 : x2 = 0
  · replace h := (if_pos c24).symm.trans h
    refine xr_ifCond_ne_p i_X9_on_6 c24 (q := 11) t_X9_on_6 (q2 := 9) rfl ?_
    refine xr_iconst i_X9_on_9 (q := 10) rfl ?_
    exact xr_ireturn i_X9_on_10 rfl h
  · replace h := (if_neg c24).symm.trans h
    refine xr_ifCond_ne_n i_X9_on_6 c24 (q := 11) t_X9_on_6 (q2 := 9) rfl ?_
    refine xr_aload_n i_X9_on_11 rfl (q := 12) rfl ?_
    obtain ⟨c3, h⟩ := xi_if_some h
    obtain ⟨b4, eb4, h⟩ := xi_bind_some h
    refine xr_getR i_X9_on_12 xfe_X9_43 c3 eb4 (q := 15) rfl ?_
    refine xr_iload_n i_X9_on_15 rfl (q := 16) rfl ?_
    obtain ⟨c5, h⟩ := xi_if_some h
    refine xr_iaload i_X9_on_16 c5 (q := 17) rfl ?_
    refine xr_bipush i_X9_on_17 (q := 19) rfl ?_
    by_cases c23 : (m1.1 b4 (Int32.toNatClampNeg v1)) = ((Int8.ofInt (-9)).toInt32)
    · replace h := (if_pos c23).symm.trans h
      refine xr_if_icmp_ne_p i_X9_on_19 c23 (q := 28) t_X9_on_19 (q2 := 22) rfl ?_
      refine xr_aload_n i_X9_on_22 rfl (q := 23) rfl ?_
      refine xr_iconst i_X9_on_23 (q := 24) rfl ?_
      obtain ⟨x22, m21, em21, h⟩ := xi_bI_some h
      refine xr_VI i_X9_on_24 xcve_X9_71 rfl (As := [.ref v0, .int (Int32.ofInt 1)]) rfl (rest := []) rfl ((cc_X9_on_71 S _ _ _).trans em21) (q := 27) rfl ?_
      exact xr_ireturn i_X9_on_27 rfl h
    · replace h := (if_neg c23).symm.trans h
      refine xr_if_icmp_ne_n i_X9_on_19 c23 (q := 28) t_X9_on_19 (q2 := 22) rfl ?_
      refine xr_aload_n i_X9_on_28 rfl (q := 29) rfl ?_
      obtain ⟨c6, h⟩ := xi_if_some h
      obtain ⟨b7, eb7, h⟩ := xi_bind_some h
      refine xr_getR i_X9_on_29 xfe_X9_37 c6 eb7 (q := 32) rfl ?_
      refine xr_bipush i_X9_on_32 (q := 34) rfl ?_
      refine xr_iload_n i_X9_on_34 rfl (q := 35) rfl ?_
      refine xr_imul i_X9_on_35 (q := 36) rfl ?_
      refine xr_aload_n i_X9_on_36 rfl (q := 37) rfl ?_
      obtain ⟨c8, h⟩ := xi_if_some h
      obtain ⟨b9, eb9, h⟩ := xi_bind_some h
      refine xr_getR i_X9_on_37 xfe_X9_25 c8 eb9 (q := 40) rfl ?_
      refine xr_iconst i_X9_on_40 (q := 41) rfl ?_
      refine xr_bipush i_X9_on_41 (q := 43) rfl ?_
      obtain ⟨m10, em10, h⟩ := xi_bV_some h
      refine xr_SV i_X9_on_43 xcse_X9_121 rfl (As := [.ref b7, .int (((Int8.ofInt 34).toInt32) * v1), .ref b9, .int (Int32.ofInt 0), .int ((Int8.ofInt 34).toInt32)]) rfl (rest := []) rfl ((cc_X9_on_121 S _ _ _ _ _ _).trans em10) (q := 46) rfl ?_
      refine xr_aload_n i_X9_on_46 rfl (q := 47) rfl ?_
      obtain ⟨c11, h⟩ := xi_if_some h
      obtain ⟨b12, eb12, h⟩ := xi_bind_some h
      refine xr_getR i_X9_on_47 xfe_X9_40 c11 eb12 (q := 50) rfl ?_
      refine xr_sipush i_X9_on_50 (q := 53) rfl ?_
      refine xr_iload_n i_X9_on_53 rfl (q := 54) rfl ?_
      refine xr_imul i_X9_on_54 (q := 55) rfl ?_
      refine xr_aload_n i_X9_on_55 rfl (q := 56) rfl ?_
      obtain ⟨c13, h⟩ := xi_if_some h
      obtain ⟨b14, eb14, h⟩ := xi_bind_some h
      refine xr_getR i_X9_on_56 xfe_X9_34 c13 eb14 (q := 59) rfl ?_
      refine xr_iconst i_X9_on_59 (q := 60) rfl ?_
      refine xr_sipush i_X9_on_60 (q := 63) rfl ?_
      obtain ⟨m15, em15, h⟩ := xi_bV_some h
      refine xr_SV i_X9_on_63 xcse_X9_121 rfl (As := [.ref b12, .int (((Int16.ofInt 1360).toInt32) * v1), .ref b14, .int (Int32.ofInt 0), .int ((Int16.ofInt 1360).toInt32)]) rfl (rest := []) rfl ((cc_X9_on_121 S _ _ _ _ _ _).trans em15) (q := 66) rfl ?_
      refine xr_aload_n i_X9_on_66 rfl (q := 67) rfl ?_
      refine xr_aload_n i_X9_on_67 rfl (q := 68) rfl ?_
      obtain ⟨c16, h⟩ := xi_if_some h
      obtain ⟨b17, eb17, h⟩ := xi_bind_some h
      refine xr_getR i_X9_on_68 xfe_X9_43 c16 eb17 (q := 71) rfl ?_
      refine xr_iload_n i_X9_on_71 rfl (q := 72) rfl ?_
      obtain ⟨c18, h⟩ := xi_if_some h
      refine xr_iaload i_X9_on_72 c18 (q := 73) rfl ?_
      obtain ⟨c19, h⟩ := xi_if_some h
      refine xr_putI i_X9_on_73 xfe_X9_125 c19 (q := 76) rfl ?_
      refine xr_aload_n i_X9_on_76 rfl (q := 77) rfl ?_
      obtain ⟨c20, h⟩ := xi_if_some h
      refine xr_getI i_X9_on_77 xfe_X9_125 c20 (q := 80) rfl ?_
      exact xr_ireturn i_X9_on_80 rfl h
set_option maxRecDepth 100000 in
theorem po_X9_on {l : Launch} {E : xi_E} {S : xi_S} {D : va_G} {tys : List (ClassId × FieldType)} (hC : xCx E S tys) : xi_Pok l E S D vwCl tys xNs RX9 xTs cX9_on 2 1 (P_X9_on S) := ⟨xi_dc_ok, by rw [hC.2]; exact xfo_X9, xkio_X9, xklo_X9, xi_calls_ok (ins := .invokestatic) (List.forall_mem_cons.mpr ⟨(xc_X9_63 (sn_X9_in0 hC) (by decide)), List.forall_mem_cons.mpr ⟨(xc_X9_121 (sn_X9_copies hC) (by decide)), fun _ h => absurd h List.not_mem_nil⟩⟩), xi_calls_ok (ins := .invokevirtual) (List.forall_mem_cons.mpr ⟨(xc_X9_71 hC.1 (sn_X9_found hC) (by decide)), fun _ h => absurd h List.not_mem_nil⟩)⟩
theorem sn_X9_on {l : Launch} {E : xi_E} {S : xi_S} {D : va_G} {tys : List (ClassId × FieldType)} (hC : xCx E S tys) : ∀ As m1 r m2, F_X9_on S As m1 = some (r, m2) → xi_Sound l E S D vwCl tys xNs xTs yX9_on cX9_on 2 (some .int) 1 As m1 r m2 := by
  intro As m1 r m2 h
  unfold F_X9_on at h
  split at h
  · exact xi_meth (P := P_X9_on S) (by decide) hC.1 (po_X9_on hC) (Nat.le_of_ble_eq_true rfl) rfl (xe_X9_on _ _ _ h)
  · exact xi_no h
theorem i_X9_lands_0 : xi_dc cX9_lands 0 = some (.aload_n 0, 1) := by decide +kernel
theorem i_X9_lands_1 : xi_dc cX9_lands 1 = some (.iload_n 1, 1) := by decide +kernel
theorem i_X9_lands_2 : xi_dc cX9_lands 2 = some (.invokevirtual 167, 3) := by decide +kernel
theorem i_X9_lands_5 : xi_dc cX9_lands 5 = some (.ifCond .eq 22, 3) := by decide +kernel
theorem t_X9_lands_5 : ((5 : Nat) : Int) + 22 = ((27 : Nat) : Int) := by decide +kernel
theorem i_X9_lands_8 : xi_dc cX9_lands 8 = some (.iload_n 2, 1) := by decide +kernel
theorem i_X9_lands_9 : xi_dc cX9_lands 9 = some (.iconst 0, 1) := by decide +kernel
theorem i_X9_lands_10 : xi_dc cX9_lands 10 = some (.bipush 20, 2) := by decide +kernel
theorem i_X9_lands_12 : xi_dc cX9_lands 12 = some (.invokestatic 63, 3) := by decide +kernel
theorem i_X9_lands_15 : xi_dc cX9_lands 15 = some (.ifCond .eq 12, 3) := by decide +kernel
theorem t_X9_lands_15 : ((15 : Nat) : Int) + 12 = ((27 : Nat) : Int) := by decide +kernel
theorem i_X9_lands_18 : xi_dc cX9_lands 18 = some (.iload_n 3, 1) := by decide +kernel
theorem i_X9_lands_19 : xi_dc cX9_lands 19 = some (.iconst 0, 1) := by decide +kernel
theorem i_X9_lands_20 : xi_dc cX9_lands 20 = some (.iconst 1, 1) := by decide +kernel
theorem i_X9_lands_21 : xi_dc cX9_lands 21 = some (.invokestatic 63, 3) := by decide +kernel
theorem i_X9_lands_24 : xi_dc cX9_lands 24 = some (.ifCond .ne 5, 3) := by decide +kernel
theorem t_X9_lands_24 : ((24 : Nat) : Int) + 5 = ((29 : Nat) : Int) := by decide +kernel
theorem i_X9_lands_27 : xi_dc cX9_lands 27 = some (.iconst (-1), 1) := by decide +kernel
theorem i_X9_lands_28 : xi_dc cX9_lands 28 = some (.ireturn, 1) := by decide +kernel
theorem i_X9_lands_29 : xi_dc cX9_lands 29 = some (.aload_n 0, 1) := by decide +kernel
theorem i_X9_lands_30 : xi_dc cX9_lands 30 = some (.getfield 25, 3) := by decide +kernel
theorem i_X9_lands_33 : xi_dc cX9_lands 33 = some (.bipush 10, 2) := by decide +kernel
theorem i_X9_lands_35 : xi_dc cX9_lands 35 = some (.iconst 4, 1) := by decide +kernel
theorem i_X9_lands_36 : xi_dc cX9_lands 36 = some (.iload_n 1, 1) := by decide +kernel
theorem i_X9_lands_37 : xi_dc cX9_lands 37 = some (.imul, 1) := by decide +kernel
theorem i_X9_lands_38 : xi_dc cX9_lands 38 = some (.iadd, 1) := by decide +kernel
theorem i_X9_lands_39 : xi_dc cX9_lands 39 = some (.iaload, 1) := by decide +kernel
theorem i_X9_lands_40 : xi_dc cX9_lands 40 = some (.aload_n 0, 1) := by decide +kernel
theorem i_X9_lands_41 : xi_dc cX9_lands 41 = some (.getfield 25, 3) := by decide +kernel
theorem i_X9_lands_44 : xi_dc cX9_lands 44 = some (.bipush 10, 2) := by decide +kernel
theorem i_X9_lands_46 : xi_dc cX9_lands 46 = some (.iconst 4, 1) := by decide +kernel
theorem i_X9_lands_47 : xi_dc cX9_lands 47 = some (.iload_n 1, 1) := by decide +kernel
theorem i_X9_lands_48 : xi_dc cX9_lands 48 = some (.imul, 1) := by decide +kernel
theorem i_X9_lands_49 : xi_dc cX9_lands 49 = some (.iadd, 1) := by decide +kernel
theorem i_X9_lands_50 : xi_dc cX9_lands 50 = some (.iconst 3, 1) := by decide +kernel
theorem i_X9_lands_51 : xi_dc cX9_lands 51 = some (.iadd, 1) := by decide +kernel
theorem i_X9_lands_52 : xi_dc cX9_lands 52 = some (.iaload, 1) := by decide +kernel
theorem i_X9_lands_53 : xi_dc cX9_lands 53 = some (.iload_n 2, 1) := by decide +kernel
theorem i_X9_lands_54 : xi_dc cX9_lands 54 = some (.iload_n 3, 1) := by decide +kernel
theorem i_X9_lands_55 : xi_dc cX9_lands 55 = some (.invokestatic 128, 3) := by decide +kernel
theorem i_X9_lands_58 : xi_dc cX9_lands 58 = some (.ireturn, 1) := by decide +kernel
def P_X9_lands (S : xi_S) : xi_P := (xi_dc cX9_lands, xi_tab xfl_X9, xi_tab xki_X9, xi_tab xkl_X9, xi_tab xcs_X9, xi_tab xcv_X9, xi_calls [(63, xi_wS 3 (F_X9_in0 S)), (128, xi_wS 4 (F_X9_landing S))], xi_calls [(167, xi_wV S 11 1 (F_X9_isPlayer S))], 1)
theorem cc_X9_lands_63 (S : xi_S) (a0 : Int32) (a1 : Int32) (a2 : Int32) (m : xi_M) : (P_X9_lands S).2.2.2.2.2.2.1 63 [.int a0, .int a1, .int a2] m = (E_X9_in0 S a0 a1 a2 m) := by
  show xi_calls [(63, xi_wS 3 (F_X9_in0 S)), (128, xi_wS 4 (F_X9_landing S))] 63 [.int a0, .int a1, .int a2] m = _
  refine Eq.trans (b := xi_wS 3 (F_X9_in0 S) [.int a0, .int a1, .int a2] m) (xi_calls_hit rfl) ?_
  exact xi_wS_eq rfl
theorem cc_X9_lands_128 (S : xi_S) (a0 : Int32) (a1 : Int32) (a2 : Int32) (a3 : Int32) (m : xi_M) : (P_X9_lands S).2.2.2.2.2.2.1 128 [.int a0, .int a1, .int a2, .int a3] m = (E_X9_landing S a0 a1 a2 a3 m) := by
  show xi_calls [(63, xi_wS 3 (F_X9_in0 S)), (128, xi_wS 4 (F_X9_landing S))] 128 [.int a0, .int a1, .int a2, .int a3] m = _
  refine Eq.trans (b := xi_calls [(128, xi_wS 4 (F_X9_landing S))] 128 [.int a0, .int a1, .int a2, .int a3] m) (xi_calls_miss rfl) ?_
  refine Eq.trans (b := xi_wS 4 (F_X9_landing S) [.int a0, .int a1, .int a2, .int a3] m) (xi_calls_hit rfl) ?_
  exact xi_wS_eq rfl
theorem cc_X9_lands_167 (S : xi_S) (a0 : Nat) (a1 : Int32) (m : xi_M) : (P_X9_lands S).2.2.2.2.2.2.2.1 167 [.ref a0, .int a1] m = (if S.1 a0 = 11 then E_X9_isPlayer S a0 a1 m else none) := by
  show xi_calls [(167, xi_wV S 11 1 (F_X9_isPlayer S))] 167 [.ref a0, .int a1] m = _
  refine Eq.trans (b := xi_wV S 11 1 (F_X9_isPlayer S) [.ref a0, .int a1] m) (xi_calls_hit rfl) ?_
  exact xi_wV_eq rfl
def E_X9_lands (S : xi_S) (v0 : Nat) (v1 : Int32) (v2 : Int32) (v3 : Int32) (m : xi_M) : Option xi_R :=
  xi_bI (if S.1 v0 = 11 then E_X9_isPlayer S v0 v1 m else none) fun x2 m1 =>
  if x2 = 0 then
    some (some (.int (Int32.ofInt (-1))), m1)
  else
    xi_bI (E_X9_in0 S v2 (Int32.ofInt 0) ((Int8.ofInt 20).toInt32) m1) fun x4 m3 =>
    if x4 = 0 then
      some (some (.int (Int32.ofInt (-1))), m3)
    else
      xi_bI (E_X9_in0 S v3 (Int32.ofInt 0) (Int32.ofInt 1) m3) fun x6 m5 =>
      if x6 = 0 then
        some (some (.int (Int32.ofInt (-1))), m5)
      else
        if S.1 v0 = 11 then (S.2.2 v0 5).bind fun b8 =>
          if S.1 b8 = 0 ∧ ¬ ((((Int8.ofInt 10).toInt32) + ((Int32.ofInt 4) * v1)) < 0 ∨ S.2.1 b8 ≤ Int32.toNatClampNeg (((Int8.ofInt 10).toInt32) + ((Int32.ofInt 4) * v1))) then
            if S.1 v0 = 11 then (S.2.2 v0 5).bind fun b11 =>
              if S.1 b11 = 0 ∧ ¬ (((((Int8.ofInt 10).toInt32) + ((Int32.ofInt 4) * v1)) + (Int32.ofInt 3)) < 0 ∨ S.2.1 b11 ≤ Int32.toNatClampNeg ((((Int8.ofInt 10).toInt32) + ((Int32.ofInt 4) * v1)) + (Int32.ofInt 3))) then
                xi_bI (E_X9_landing S (m5.1 b8 (Int32.toNatClampNeg (((Int8.ofInt 10).toInt32) + ((Int32.ofInt 4) * v1)))) (m5.1 b11 (Int32.toNatClampNeg ((((Int8.ofInt 10).toInt32) + ((Int32.ofInt 4) * v1)) + (Int32.ofInt 3)))) v2 v3 m5) fun x14 m13 =>
                some (some (.int x14), m13)
              else none
            else none
          else none
        else none
def F_X9_lands (S : xi_S) : xi_F := fun As m => match As with
  | [.ref v0, .int v1, .int v2, .int v3] => E_X9_lands S v0 v1 v2 v3 m
  | _ => none
set_option maxRecDepth 100000 in
set_option maxHeartbeats 4000000 in
theorem xe_X9_lands {S : xi_S} {res : xi_R} (v0 : Nat) (v1 : Int32) (v2 : Int32) (v3 : Int32) (m : xi_M) (h : E_X9_lands S v0 v1 v2 v3 m = some res) : xi_X S (P_X9_lands S) (0, [some (.ref v0), some (.int v1), some (.int v2), some (.int v3)], [], m) res := by
  unfold E_X9_lands at h
  refine xr_aload_n i_X9_lands_0 rfl (q := 1) rfl ?_
  refine xr_iload_n i_X9_lands_1 rfl (q := 2) rfl ?_
  obtain ⟨x2, m1, em1, h⟩ := xi_bI_some h
  refine xr_VI i_X9_lands_2 xcve_X9_167 rfl (As := [.ref v0, .int v1]) rfl (rest := []) rfl ((cc_X9_lands_167 S _ _ _).trans em1) (q := 5) rfl ?_
  by_cases c17 : x2 = 0
  · replace h := (if_pos c17).symm.trans h
    refine xr_ifCond_eq_p i_X9_lands_5 c17 (q := 27) t_X9_lands_5 (q2 := 8) rfl ?_
    refine xr_iconst i_X9_lands_27 (q := 28) rfl ?_
    exact xr_ireturn i_X9_lands_28 rfl h
  · replace h := (if_neg c17).symm.trans h
    refine xr_ifCond_eq_n i_X9_lands_5 c17 (q := 27) t_X9_lands_5 (q2 := 8) rfl ?_
    refine xr_iload_n i_X9_lands_8 rfl (q := 9) rfl ?_
    refine xr_iconst i_X9_lands_9 (q := 10) rfl ?_
    refine xr_bipush i_X9_lands_10 (q := 12) rfl ?_
    obtain ⟨x4, m3, em3, h⟩ := xi_bI_some h
    refine xr_SI i_X9_lands_12 xcse_X9_63 rfl (As := [.int v2, .int (Int32.ofInt 0), .int ((Int8.ofInt 20).toInt32)]) rfl (rest := []) rfl ((cc_X9_lands_63 S _ _ _ _).trans em3) (q := 15) rfl ?_
    by_cases c16 : x4 = 0
    · replace h := (if_pos c16).symm.trans h
      refine xr_ifCond_eq_p i_X9_lands_15 c16 (q := 27) t_X9_lands_15 (q2 := 18) rfl ?_
      refine xr_iconst i_X9_lands_27 (q := 28) rfl ?_
      exact xr_ireturn i_X9_lands_28 rfl h
    · replace h := (if_neg c16).symm.trans h
      refine xr_ifCond_eq_n i_X9_lands_15 c16 (q := 27) t_X9_lands_15 (q2 := 18) rfl ?_
      refine xr_iload_n i_X9_lands_18 rfl (q := 19) rfl ?_
      refine xr_iconst i_X9_lands_19 (q := 20) rfl ?_
      refine xr_iconst i_X9_lands_20 (q := 21) rfl ?_
      obtain ⟨x6, m5, em5, h⟩ := xi_bI_some h
      refine xr_SI i_X9_lands_21 xcse_X9_63 rfl (As := [.int v3, .int (Int32.ofInt 0), .int (Int32.ofInt 1)]) rfl (rest := []) rfl ((cc_X9_lands_63 S _ _ _ _).trans em5) (q := 24) rfl ?_
      by_cases c15 : x6 = 0
      · replace h := (if_pos c15).symm.trans h
        refine xr_ifCond_ne_p i_X9_lands_24 c15 (q := 29) t_X9_lands_24 (q2 := 27) rfl ?_
        refine xr_iconst i_X9_lands_27 (q := 28) rfl ?_
        exact xr_ireturn i_X9_lands_28 rfl h
      · replace h := (if_neg c15).symm.trans h
        refine xr_ifCond_ne_n i_X9_lands_24 c15 (q := 29) t_X9_lands_24 (q2 := 27) rfl ?_
        refine xr_aload_n i_X9_lands_29 rfl (q := 30) rfl ?_
        obtain ⟨c7, h⟩ := xi_if_some h
        obtain ⟨b8, eb8, h⟩ := xi_bind_some h
        refine xr_getR i_X9_lands_30 xfe_X9_25 c7 eb8 (q := 33) rfl ?_
        refine xr_bipush i_X9_lands_33 (q := 35) rfl ?_
        refine xr_iconst i_X9_lands_35 (q := 36) rfl ?_
        refine xr_iload_n i_X9_lands_36 rfl (q := 37) rfl ?_
        refine xr_imul i_X9_lands_37 (q := 38) rfl ?_
        refine xr_iadd i_X9_lands_38 (q := 39) rfl ?_
        obtain ⟨c9, h⟩ := xi_if_some h
        refine xr_iaload i_X9_lands_39 c9 (q := 40) rfl ?_
        refine xr_aload_n i_X9_lands_40 rfl (q := 41) rfl ?_
        obtain ⟨c10, h⟩ := xi_if_some h
        obtain ⟨b11, eb11, h⟩ := xi_bind_some h
        refine xr_getR i_X9_lands_41 xfe_X9_25 c10 eb11 (q := 44) rfl ?_
        refine xr_bipush i_X9_lands_44 (q := 46) rfl ?_
        refine xr_iconst i_X9_lands_46 (q := 47) rfl ?_
        refine xr_iload_n i_X9_lands_47 rfl (q := 48) rfl ?_
        refine xr_imul i_X9_lands_48 (q := 49) rfl ?_
        refine xr_iadd i_X9_lands_49 (q := 50) rfl ?_
        refine xr_iconst i_X9_lands_50 (q := 51) rfl ?_
        refine xr_iadd i_X9_lands_51 (q := 52) rfl ?_
        obtain ⟨c12, h⟩ := xi_if_some h
        refine xr_iaload i_X9_lands_52 c12 (q := 53) rfl ?_
        refine xr_iload_n i_X9_lands_53 rfl (q := 54) rfl ?_
        refine xr_iload_n i_X9_lands_54 rfl (q := 55) rfl ?_
        obtain ⟨x14, m13, em13, h⟩ := xi_bI_some h
        refine xr_SI i_X9_lands_55 xcse_X9_128 rfl (As := [.int (m5.1 b8 (Int32.toNatClampNeg (((Int8.ofInt 10).toInt32) + ((Int32.ofInt 4) * v1)))), .int (m5.1 b11 (Int32.toNatClampNeg ((((Int8.ofInt 10).toInt32) + ((Int32.ofInt 4) * v1)) + (Int32.ofInt 3)))), .int v2, .int v3]) rfl (rest := []) rfl ((cc_X9_lands_128 S _ _ _ _ _).trans em13) (q := 58) rfl ?_
        exact xr_ireturn i_X9_lands_58 rfl h
set_option maxRecDepth 100000 in
theorem po_X9_lands {l : Launch} {E : xi_E} {S : xi_S} {D : va_G} {tys : List (ClassId × FieldType)} (hC : xCx E S tys) : xi_Pok l E S D vwCl tys xNs RX9 xTs cX9_lands 4 2 (P_X9_lands S) := ⟨xi_dc_ok, by rw [hC.2]; exact xfo_X9, xkio_X9, xklo_X9, xi_calls_ok (ins := .invokestatic) (List.forall_mem_cons.mpr ⟨(xc_X9_63 (sn_X9_in0 hC) (by decide)), List.forall_mem_cons.mpr ⟨(xc_X9_128 (sn_X9_landing hC) (by decide)), fun _ h => absurd h List.not_mem_nil⟩⟩), xi_calls_ok (ins := .invokevirtual) (List.forall_mem_cons.mpr ⟨(xc_X9_167 hC.1 (sn_X9_isPlayer hC) (by decide)), fun _ h => absurd h List.not_mem_nil⟩)⟩
theorem sn_X9_lands {l : Launch} {E : xi_E} {S : xi_S} {D : va_G} {tys : List (ClassId × FieldType)} (hC : xCx E S tys) : ∀ As m1 r m2, F_X9_lands S As m1 = some (r, m2) → xi_Sound l E S D vwCl tys xNs xTs yX9_lands cX9_lands 4 (some .int) 2 As m1 r m2 := by
  intro As m1 r m2 h
  unfold F_X9_lands at h
  split at h
  · exact xi_meth (P := P_X9_lands S) (by decide) hC.1 (po_X9_lands hC) (Nat.le_of_ble_eq_true rfl) rfl (xe_X9_lands _ _ _ _ _ h)
  · exact xi_no h
theorem i_X9_in_0 : xi_dc cX9_in 0 = some (.iload_n 1, 1) := by decide +kernel
theorem i_X9_in_1 : xi_dc cX9_in 1 = some (.iconst 0, 1) := by decide +kernel
theorem i_X9_in_2 : xi_dc cX9_in 2 = some (.iconst 1, 1) := by decide +kernel
theorem i_X9_in_3 : xi_dc cX9_in 3 = some (.invokestatic 63, 3) := by decide +kernel
theorem i_X9_in_6 : xi_dc cX9_in 6 = some (.ifCond .eq 13, 3) := by decide +kernel
theorem t_X9_in_6 : ((6 : Nat) : Int) + 13 = ((19 : Nat) : Int) := by decide +kernel
theorem i_X9_in_9 : xi_dc cX9_in 9 = some (.iload_n 2, 1) := by decide +kernel
theorem i_X9_in_10 : xi_dc cX9_in 10 = some (.iconst 0, 1) := by decide +kernel
theorem i_X9_in_11 : xi_dc cX9_in 11 = some (.bipush 20, 2) := by decide +kernel
theorem i_X9_in_13 : xi_dc cX9_in 13 = some (.invokestatic 63, 3) := by decide +kernel
theorem i_X9_in_16 : xi_dc cX9_in 16 = some (.ifCond .ne 5, 3) := by decide +kernel
theorem t_X9_in_16 : ((16 : Nat) : Int) + 5 = ((21 : Nat) : Int) := by decide +kernel
theorem i_X9_in_19 : xi_dc cX9_in 19 = some (.iconst (-1), 1) := by decide +kernel
theorem i_X9_in_20 : xi_dc cX9_in 20 = some (.ireturn, 1) := by decide +kernel
theorem i_X9_in_21 : xi_dc cX9_in 21 = some (.aload_n 0, 1) := by decide +kernel
theorem i_X9_in_22 : xi_dc cX9_in 22 = some (.invokevirtual 183, 3) := by decide +kernel
theorem i_X9_in_25 : xi_dc cX9_in 25 = some (.ifCond .ne 8, 3) := by decide +kernel
theorem t_X9_in_25 : ((25 : Nat) : Int) + 8 = ((33 : Nat) : Int) := by decide +kernel
theorem i_X9_in_28 : xi_dc cX9_in 28 = some (.bipush (-4), 2) := by decide +kernel
theorem i_X9_in_30 : xi_dc cX9_in 30 = some (.goto 20, 3) := by decide +kernel
theorem t_X9_in_30 : ((30 : Nat) : Int) + 20 = ((50 : Nat) : Int) := by decide +kernel
theorem i_X9_in_33 : xi_dc cX9_in 33 = some (.aload_n 0, 1) := by decide +kernel
theorem i_X9_in_34 : xi_dc cX9_in 34 = some (.getfield 25, 3) := by decide +kernel
theorem i_X9_in_37 : xi_dc cX9_in 37 = some (.iload_n 1, 1) := by decide +kernel
theorem i_X9_in_38 : xi_dc cX9_in 38 = some (.iload_n 2, 1) := by decide +kernel
theorem i_X9_in_39 : xi_dc cX9_in 39 = some (.invokestatic 157, 3) := by decide +kernel
theorem i_X9_in_42 : xi_dc cX9_in 42 = some (.ifCond .eq 7, 3) := by decide +kernel
theorem t_X9_in_42 : ((42 : Nat) : Int) + 7 = ((49 : Nat) : Int) := by decide +kernel
theorem i_X9_in_45 : xi_dc cX9_in 45 = some (.iconst 1, 1) := by decide +kernel
theorem i_X9_in_46 : xi_dc cX9_in 46 = some (.goto 4, 3) := by decide +kernel
theorem t_X9_in_46 : ((46 : Nat) : Int) + 4 = ((50 : Nat) : Int) := by decide +kernel
theorem i_X9_in_49 : xi_dc cX9_in 49 = some (.iconst 0, 1) := by decide +kernel
theorem i_X9_in_50 : xi_dc cX9_in 50 = some (.ireturn, 1) := by decide +kernel
def P_X9_in (S : xi_S) : xi_P := (xi_dc cX9_in, xi_tab xfl_X9, xi_tab xki_X9, xi_tab xkl_X9, xi_tab xcs_X9, xi_tab xcv_X9, xi_calls [(63, xi_wS 3 (F_X9_in0 S)), (157, xi_wS 3 (F_X9_isIn S))], xi_calls [(183, xi_wV S 11 0 (F_X9_isAny S))], 1)
theorem cc_X9_in_63 (S : xi_S) (a0 : Int32) (a1 : Int32) (a2 : Int32) (m : xi_M) : (P_X9_in S).2.2.2.2.2.2.1 63 [.int a0, .int a1, .int a2] m = (E_X9_in0 S a0 a1 a2 m) := by
  show xi_calls [(63, xi_wS 3 (F_X9_in0 S)), (157, xi_wS 3 (F_X9_isIn S))] 63 [.int a0, .int a1, .int a2] m = _
  refine Eq.trans (b := xi_wS 3 (F_X9_in0 S) [.int a0, .int a1, .int a2] m) (xi_calls_hit rfl) ?_
  exact xi_wS_eq rfl
theorem cc_X9_in_157 (S : xi_S) (a0 : Nat) (a1 : Int32) (a2 : Int32) (m : xi_M) : (P_X9_in S).2.2.2.2.2.2.1 157 [.ref a0, .int a1, .int a2] m = (E_X9_isIn S a0 a1 a2 m) := by
  show xi_calls [(63, xi_wS 3 (F_X9_in0 S)), (157, xi_wS 3 (F_X9_isIn S))] 157 [.ref a0, .int a1, .int a2] m = _
  refine Eq.trans (b := xi_calls [(157, xi_wS 3 (F_X9_isIn S))] 157 [.ref a0, .int a1, .int a2] m) (xi_calls_miss rfl) ?_
  refine Eq.trans (b := xi_wS 3 (F_X9_isIn S) [.ref a0, .int a1, .int a2] m) (xi_calls_hit rfl) ?_
  exact xi_wS_eq rfl
theorem cc_X9_in_183 (S : xi_S) (a0 : Nat) (m : xi_M) : (P_X9_in S).2.2.2.2.2.2.2.1 183 [.ref a0] m = (if S.1 a0 = 11 then E_X9_isAny S a0 m else none) := by
  show xi_calls [(183, xi_wV S 11 0 (F_X9_isAny S))] 183 [.ref a0] m = _
  refine Eq.trans (b := xi_wV S 11 0 (F_X9_isAny S) [.ref a0] m) (xi_calls_hit rfl) ?_
  exact xi_wV_eq rfl
def E_X9_in (S : xi_S) (v0 : Nat) (v1 : Int32) (v2 : Int32) (m : xi_M) : Option xi_R :=
  xi_bI (E_X9_in0 S v1 (Int32.ofInt 0) (Int32.ofInt 1) m) fun x2 m1 =>
  if x2 = 0 then
    some (some (.int (Int32.ofInt (-1))), m1)
  else
    xi_bI (E_X9_in0 S v2 (Int32.ofInt 0) ((Int8.ofInt 20).toInt32) m1) fun x4 m3 =>
    if x4 = 0 then
      some (some (.int (Int32.ofInt (-1))), m3)
    else
      xi_bI (if S.1 v0 = 11 then E_X9_isAny S v0 m3 else none) fun x6 m5 =>
      if x6 = 0 then
        some (some (.int ((Int8.ofInt (-4)).toInt32)), m5)
      else
        if S.1 v0 = 11 then (S.2.2 v0 5).bind fun b8 =>
          xi_bI (E_X9_isIn S b8 v1 v2 m5) fun x10 m9 =>
          if x10 = 0 then
            some (some (.int (Int32.ofInt 0)), m9)
          else
            some (some (.int (Int32.ofInt 1)), m9)
        else none
def F_X9_in (S : xi_S) : xi_F := fun As m => match As with
  | [.ref v0, .int v1, .int v2] => E_X9_in S v0 v1 v2 m
  | _ => none
set_option maxRecDepth 100000 in
set_option maxHeartbeats 4000000 in
theorem xe_X9_in {S : xi_S} {res : xi_R} (v0 : Nat) (v1 : Int32) (v2 : Int32) (m : xi_M) (h : E_X9_in S v0 v1 v2 m = some res) : xi_X S (P_X9_in S) (0, [some (.ref v0), some (.int v1), some (.int v2)], [], m) res := by
  unfold E_X9_in at h
  refine xr_iload_n i_X9_in_0 rfl (q := 1) rfl ?_
  refine xr_iconst i_X9_in_1 (q := 2) rfl ?_
  refine xr_iconst i_X9_in_2 (q := 3) rfl ?_
  obtain ⟨x2, m1, em1, h⟩ := xi_bI_some h
  refine xr_SI i_X9_in_3 xcse_X9_63 rfl (As := [.int v1, .int (Int32.ofInt 0), .int (Int32.ofInt 1)]) rfl (rest := []) rfl ((cc_X9_in_63 S _ _ _ _).trans em1) (q := 6) rfl ?_
  by_cases c14 : x2 = 0
  · replace h := (if_pos c14).symm.trans h
    refine xr_ifCond_eq_p i_X9_in_6 c14 (q := 19) t_X9_in_6 (q2 := 9) rfl ?_
    refine xr_iconst i_X9_in_19 (q := 20) rfl ?_
    exact xr_ireturn i_X9_in_20 rfl h
  · replace h := (if_neg c14).symm.trans h
    refine xr_ifCond_eq_n i_X9_in_6 c14 (q := 19) t_X9_in_6 (q2 := 9) rfl ?_
    refine xr_iload_n i_X9_in_9 rfl (q := 10) rfl ?_
    refine xr_iconst i_X9_in_10 (q := 11) rfl ?_
    refine xr_bipush i_X9_in_11 (q := 13) rfl ?_
    obtain ⟨x4, m3, em3, h⟩ := xi_bI_some h
    refine xr_SI i_X9_in_13 xcse_X9_63 rfl (As := [.int v2, .int (Int32.ofInt 0), .int ((Int8.ofInt 20).toInt32)]) rfl (rest := []) rfl ((cc_X9_in_63 S _ _ _ _).trans em3) (q := 16) rfl ?_
    by_cases c13 : x4 = 0
    · replace h := (if_pos c13).symm.trans h
      refine xr_ifCond_ne_p i_X9_in_16 c13 (q := 21) t_X9_in_16 (q2 := 19) rfl ?_
      refine xr_iconst i_X9_in_19 (q := 20) rfl ?_
      exact xr_ireturn i_X9_in_20 rfl h
    · replace h := (if_neg c13).symm.trans h
      refine xr_ifCond_ne_n i_X9_in_16 c13 (q := 21) t_X9_in_16 (q2 := 19) rfl ?_
      refine xr_aload_n i_X9_in_21 rfl (q := 22) rfl ?_
      obtain ⟨x6, m5, em5, h⟩ := xi_bI_some h
      refine xr_VI i_X9_in_22 xcve_X9_183 rfl (As := [.ref v0]) rfl (rest := []) rfl ((cc_X9_in_183 S _ _).trans em5) (q := 25) rfl ?_
      by_cases c12 : x6 = 0
      · replace h := (if_pos c12).symm.trans h
        refine xr_ifCond_ne_p i_X9_in_25 c12 (q := 33) t_X9_in_25 (q2 := 28) rfl ?_
        refine xr_bipush i_X9_in_28 (q := 30) rfl ?_
        refine xr_goto i_X9_in_30 (q := 50) t_X9_in_30 ?_
        exact xr_ireturn i_X9_in_50 rfl h
      · replace h := (if_neg c12).symm.trans h
        refine xr_ifCond_ne_n i_X9_in_25 c12 (q := 33) t_X9_in_25 (q2 := 28) rfl ?_
        refine xr_aload_n i_X9_in_33 rfl (q := 34) rfl ?_
        obtain ⟨c7, h⟩ := xi_if_some h
        obtain ⟨b8, eb8, h⟩ := xi_bind_some h
        refine xr_getR i_X9_in_34 xfe_X9_25 c7 eb8 (q := 37) rfl ?_
        refine xr_iload_n i_X9_in_37 rfl (q := 38) rfl ?_
        refine xr_iload_n i_X9_in_38 rfl (q := 39) rfl ?_
        obtain ⟨x10, m9, em9, h⟩ := xi_bI_some h
        refine xr_SI i_X9_in_39 xcse_X9_157 rfl (As := [.ref b8, .int v1, .int v2]) rfl (rest := []) rfl ((cc_X9_in_157 S _ _ _ _).trans em9) (q := 42) rfl ?_
        by_cases c11 : x10 = 0
        · replace h := (if_pos c11).symm.trans h
          refine xr_ifCond_eq_p i_X9_in_42 c11 (q := 49) t_X9_in_42 (q2 := 45) rfl ?_
          refine xr_iconst i_X9_in_49 (q := 50) rfl ?_
          exact xr_ireturn i_X9_in_50 rfl h
        · replace h := (if_neg c11).symm.trans h
          refine xr_ifCond_eq_n i_X9_in_42 c11 (q := 49) t_X9_in_42 (q2 := 45) rfl ?_
          refine xr_iconst i_X9_in_45 (q := 46) rfl ?_
          refine xr_goto i_X9_in_46 (q := 50) t_X9_in_46 ?_
          exact xr_ireturn i_X9_in_50 rfl h
set_option maxRecDepth 100000 in
theorem po_X9_in {l : Launch} {E : xi_E} {S : xi_S} {D : va_G} {tys : List (ClassId × FieldType)} (hC : xCx E S tys) : xi_Pok l E S D vwCl tys xNs RX9 xTs cX9_in 3 5 (P_X9_in S) := ⟨xi_dc_ok, by rw [hC.2]; exact xfo_X9, xkio_X9, xklo_X9, xi_calls_ok (ins := .invokestatic) (List.forall_mem_cons.mpr ⟨(xc_X9_63 (sn_X9_in0 hC) (by decide)), List.forall_mem_cons.mpr ⟨(xc_X9_157 (sn_X9_isIn hC) (by decide)), fun _ h => absurd h List.not_mem_nil⟩⟩), xi_calls_ok (ins := .invokevirtual) (List.forall_mem_cons.mpr ⟨(xc_X9_183 hC.1 (sn_X9_isAny hC) (by decide)), fun _ h => absurd h List.not_mem_nil⟩)⟩
theorem sn_X9_in {l : Launch} {E : xi_E} {S : xi_S} {D : va_G} {tys : List (ClassId × FieldType)} (hC : xCx E S tys) : ∀ As m1 r m2, F_X9_in S As m1 = some (r, m2) → xi_Sound l E S D vwCl tys xNs xTs yX9_in cX9_in 3 (some .int) 5 As m1 r m2 := by
  intro As m1 r m2 h
  unfold F_X9_in at h
  split at h
  · exact xi_meth (P := P_X9_in S) (by decide) hC.1 (po_X9_in hC) (Nat.le_of_ble_eq_true rfl) rfl (xe_X9_in _ _ _ _ h)
  · exact xi_no h
theorem i_X9_seen_0 : xi_dc cX9_seen 0 = some (.iload_n 1, 1) := by decide +kernel
theorem i_X9_seen_1 : xi_dc cX9_seen 1 = some (.iconst 0, 1) := by decide +kernel
theorem i_X9_seen_2 : xi_dc cX9_seen 2 = some (.iconst 3, 1) := by decide +kernel
theorem i_X9_seen_3 : xi_dc cX9_seen 3 = some (.invokestatic 63, 3) := by decide +kernel
theorem i_X9_seen_6 : xi_dc cX9_seen 6 = some (.ifCond .ne 5, 3) := by decide +kernel
theorem t_X9_seen_6 : ((6 : Nat) : Int) + 5 = ((11 : Nat) : Int) := by decide +kernel
theorem i_X9_seen_9 : xi_dc cX9_seen 9 = some (.iconst (-1), 1) := by decide +kernel
theorem i_X9_seen_10 : xi_dc cX9_seen 10 = some (.ireturn, 1) := by decide +kernel
theorem i_X9_seen_11 : xi_dc cX9_seen 11 = some (.aload_n 0, 1) := by decide +kernel
theorem i_X9_seen_12 : xi_dc cX9_seen 12 = some (.invokevirtual 183, 3) := by decide +kernel
theorem i_X9_seen_15 : xi_dc cX9_seen 15 = some (.ifCond .eq 14, 3) := by decide +kernel
theorem t_X9_seen_15 : ((15 : Nat) : Int) + 14 = ((29 : Nat) : Int) := by decide +kernel
theorem i_X9_seen_18 : xi_dc cX9_seen 18 = some (.aload_n 0, 1) := by decide +kernel
theorem i_X9_seen_19 : xi_dc cX9_seen 19 = some (.getfield 25, 3) := by decide +kernel
theorem i_X9_seen_22 : xi_dc cX9_seen 22 = some (.iload_n 1, 1) := by decide +kernel
theorem i_X9_seen_23 : xi_dc cX9_seen 23 = some (.invokestatic 196, 3) := by decide +kernel
theorem i_X9_seen_26 : xi_dc cX9_seen 26 = some (.goto 5, 3) := by decide +kernel
theorem t_X9_seen_26 : ((26 : Nat) : Int) + 5 = ((31 : Nat) : Int) := by decide +kernel
theorem i_X9_seen_29 : xi_dc cX9_seen 29 = some (.bipush (-4), 2) := by decide +kernel
theorem i_X9_seen_31 : xi_dc cX9_seen 31 = some (.ireturn, 1) := by decide +kernel
def P_X9_seen (S : xi_S) : xi_P := (xi_dc cX9_seen, xi_tab xfl_X9, xi_tab xki_X9, xi_tab xkl_X9, xi_tab xcs_X9, xi_tab xcv_X9, xi_calls [(63, xi_wS 3 (F_X9_in0 S)), (196, xi_wS 2 (F_X9_seenBy S))], xi_calls [(183, xi_wV S 11 0 (F_X9_isAny S))], 1)
theorem cc_X9_seen_63 (S : xi_S) (a0 : Int32) (a1 : Int32) (a2 : Int32) (m : xi_M) : (P_X9_seen S).2.2.2.2.2.2.1 63 [.int a0, .int a1, .int a2] m = (E_X9_in0 S a0 a1 a2 m) := by
  show xi_calls [(63, xi_wS 3 (F_X9_in0 S)), (196, xi_wS 2 (F_X9_seenBy S))] 63 [.int a0, .int a1, .int a2] m = _
  refine Eq.trans (b := xi_wS 3 (F_X9_in0 S) [.int a0, .int a1, .int a2] m) (xi_calls_hit rfl) ?_
  exact xi_wS_eq rfl
theorem cc_X9_seen_196 (S : xi_S) (a0 : Nat) (a1 : Int32) (m : xi_M) : (P_X9_seen S).2.2.2.2.2.2.1 196 [.ref a0, .int a1] m = (E_X9_seenBy S a0 a1 m) := by
  show xi_calls [(63, xi_wS 3 (F_X9_in0 S)), (196, xi_wS 2 (F_X9_seenBy S))] 196 [.ref a0, .int a1] m = _
  refine Eq.trans (b := xi_calls [(196, xi_wS 2 (F_X9_seenBy S))] 196 [.ref a0, .int a1] m) (xi_calls_miss rfl) ?_
  refine Eq.trans (b := xi_wS 2 (F_X9_seenBy S) [.ref a0, .int a1] m) (xi_calls_hit rfl) ?_
  exact xi_wS_eq rfl
theorem cc_X9_seen_183 (S : xi_S) (a0 : Nat) (m : xi_M) : (P_X9_seen S).2.2.2.2.2.2.2.1 183 [.ref a0] m = (if S.1 a0 = 11 then E_X9_isAny S a0 m else none) := by
  show xi_calls [(183, xi_wV S 11 0 (F_X9_isAny S))] 183 [.ref a0] m = _
  refine Eq.trans (b := xi_wV S 11 0 (F_X9_isAny S) [.ref a0] m) (xi_calls_hit rfl) ?_
  exact xi_wV_eq rfl
def E_X9_seen (S : xi_S) (v0 : Nat) (v1 : Int32) (m : xi_M) : Option xi_R :=
  xi_bI (E_X9_in0 S v1 (Int32.ofInt 0) (Int32.ofInt 3) m) fun x2 m1 =>
  if x2 = 0 then
    some (some (.int (Int32.ofInt (-1))), m1)
  else
    xi_bI (if S.1 v0 = 11 then E_X9_isAny S v0 m1 else none) fun x4 m3 =>
    if x4 = 0 then
      some (some (.int ((Int8.ofInt (-4)).toInt32)), m3)
    else
      if S.1 v0 = 11 then (S.2.2 v0 5).bind fun b6 =>
        xi_bI (E_X9_seenBy S b6 v1 m3) fun x8 m7 =>
        some (some (.int x8), m7)
      else none
def F_X9_seen (S : xi_S) : xi_F := fun As m => match As with
  | [.ref v0, .int v1] => E_X9_seen S v0 v1 m
  | _ => none
set_option maxRecDepth 100000 in
set_option maxHeartbeats 4000000 in
theorem xe_X9_seen {S : xi_S} {res : xi_R} (v0 : Nat) (v1 : Int32) (m : xi_M) (h : E_X9_seen S v0 v1 m = some res) : xi_X S (P_X9_seen S) (0, [some (.ref v0), some (.int v1)], [], m) res := by
  unfold E_X9_seen at h
  refine xr_iload_n i_X9_seen_0 rfl (q := 1) rfl ?_
  refine xr_iconst i_X9_seen_1 (q := 2) rfl ?_
  refine xr_iconst i_X9_seen_2 (q := 3) rfl ?_
  obtain ⟨x2, m1, em1, h⟩ := xi_bI_some h
  refine xr_SI i_X9_seen_3 xcse_X9_63 rfl (As := [.int v1, .int (Int32.ofInt 0), .int (Int32.ofInt 3)]) rfl (rest := []) rfl ((cc_X9_seen_63 S _ _ _ _).trans em1) (q := 6) rfl ?_
  by_cases c10 : x2 = 0
  · replace h := (if_pos c10).symm.trans h
    refine xr_ifCond_ne_p i_X9_seen_6 c10 (q := 11) t_X9_seen_6 (q2 := 9) rfl ?_
    refine xr_iconst i_X9_seen_9 (q := 10) rfl ?_
    exact xr_ireturn i_X9_seen_10 rfl h
  · replace h := (if_neg c10).symm.trans h
    refine xr_ifCond_ne_n i_X9_seen_6 c10 (q := 11) t_X9_seen_6 (q2 := 9) rfl ?_
    refine xr_aload_n i_X9_seen_11 rfl (q := 12) rfl ?_
    obtain ⟨x4, m3, em3, h⟩ := xi_bI_some h
    refine xr_VI i_X9_seen_12 xcve_X9_183 rfl (As := [.ref v0]) rfl (rest := []) rfl ((cc_X9_seen_183 S _ _).trans em3) (q := 15) rfl ?_
    by_cases c9 : x4 = 0
    · replace h := (if_pos c9).symm.trans h
      refine xr_ifCond_eq_p i_X9_seen_15 c9 (q := 29) t_X9_seen_15 (q2 := 18) rfl ?_
      refine xr_bipush i_X9_seen_29 (q := 31) rfl ?_
      exact xr_ireturn i_X9_seen_31 rfl h
    · replace h := (if_neg c9).symm.trans h
      refine xr_ifCond_eq_n i_X9_seen_15 c9 (q := 29) t_X9_seen_15 (q2 := 18) rfl ?_
      refine xr_aload_n i_X9_seen_18 rfl (q := 19) rfl ?_
      obtain ⟨c5, h⟩ := xi_if_some h
      obtain ⟨b6, eb6, h⟩ := xi_bind_some h
      refine xr_getR i_X9_seen_19 xfe_X9_25 c5 eb6 (q := 22) rfl ?_
      refine xr_iload_n i_X9_seen_22 rfl (q := 23) rfl ?_
      obtain ⟨x8, m7, em7, h⟩ := xi_bI_some h
      refine xr_SI i_X9_seen_23 xcse_X9_196 rfl (As := [.ref b6, .int v1]) rfl (rest := []) rfl ((cc_X9_seen_196 S _ _ _).trans em7) (q := 26) rfl ?_
      refine xr_goto i_X9_seen_26 (q := 31) t_X9_seen_26 ?_
      exact xr_ireturn i_X9_seen_31 rfl h
set_option maxRecDepth 100000 in
theorem po_X9_seen {l : Launch} {E : xi_E} {S : xi_S} {D : va_G} {tys : List (ClassId × FieldType)} (hC : xCx E S tys) : xi_Pok l E S D vwCl tys xNs RX9 xTs cX9_seen 2 2 (P_X9_seen S) := ⟨xi_dc_ok, by rw [hC.2]; exact xfo_X9, xkio_X9, xklo_X9, xi_calls_ok (ins := .invokestatic) (List.forall_mem_cons.mpr ⟨(xc_X9_63 (sn_X9_in0 hC) (by decide)), List.forall_mem_cons.mpr ⟨(xc_X9_196 (sn_X9_seenBy hC) (by decide)), fun _ h => absurd h List.not_mem_nil⟩⟩), xi_calls_ok (ins := .invokevirtual) (List.forall_mem_cons.mpr ⟨(xc_X9_183 hC.1 (sn_X9_isAny hC) (by decide)), fun _ h => absurd h List.not_mem_nil⟩)⟩
theorem sn_X9_seen {l : Launch} {E : xi_E} {S : xi_S} {D : va_G} {tys : List (ClassId × FieldType)} (hC : xCx E S tys) : ∀ As m1 r m2, F_X9_seen S As m1 = some (r, m2) → xi_Sound l E S D vwCl tys xNs xTs yX9_seen cX9_seen 2 (some .int) 2 As m1 r m2 := by
  intro As m1 r m2 h
  unfold F_X9_seen at h
  split at h
  · exact xi_meth (P := P_X9_seen S) (by decide) hC.1 (po_X9_seen hC) (Nat.le_of_ble_eq_true rfl) rfl (xe_X9_seen _ _ _ h)
  · exact xi_no h
theorem i_X9_lead_0 : xi_dc cX9_lead 0 = some (.iload_n 1, 1) := by decide +kernel
theorem i_X9_lead_1 : xi_dc cX9_lead 1 = some (.iconst 0, 1) := by decide +kernel
theorem i_X9_lead_2 : xi_dc cX9_lead 2 = some (.bipush 40, 2) := by decide +kernel
theorem i_X9_lead_4 : xi_dc cX9_lead 4 = some (.invokestatic 63, 3) := by decide +kernel
theorem i_X9_lead_7 : xi_dc cX9_lead 7 = some (.ifCond .ne 5, 3) := by decide +kernel
theorem t_X9_lead_7 : ((7 : Nat) : Int) + 5 = ((12 : Nat) : Int) := by decide +kernel
theorem i_X9_lead_10 : xi_dc cX9_lead 10 = some (.iconst (-1), 1) := by decide +kernel
theorem i_X9_lead_11 : xi_dc cX9_lead 11 = some (.ireturn, 1) := by decide +kernel
theorem i_X9_lead_12 : xi_dc cX9_lead 12 = some (.aload_n 0, 1) := by decide +kernel
theorem i_X9_lead_13 : xi_dc cX9_lead 13 = some (.invokevirtual 183, 3) := by decide +kernel
theorem i_X9_lead_16 : xi_dc cX9_lead 16 = some (.ifCond .eq 33, 3) := by decide +kernel
theorem t_X9_lead_16 : ((16 : Nat) : Int) + 33 = ((49 : Nat) : Int) := by decide +kernel
theorem i_X9_lead_19 : xi_dc cX9_lead 19 = some (.aload_n 0, 1) := by decide +kernel
theorem i_X9_lead_20 : xi_dc cX9_lead 20 = some (.aload_n 0, 1) := by decide +kernel
theorem i_X9_lead_21 : xi_dc cX9_lead 21 = some (.getfield 25, 3) := by decide +kernel
theorem i_X9_lead_24 : xi_dc cX9_lead 24 = some (.iconst 4, 1) := by decide +kernel
theorem i_X9_lead_25 : xi_dc cX9_lead 25 = some (.iaload, 1) := by decide +kernel
theorem i_X9_lead_26 : xi_dc cX9_lead 26 = some (.aload_n 0, 1) := by decide +kernel
theorem i_X9_lead_27 : xi_dc cX9_lead 27 = some (.getfield 25, 3) := by decide +kernel
theorem i_X9_lead_30 : xi_dc cX9_lead 30 = some (.iconst 5, 1) := by decide +kernel
theorem i_X9_lead_31 : xi_dc cX9_lead 31 = some (.iaload, 1) := by decide +kernel
theorem i_X9_lead_32 : xi_dc cX9_lead 32 = some (.isub, 1) := by decide +kernel
theorem i_X9_lead_33 : xi_dc cX9_lead 33 = some (.iload_n 1, 1) := by decide +kernel
theorem i_X9_lead_34 : xi_dc cX9_lead 34 = some (.aload_n 0, 1) := by decide +kernel
theorem i_X9_lead_35 : xi_dc cX9_lead 35 = some (.getfield 25, 3) := by decide +kernel
theorem i_X9_lead_38 : xi_dc cX9_lead 38 = some (.invokestatic 199, 3) := by decide +kernel
theorem i_X9_lead_41 : xi_dc cX9_lead 41 = some (.imul, 1) := by decide +kernel
theorem i_X9_lead_42 : xi_dc cX9_lead 42 = some (.iadd, 1) := by decide +kernel
theorem i_X9_lead_43 : xi_dc cX9_lead 43 = some (.invokevirtual 75, 3) := by decide +kernel
theorem i_X9_lead_46 : xi_dc cX9_lead 46 = some (.goto 5, 3) := by decide +kernel
theorem t_X9_lead_46 : ((46 : Nat) : Int) + 5 = ((51 : Nat) : Int) := by decide +kernel
theorem i_X9_lead_49 : xi_dc cX9_lead 49 = some (.bipush (-4), 2) := by decide +kernel
theorem i_X9_lead_51 : xi_dc cX9_lead 51 = some (.ireturn, 1) := by decide +kernel
def P_X9_lead (S : xi_S) : xi_P := (xi_dc cX9_lead, xi_tab xfl_X9, xi_tab xki_X9, xi_tab xkl_X9, xi_tab xcs_X9, xi_tab xcv_X9, xi_calls [(63, xi_wS 3 (F_X9_in0 S)), (199, xi_wS 1 (F_X9_ahead S))], xi_calls [(75, xi_wV S 11 1 (F_X9_tells S)), (183, xi_wV S 11 0 (F_X9_isAny S))], 1)
theorem cc_X9_lead_63 (S : xi_S) (a0 : Int32) (a1 : Int32) (a2 : Int32) (m : xi_M) : (P_X9_lead S).2.2.2.2.2.2.1 63 [.int a0, .int a1, .int a2] m = (E_X9_in0 S a0 a1 a2 m) := by
  show xi_calls [(63, xi_wS 3 (F_X9_in0 S)), (199, xi_wS 1 (F_X9_ahead S))] 63 [.int a0, .int a1, .int a2] m = _
  refine Eq.trans (b := xi_wS 3 (F_X9_in0 S) [.int a0, .int a1, .int a2] m) (xi_calls_hit rfl) ?_
  exact xi_wS_eq rfl
theorem cc_X9_lead_199 (S : xi_S) (a0 : Nat) (m : xi_M) : (P_X9_lead S).2.2.2.2.2.2.1 199 [.ref a0] m = (E_X9_ahead S a0 m) := by
  show xi_calls [(63, xi_wS 3 (F_X9_in0 S)), (199, xi_wS 1 (F_X9_ahead S))] 199 [.ref a0] m = _
  refine Eq.trans (b := xi_calls [(199, xi_wS 1 (F_X9_ahead S))] 199 [.ref a0] m) (xi_calls_miss rfl) ?_
  refine Eq.trans (b := xi_wS 1 (F_X9_ahead S) [.ref a0] m) (xi_calls_hit rfl) ?_
  exact xi_wS_eq rfl
theorem cc_X9_lead_75 (S : xi_S) (a0 : Nat) (a1 : Int32) (m : xi_M) : (P_X9_lead S).2.2.2.2.2.2.2.1 75 [.ref a0, .int a1] m = (if S.1 a0 = 11 then E_X9_tells S a0 a1 m else none) := by
  show xi_calls [(75, xi_wV S 11 1 (F_X9_tells S)), (183, xi_wV S 11 0 (F_X9_isAny S))] 75 [.ref a0, .int a1] m = _
  refine Eq.trans (b := xi_wV S 11 1 (F_X9_tells S) [.ref a0, .int a1] m) (xi_calls_hit rfl) ?_
  exact xi_wV_eq rfl
theorem cc_X9_lead_183 (S : xi_S) (a0 : Nat) (m : xi_M) : (P_X9_lead S).2.2.2.2.2.2.2.1 183 [.ref a0] m = (if S.1 a0 = 11 then E_X9_isAny S a0 m else none) := by
  show xi_calls [(75, xi_wV S 11 1 (F_X9_tells S)), (183, xi_wV S 11 0 (F_X9_isAny S))] 183 [.ref a0] m = _
  refine Eq.trans (b := xi_calls [(183, xi_wV S 11 0 (F_X9_isAny S))] 183 [.ref a0] m) (xi_calls_miss rfl) ?_
  refine Eq.trans (b := xi_wV S 11 0 (F_X9_isAny S) [.ref a0] m) (xi_calls_hit rfl) ?_
  exact xi_wV_eq rfl
def E_X9_lead (S : xi_S) (v0 : Nat) (v1 : Int32) (m : xi_M) : Option xi_R :=
  xi_bI (E_X9_in0 S v1 (Int32.ofInt 0) ((Int8.ofInt 40).toInt32) m) fun x2 m1 =>
  if x2 = 0 then
    some (some (.int (Int32.ofInt (-1))), m1)
  else
    xi_bI (if S.1 v0 = 11 then E_X9_isAny S v0 m1 else none) fun x4 m3 =>
    if x4 = 0 then
      some (some (.int ((Int8.ofInt (-4)).toInt32)), m3)
    else
      if S.1 v0 = 11 then (S.2.2 v0 5).bind fun b6 =>
        if S.1 b6 = 0 ∧ ¬ ((Int32.ofInt 4) < 0 ∨ S.2.1 b6 ≤ Int32.toNatClampNeg (Int32.ofInt 4)) then
          if S.1 v0 = 11 then (S.2.2 v0 5).bind fun b9 =>
            if S.1 b9 = 0 ∧ ¬ ((Int32.ofInt 5) < 0 ∨ S.2.1 b9 ≤ Int32.toNatClampNeg (Int32.ofInt 5)) then
              if S.1 v0 = 11 then (S.2.2 v0 5).bind fun b12 =>
                xi_bI (E_X9_ahead S b12 m3) fun x14 m13 =>
                xi_bI (if S.1 v0 = 11 then E_X9_tells S v0 (((m3.1 b6 (Int32.toNatClampNeg (Int32.ofInt 4))) - (m3.1 b9 (Int32.toNatClampNeg (Int32.ofInt 5)))) + (v1 * x14)) m13 else none) fun x16 m15 =>
                some (some (.int x16), m15)
              else none
            else none
          else none
        else none
      else none
def F_X9_lead (S : xi_S) : xi_F := fun As m => match As with
  | [.ref v0, .int v1] => E_X9_lead S v0 v1 m
  | _ => none
set_option maxRecDepth 100000 in
set_option maxHeartbeats 4000000 in
theorem xe_X9_lead {S : xi_S} {res : xi_R} (v0 : Nat) (v1 : Int32) (m : xi_M) (h : E_X9_lead S v0 v1 m = some res) : xi_X S (P_X9_lead S) (0, [some (.ref v0), some (.int v1)], [], m) res := by
  unfold E_X9_lead at h
  refine xr_iload_n i_X9_lead_0 rfl (q := 1) rfl ?_
  refine xr_iconst i_X9_lead_1 (q := 2) rfl ?_
  refine xr_bipush i_X9_lead_2 (q := 4) rfl ?_
  obtain ⟨x2, m1, em1, h⟩ := xi_bI_some h
  refine xr_SI i_X9_lead_4 xcse_X9_63 rfl (As := [.int v1, .int (Int32.ofInt 0), .int ((Int8.ofInt 40).toInt32)]) rfl (rest := []) rfl ((cc_X9_lead_63 S _ _ _ _).trans em1) (q := 7) rfl ?_
  by_cases c18 : x2 = 0
  · replace h := (if_pos c18).symm.trans h
    refine xr_ifCond_ne_p i_X9_lead_7 c18 (q := 12) t_X9_lead_7 (q2 := 10) rfl ?_
    refine xr_iconst i_X9_lead_10 (q := 11) rfl ?_
    exact xr_ireturn i_X9_lead_11 rfl h
  · replace h := (if_neg c18).symm.trans h
    refine xr_ifCond_ne_n i_X9_lead_7 c18 (q := 12) t_X9_lead_7 (q2 := 10) rfl ?_
    refine xr_aload_n i_X9_lead_12 rfl (q := 13) rfl ?_
    obtain ⟨x4, m3, em3, h⟩ := xi_bI_some h
    refine xr_VI i_X9_lead_13 xcve_X9_183 rfl (As := [.ref v0]) rfl (rest := []) rfl ((cc_X9_lead_183 S _ _).trans em3) (q := 16) rfl ?_
    by_cases c17 : x4 = 0
    · replace h := (if_pos c17).symm.trans h
      refine xr_ifCond_eq_p i_X9_lead_16 c17 (q := 49) t_X9_lead_16 (q2 := 19) rfl ?_
      refine xr_bipush i_X9_lead_49 (q := 51) rfl ?_
      exact xr_ireturn i_X9_lead_51 rfl h
    · replace h := (if_neg c17).symm.trans h
      refine xr_ifCond_eq_n i_X9_lead_16 c17 (q := 49) t_X9_lead_16 (q2 := 19) rfl ?_
      refine xr_aload_n i_X9_lead_19 rfl (q := 20) rfl ?_
      refine xr_aload_n i_X9_lead_20 rfl (q := 21) rfl ?_
      obtain ⟨c5, h⟩ := xi_if_some h
      obtain ⟨b6, eb6, h⟩ := xi_bind_some h
      refine xr_getR i_X9_lead_21 xfe_X9_25 c5 eb6 (q := 24) rfl ?_
      refine xr_iconst i_X9_lead_24 (q := 25) rfl ?_
      obtain ⟨c7, h⟩ := xi_if_some h
      refine xr_iaload i_X9_lead_25 c7 (q := 26) rfl ?_
      refine xr_aload_n i_X9_lead_26 rfl (q := 27) rfl ?_
      obtain ⟨c8, h⟩ := xi_if_some h
      obtain ⟨b9, eb9, h⟩ := xi_bind_some h
      refine xr_getR i_X9_lead_27 xfe_X9_25 c8 eb9 (q := 30) rfl ?_
      refine xr_iconst i_X9_lead_30 (q := 31) rfl ?_
      obtain ⟨c10, h⟩ := xi_if_some h
      refine xr_iaload i_X9_lead_31 c10 (q := 32) rfl ?_
      refine xr_isub i_X9_lead_32 (q := 33) rfl ?_
      refine xr_iload_n i_X9_lead_33 rfl (q := 34) rfl ?_
      refine xr_aload_n i_X9_lead_34 rfl (q := 35) rfl ?_
      obtain ⟨c11, h⟩ := xi_if_some h
      obtain ⟨b12, eb12, h⟩ := xi_bind_some h
      refine xr_getR i_X9_lead_35 xfe_X9_25 c11 eb12 (q := 38) rfl ?_
      obtain ⟨x14, m13, em13, h⟩ := xi_bI_some h
      refine xr_SI i_X9_lead_38 xcse_X9_199 rfl (As := [.ref b12]) rfl (rest := [.int v1, .int ((m3.1 b6 (Int32.toNatClampNeg (Int32.ofInt 4))) - (m3.1 b9 (Int32.toNatClampNeg (Int32.ofInt 5)))), .ref v0]) rfl ((cc_X9_lead_199 S _ _).trans em13) (q := 41) rfl ?_
      refine xr_imul i_X9_lead_41 (q := 42) rfl ?_
      refine xr_iadd i_X9_lead_42 (q := 43) rfl ?_
      obtain ⟨x16, m15, em15, h⟩ := xi_bI_some h
      refine xr_VI i_X9_lead_43 xcve_X9_75 rfl (As := [.ref v0, .int (((m3.1 b6 (Int32.toNatClampNeg (Int32.ofInt 4))) - (m3.1 b9 (Int32.toNatClampNeg (Int32.ofInt 5)))) + (v1 * x14))]) rfl (rest := []) rfl ((cc_X9_lead_75 S _ _ _).trans em15) (q := 46) rfl ?_
      refine xr_goto i_X9_lead_46 (q := 51) t_X9_lead_46 ?_
      exact xr_ireturn i_X9_lead_51 rfl h
set_option maxRecDepth 100000 in
theorem po_X9_lead {l : Launch} {E : xi_E} {S : xi_S} {D : va_G} {tys : List (ClassId × FieldType)} (hC : xCx E S tys) : xi_Pok l E S D vwCl tys xNs RX9 xTs cX9_lead 2 7 (P_X9_lead S) := ⟨xi_dc_ok, by rw [hC.2]; exact xfo_X9, xkio_X9, xklo_X9, xi_calls_ok (ins := .invokestatic) (List.forall_mem_cons.mpr ⟨(xc_X9_63 (sn_X9_in0 hC) (by decide)), List.forall_mem_cons.mpr ⟨(xc_X9_199 (sn_X9_ahead hC) (by decide)), fun _ h => absurd h List.not_mem_nil⟩⟩), xi_calls_ok (ins := .invokevirtual) (List.forall_mem_cons.mpr ⟨(xc_X9_75 hC.1 (sn_X9_tells hC) (by decide)), List.forall_mem_cons.mpr ⟨(xc_X9_183 hC.1 (sn_X9_isAny hC) (by decide)), fun _ h => absurd h List.not_mem_nil⟩⟩)⟩
theorem sn_X9_lead {l : Launch} {E : xi_E} {S : xi_S} {D : va_G} {tys : List (ClassId × FieldType)} (hC : xCx E S tys) : ∀ As m1 r m2, F_X9_lead S As m1 = some (r, m2) → xi_Sound l E S D vwCl tys xNs xTs yX9_lead cX9_lead 2 (some .int) 7 As m1 r m2 := by
  intro As m1 r m2 h
  unfold F_X9_lead at h
  split at h
  · exact xi_meth (P := P_X9_lead S) (by decide) hC.1 (po_X9_lead hC) (Nat.le_of_ble_eq_true rfl) rfl (xe_X9_lead _ _ _ h)
  · exact xi_no h
theorem i_X9_stepOf_0 : xi_dc cX9_stepOf 0 = some (.iload_n 0, 1) := by decide +kernel
theorem i_X9_stepOf_1 : xi_dc cX9_stepOf 1 = some (.istore_n 2, 1) := by decide +kernel
theorem i_X9_stepOf_2 : xi_dc cX9_stepOf 2 = some (.iconst 3, 1) := by decide +kernel
theorem i_X9_stepOf_3 : xi_dc cX9_stepOf 3 = some (.istore_n 3, 1) := by decide +kernel
theorem i_X9_stepOf_4 : xi_dc cX9_stepOf 4 = some (.iload_n 3, 1) := by decide +kernel
theorem i_X9_stepOf_5 : xi_dc cX9_stepOf 5 = some (.iload_n 1, 1) := by decide +kernel
theorem i_X9_stepOf_6 : xi_dc cX9_stepOf 6 = some (.if_icmp .le 14, 3) := by decide +kernel
theorem t_X9_stepOf_6 : ((6 : Nat) : Int) + 14 = ((20 : Nat) : Int) := by decide +kernel
theorem i_X9_stepOf_9 : xi_dc cX9_stepOf 9 = some (.iload_n 2, 1) := by decide +kernel
theorem i_X9_stepOf_10 : xi_dc cX9_stepOf 10 = some (.bipush 7, 2) := by decide +kernel
theorem i_X9_stepOf_12 : xi_dc cX9_stepOf 12 = some (.idiv, 1) := by decide +kernel
theorem i_X9_stepOf_13 : xi_dc cX9_stepOf 13 = some (.istore_n 2, 1) := by decide +kernel
theorem i_X9_stepOf_14 : xi_dc cX9_stepOf 14 = some (.iinc 3 (-1), 3) := by decide +kernel
theorem i_X9_stepOf_17 : xi_dc cX9_stepOf 17 = some (.goto (-13), 3) := by decide +kernel
theorem t_X9_stepOf_17 : ((17 : Nat) : Int) + (-13) = ((4 : Nat) : Int) := by decide +kernel
theorem i_X9_stepOf_20 : xi_dc cX9_stepOf 20 = some (.iload_n 2, 1) := by decide +kernel
theorem i_X9_stepOf_21 : xi_dc cX9_stepOf 21 = some (.bipush 7, 2) := by decide +kernel
theorem i_X9_stepOf_23 : xi_dc cX9_stepOf 23 = some (.irem, 1) := by decide +kernel
theorem i_X9_stepOf_24 : xi_dc cX9_stepOf 24 = some (.iconst 3, 1) := by decide +kernel
theorem i_X9_stepOf_25 : xi_dc cX9_stepOf 25 = some (.isub, 1) := by decide +kernel
theorem i_X9_stepOf_26 : xi_dc cX9_stepOf 26 = some (.ireturn, 1) := by decide +kernel
def P_X9_stepOf (S : xi_S) : xi_P := (xi_dc cX9_stepOf, xi_tab xfl_X9, xi_tab xki_X9, xi_tab xkl_X9, xi_tab xcs_X9, xi_tab xcv_X9, xi_calls [], xi_calls [], 1)
def G_X9_stepOf_4 (S : xi_S) : Nat → Int32 → Int32 → Int32 → xi_M → Option xi_R
  | 0, _, _, _, _ => none
  | n + 1, v1, v2, v3, m =>
    if v3 ≤ v1 then
      if ((Int8.ofInt 7).toInt32) = 0 then none else
      some (some (.int ((v2 - v2 / ((Int8.ofInt 7).toInt32) * ((Int8.ofInt 7).toInt32)) - (Int32.ofInt 3))), m)
    else
      if ((Int8.ofInt 7).toInt32) = 0 then none else
      G_X9_stepOf_4 S n v1 (v2 / ((Int8.ofInt 7).toInt32)) (v3 + Int32.ofInt (-1)) m
set_option maxRecDepth 100000 in
set_option maxHeartbeats 4000000 in
theorem xs_X9_stepOf_4 {S : xi_S} {res : xi_R} : ∀ (n : Nat) (v1 : Int32) (v2 : Int32) (v3 : Int32) (m : xi_M), G_X9_stepOf_4 S n v1 v2 v3 m = some res → xi_X S (P_X9_stepOf S) (4, [none, some (.int v1), some (.int v2), some (.int v3)], [], m) res := by
  intro n
  induction n with
  | zero => intro v1 v2 v3 m h; exact xi_no h
  | succ n ih =>
    intro v1 v2 v3 m h
    unfold G_X9_stepOf_4 at h
    refine xr_iload_n i_X9_stepOf_4 rfl (q := 5) rfl ?_
    refine xr_iload_n i_X9_stepOf_5 rfl (q := 6) rfl ?_
    by_cases c3 : v3 ≤ v1
    · replace h := (if_pos c3).symm.trans h
      refine xr_if_icmp_le_p i_X9_stepOf_6 c3 (q := 20) t_X9_stepOf_6 (q2 := 9) rfl ?_
      refine xr_iload_n i_X9_stepOf_20 rfl (q := 21) rfl ?_
      refine xr_bipush i_X9_stepOf_21 (q := 23) rfl ?_
      obtain ⟨c1, h⟩ := xi_ifn_some h
      refine xr_irem i_X9_stepOf_23 c1 (q := 24) rfl ?_
      refine xr_iconst i_X9_stepOf_24 (q := 25) rfl ?_
      refine xr_isub i_X9_stepOf_25 (q := 26) rfl ?_
      exact xr_ireturn i_X9_stepOf_26 rfl h
    · replace h := (if_neg c3).symm.trans h
      refine xr_if_icmp_le_n i_X9_stepOf_6 c3 (q := 20) t_X9_stepOf_6 (q2 := 9) rfl ?_
      refine xr_iload_n i_X9_stepOf_9 rfl (q := 10) rfl ?_
      refine xr_bipush i_X9_stepOf_10 (q := 12) rfl ?_
      obtain ⟨c2, h⟩ := xi_ifn_some h
      refine xr_idiv i_X9_stepOf_12 c2 (q := 13) rfl ?_
      refine xr_istore_n i_X9_stepOf_13 rfl (L2 := [none, some (.int v1), some (.int (v2 / ((Int8.ofInt 7).toInt32))), some (.int v3)]) rfl (q := 14) rfl ?_
      refine xr_iinc i_X9_stepOf_14 rfl rfl (L2 := [none, some (.int v1), some (.int (v2 / ((Int8.ofInt 7).toInt32))), some (.int (v3 + Int32.ofInt (-1)))]) rfl (q := 17) rfl ?_
      refine xr_goto i_X9_stepOf_17 (q := 4) t_X9_stepOf_17 ?_
      exact xi_X_le (xi_le_n (xi_le_s (xi_le_s (xi_le_s xi_le_z)))) (ih _ _ _ _ h)
def E_X9_stepOf (S : xi_S) (v0 : Int32) (v1 : Int32) (m : xi_M) : Option xi_R :=
  G_X9_stepOf_4 S 10000 v1 v0 (Int32.ofInt 3) m
def F_X9_stepOf (S : xi_S) : xi_F := fun As m => match As with
  | [.int v0, .int v1] => E_X9_stepOf S v0 v1 m
  | _ => none
set_option maxRecDepth 100000 in
set_option maxHeartbeats 4000000 in
theorem xe_X9_stepOf {S : xi_S} {res : xi_R} (v0 : Int32) (v1 : Int32) (m : xi_M) (h : E_X9_stepOf S v0 v1 m = some res) : xi_X S (P_X9_stepOf S) (0, [some (.int v0), some (.int v1), none, none], [], m) res := by
  unfold E_X9_stepOf at h
  refine xr_iload_n i_X9_stepOf_0 rfl (q := 1) rfl ?_
  refine xr_istore_n i_X9_stepOf_1 rfl (L2 := [some (.int v0), some (.int v1), some (.int v0), none]) rfl (q := 2) rfl ?_
  refine xr_iconst i_X9_stepOf_2 (q := 3) rfl ?_
  refine xr_istore_n i_X9_stepOf_3 rfl (L2 := [some (.int v0), some (.int v1), some (.int v0), some (.int (Int32.ofInt 3))]) rfl (q := 4) rfl ?_
  exact xi_X_le (xi_le_n (xi_le_s (xi_le_s (xi_le_s xi_le_z)))) (xs_X9_stepOf_4 10000 _ _ _ _ h)
set_option maxRecDepth 100000 in
theorem po_X9_stepOf {l : Launch} {E : xi_E} {S : xi_S} {D : va_G} {tys : List (ClassId × FieldType)} (hC : xCx E S tys) : xi_Pok l E S D vwCl tys xNs RX9 xTs cX9_stepOf 4 0 (P_X9_stepOf S) := ⟨xi_dc_ok, by rw [hC.2]; exact xfo_X9, xkio_X9, xklo_X9, xi_calls_ok (ins := .invokestatic) (fun _ h => absurd h List.not_mem_nil), xi_calls_ok (ins := .invokevirtual) (fun _ h => absurd h List.not_mem_nil)⟩
theorem sn_X9_stepOf {l : Launch} {E : xi_E} {S : xi_S} {D : va_G} {tys : List (ClassId × FieldType)} (hC : xCx E S tys) : ∀ As m1 r m2, F_X9_stepOf S As m1 = some (r, m2) → xi_Sound l E S D vwCl tys xNs xTs yX9_stepOf cX9_stepOf 4 (some .int) 0 As m1 r m2 := by
  intro As m1 r m2 h
  unfold F_X9_stepOf at h
  split at h
  · exact xi_meth (P := P_X9_stepOf S) (by decide) hC.1 (po_X9_stepOf hC) (Nat.le_of_ble_eq_true rfl) rfl (xe_X9_stepOf _ _ _ h)
  · exact xi_no h
theorem i_X9_moves_0 : xi_dc cX9_moves 0 = some (.iconst 0, 1) := by decide +kernel
theorem i_X9_moves_1 : xi_dc cX9_moves 1 = some (.istore_n 2, 1) := by decide +kernel
theorem i_X9_moves_2 : xi_dc cX9_moves 2 = some (.aload_n 0, 1) := by decide +kernel
theorem i_X9_moves_3 : xi_dc cX9_moves 3 = some (.getfield 25, 3) := by decide +kernel
theorem i_X9_moves_6 : xi_dc cX9_moves 6 = some (.iconst 0, 1) := by decide +kernel
theorem i_X9_moves_7 : xi_dc cX9_moves 7 = some (.aload_n 0, 1) := by decide +kernel
theorem i_X9_moves_8 : xi_dc cX9_moves 8 = some (.getfield 31, 3) := by decide +kernel
theorem i_X9_moves_11 : xi_dc cX9_moves 11 = some (.iconst 0, 1) := by decide +kernel
theorem i_X9_moves_12 : xi_dc cX9_moves 12 = some (.bipush 34, 2) := by decide +kernel
theorem i_X9_moves_14 : xi_dc cX9_moves 14 = some (.invokestatic 121, 3) := by decide +kernel
theorem i_X9_moves_17 : xi_dc cX9_moves 17 = some (.iconst 0, 1) := by decide +kernel
theorem i_X9_moves_18 : xi_dc cX9_moves 18 = some (.istore_n 3, 1) := by decide +kernel
theorem i_X9_moves_19 : xi_dc cX9_moves 19 = some (.iload_n 3, 1) := by decide +kernel
theorem i_X9_moves_20 : xi_dc cX9_moves 20 = some (.iconst 4, 1) := by decide +kernel
theorem i_X9_moves_21 : xi_dc cX9_moves 21 = some (.if_icmp .ge 65, 3) := by decide +kernel
theorem t_X9_moves_21 : ((21 : Nat) : Int) + 65 = ((86 : Nat) : Int) := by decide +kernel
theorem i_X9_moves_24 : xi_dc cX9_moves 24 = some (.iload_n 1, 1) := by decide +kernel
theorem i_X9_moves_25 : xi_dc cX9_moves 25 = some (.iload_n 3, 1) := by decide +kernel
theorem i_X9_moves_26 : xi_dc cX9_moves 26 = some (.invokestatic 202, 3) := by decide +kernel
theorem i_X9_moves_29 : xi_dc cX9_moves 29 = some (.istore 4, 2) := by decide +kernel
theorem i_X9_moves_31 : xi_dc cX9_moves 31 = some (.iload 4, 2) := by decide +kernel
theorem i_X9_moves_33 : xi_dc cX9_moves 33 = some (.ifCond .eq 17, 3) := by decide +kernel
theorem t_X9_moves_33 : ((33 : Nat) : Int) + 17 = ((50 : Nat) : Int) := by decide +kernel
theorem i_X9_moves_36 : xi_dc cX9_moves 36 = some (.aload_n 0, 1) := by decide +kernel
theorem i_X9_moves_37 : xi_dc cX9_moves 37 = some (.getfield 25, 3) := by decide +kernel
theorem i_X9_moves_40 : xi_dc cX9_moves 40 = some (.iload_n 3, 1) := by decide +kernel
theorem i_X9_moves_41 : xi_dc cX9_moves 41 = some (.invokestatic 196, 3) := by decide +kernel
theorem i_X9_moves_44 : xi_dc cX9_moves 44 = some (.ifCond .eq 6, 3) := by decide +kernel
theorem t_X9_moves_44 : ((44 : Nat) : Int) + 6 = ((50 : Nat) : Int) := by decide +kernel
theorem i_X9_moves_47 : xi_dc cX9_moves 47 = some (.bipush (-9), 2) := by decide +kernel
theorem i_X9_moves_49 : xi_dc cX9_moves 49 = some (.ireturn, 1) := by decide +kernel
theorem i_X9_moves_50 : xi_dc cX9_moves 50 = some (.aload_n 0, 1) := by decide +kernel
theorem i_X9_moves_51 : xi_dc cX9_moves 51 = some (.getfield 31, 3) := by decide +kernel
theorem i_X9_moves_54 : xi_dc cX9_moves 54 = some (.bipush 6, 2) := by decide +kernel
theorem i_X9_moves_56 : xi_dc cX9_moves 56 = some (.iload_n 3, 1) := by decide +kernel
theorem i_X9_moves_57 : xi_dc cX9_moves 57 = some (.iadd, 1) := by decide +kernel
theorem i_X9_moves_58 : xi_dc cX9_moves 58 = some (.dup2, 1) := by decide +kernel
theorem i_X9_moves_59 : xi_dc cX9_moves 59 = some (.iaload, 1) := by decide +kernel
theorem i_X9_moves_60 : xi_dc cX9_moves 60 = some (.iload 4, 2) := by decide +kernel
theorem i_X9_moves_62 : xi_dc cX9_moves 62 = some (.iadd, 1) := by decide +kernel
theorem i_X9_moves_63 : xi_dc cX9_moves 63 = some (.iastore, 1) := by decide +kernel
theorem i_X9_moves_64 : xi_dc cX9_moves 64 = some (.iload_n 2, 1) := by decide +kernel
theorem i_X9_moves_65 : xi_dc cX9_moves 65 = some (.iload 4, 2) := by decide +kernel
theorem i_X9_moves_67 : xi_dc cX9_moves 67 = some (.ifCond .ge 9, 3) := by decide +kernel
theorem t_X9_moves_67 : ((67 : Nat) : Int) + 9 = ((76 : Nat) : Int) := by decide +kernel
theorem i_X9_moves_70 : xi_dc cX9_moves 70 = some (.iload 4, 2) := by decide +kernel
theorem i_X9_moves_72 : xi_dc cX9_moves 72 = some (.ineg, 1) := by decide +kernel
theorem i_X9_moves_73 : xi_dc cX9_moves 73 = some (.goto 5, 3) := by decide +kernel
theorem t_X9_moves_73 : ((73 : Nat) : Int) + 5 = ((78 : Nat) : Int) := by decide +kernel
theorem i_X9_moves_76 : xi_dc cX9_moves 76 = some (.iload 4, 2) := by decide +kernel
theorem i_X9_moves_78 : xi_dc cX9_moves 78 = some (.iadd, 1) := by decide +kernel
theorem i_X9_moves_79 : xi_dc cX9_moves 79 = some (.istore_n 2, 1) := by decide +kernel
theorem i_X9_moves_80 : xi_dc cX9_moves 80 = some (.iinc 3 1, 3) := by decide +kernel
theorem i_X9_moves_83 : xi_dc cX9_moves 83 = some (.goto (-64), 3) := by decide +kernel
theorem t_X9_moves_83 : ((83 : Nat) : Int) + (-64) = ((19 : Nat) : Int) := by decide +kernel
theorem i_X9_moves_86 : xi_dc cX9_moves 86 = some (.iconst 0, 1) := by decide +kernel
theorem i_X9_moves_87 : xi_dc cX9_moves 87 = some (.istore_n 3, 1) := by decide +kernel
theorem i_X9_moves_88 : xi_dc cX9_moves 88 = some (.iload_n 3, 1) := by decide +kernel
theorem i_X9_moves_89 : xi_dc cX9_moves 89 = some (.iconst 4, 1) := by decide +kernel
theorem i_X9_moves_90 : xi_dc cX9_moves 90 = some (.if_icmp .ge 24, 3) := by decide +kernel
theorem t_X9_moves_90 : ((90 : Nat) : Int) + 24 = ((114 : Nat) : Int) := by decide +kernel
theorem i_X9_moves_93 : xi_dc cX9_moves 93 = some (.aload_n 0, 1) := by decide +kernel
theorem i_X9_moves_94 : xi_dc cX9_moves 94 = some (.getfield 31, 3) := by decide +kernel
theorem i_X9_moves_97 : xi_dc cX9_moves 97 = some (.iload_n 3, 1) := by decide +kernel
theorem i_X9_moves_98 : xi_dc cX9_moves 98 = some (.iconst 0, 1) := by decide +kernel
theorem i_X9_moves_99 : xi_dc cX9_moves 99 = some (.invokestatic 193, 3) := by decide +kernel
theorem i_X9_moves_102 : xi_dc cX9_moves 102 = some (.ifCond .ne 6, 3) := by decide +kernel
theorem t_X9_moves_102 : ((102 : Nat) : Int) + 6 = ((108 : Nat) : Int) := by decide +kernel
theorem i_X9_moves_105 : xi_dc cX9_moves 105 = some (.bipush (-9), 2) := by decide +kernel
theorem i_X9_moves_107 : xi_dc cX9_moves 107 = some (.ireturn, 1) := by decide +kernel
theorem i_X9_moves_108 : xi_dc cX9_moves 108 = some (.iinc 3 1, 3) := by decide +kernel
theorem i_X9_moves_111 : xi_dc cX9_moves 111 = some (.goto (-23), 3) := by decide +kernel
theorem t_X9_moves_111 : ((111 : Nat) : Int) + (-23) = ((88 : Nat) : Int) := by decide +kernel
theorem i_X9_moves_114 : xi_dc cX9_moves 114 = some (.iload_n 2, 1) := by decide +kernel
theorem i_X9_moves_115 : xi_dc cX9_moves 115 = some (.ireturn, 1) := by decide +kernel
def P_X9_moves (S : xi_S) : xi_P := (xi_dc cX9_moves, xi_tab xfl_X9, xi_tab xki_X9, xi_tab xkl_X9, xi_tab xcs_X9, xi_tab xcv_X9, xi_calls [(121, xi_wS 5 (F_X9_copies S)), (193, xi_wS 3 (F_X9_mayMove S)), (196, xi_wS 2 (F_X9_seenBy S)), (202, xi_wS 2 (F_X9_stepOf S))], xi_calls [], 1)
theorem cc_X9_moves_121 (S : xi_S) (a0 : Nat) (a1 : Int32) (a2 : Nat) (a3 : Int32) (a4 : Int32) (m : xi_M) : (P_X9_moves S).2.2.2.2.2.2.1 121 [.ref a0, .int a1, .ref a2, .int a3, .int a4] m = (E_X9_copies S a0 a1 a2 a3 a4 m) := by
  show xi_calls [(121, xi_wS 5 (F_X9_copies S)), (193, xi_wS 3 (F_X9_mayMove S)), (196, xi_wS 2 (F_X9_seenBy S)), (202, xi_wS 2 (F_X9_stepOf S))] 121 [.ref a0, .int a1, .ref a2, .int a3, .int a4] m = _
  refine Eq.trans (b := xi_wS 5 (F_X9_copies S) [.ref a0, .int a1, .ref a2, .int a3, .int a4] m) (xi_calls_hit rfl) ?_
  exact xi_wS_eq rfl
theorem cc_X9_moves_193 (S : xi_S) (a0 : Nat) (a1 : Int32) (a2 : Int32) (m : xi_M) : (P_X9_moves S).2.2.2.2.2.2.1 193 [.ref a0, .int a1, .int a2] m = (E_X9_mayMove S a0 a1 a2 m) := by
  show xi_calls [(121, xi_wS 5 (F_X9_copies S)), (193, xi_wS 3 (F_X9_mayMove S)), (196, xi_wS 2 (F_X9_seenBy S)), (202, xi_wS 2 (F_X9_stepOf S))] 193 [.ref a0, .int a1, .int a2] m = _
  refine Eq.trans (b := xi_calls [(193, xi_wS 3 (F_X9_mayMove S)), (196, xi_wS 2 (F_X9_seenBy S)), (202, xi_wS 2 (F_X9_stepOf S))] 193 [.ref a0, .int a1, .int a2] m) (xi_calls_miss rfl) ?_
  refine Eq.trans (b := xi_wS 3 (F_X9_mayMove S) [.ref a0, .int a1, .int a2] m) (xi_calls_hit rfl) ?_
  exact xi_wS_eq rfl
theorem cc_X9_moves_196 (S : xi_S) (a0 : Nat) (a1 : Int32) (m : xi_M) : (P_X9_moves S).2.2.2.2.2.2.1 196 [.ref a0, .int a1] m = (E_X9_seenBy S a0 a1 m) := by
  show xi_calls [(121, xi_wS 5 (F_X9_copies S)), (193, xi_wS 3 (F_X9_mayMove S)), (196, xi_wS 2 (F_X9_seenBy S)), (202, xi_wS 2 (F_X9_stepOf S))] 196 [.ref a0, .int a1] m = _
  refine Eq.trans (b := xi_calls [(193, xi_wS 3 (F_X9_mayMove S)), (196, xi_wS 2 (F_X9_seenBy S)), (202, xi_wS 2 (F_X9_stepOf S))] 196 [.ref a0, .int a1] m) (xi_calls_miss rfl) ?_
  refine Eq.trans (b := xi_calls [(196, xi_wS 2 (F_X9_seenBy S)), (202, xi_wS 2 (F_X9_stepOf S))] 196 [.ref a0, .int a1] m) (xi_calls_miss rfl) ?_
  refine Eq.trans (b := xi_wS 2 (F_X9_seenBy S) [.ref a0, .int a1] m) (xi_calls_hit rfl) ?_
  exact xi_wS_eq rfl
theorem cc_X9_moves_202 (S : xi_S) (a0 : Int32) (a1 : Int32) (m : xi_M) : (P_X9_moves S).2.2.2.2.2.2.1 202 [.int a0, .int a1] m = (E_X9_stepOf S a0 a1 m) := by
  show xi_calls [(121, xi_wS 5 (F_X9_copies S)), (193, xi_wS 3 (F_X9_mayMove S)), (196, xi_wS 2 (F_X9_seenBy S)), (202, xi_wS 2 (F_X9_stepOf S))] 202 [.int a0, .int a1] m = _
  refine Eq.trans (b := xi_calls [(193, xi_wS 3 (F_X9_mayMove S)), (196, xi_wS 2 (F_X9_seenBy S)), (202, xi_wS 2 (F_X9_stepOf S))] 202 [.int a0, .int a1] m) (xi_calls_miss rfl) ?_
  refine Eq.trans (b := xi_calls [(196, xi_wS 2 (F_X9_seenBy S)), (202, xi_wS 2 (F_X9_stepOf S))] 202 [.int a0, .int a1] m) (xi_calls_miss rfl) ?_
  refine Eq.trans (b := xi_calls [(202, xi_wS 2 (F_X9_stepOf S))] 202 [.int a0, .int a1] m) (xi_calls_miss rfl) ?_
  refine Eq.trans (b := xi_wS 2 (F_X9_stepOf S) [.int a0, .int a1] m) (xi_calls_hit rfl) ?_
  exact xi_wS_eq rfl
def G_X9_moves_88 (S : xi_S) : Nat → Nat → Int32 → Int32 → xi_M → Option xi_R
  | 0, _, _, _, _ => none
  | n + 1, v0, v2, v3, m =>
    if (Int32.ofInt 4) ≤ v3 then
      some (some (.int v2), m)
    else
      if S.1 v0 = 11 then (S.2.2 v0 7).bind fun b2 =>
        xi_bI (E_X9_mayMove S b2 v3 (Int32.ofInt 0) m) fun x4 m3 =>
        if x4 = 0 then
          some (some (.int ((Int8.ofInt (-9)).toInt32)), m3)
        else
          G_X9_moves_88 S n v0 v2 (v3 + Int32.ofInt 1) m3
      else none
set_option maxRecDepth 100000 in
set_option maxHeartbeats 4000000 in
theorem xs_X9_moves_88 {S : xi_S} {res : xi_R} : ∀ (n : Nat) (v0 : Nat) (v2 : Int32) (v3 : Int32) (m : xi_M), G_X9_moves_88 S n v0 v2 v3 m = some res → xi_X S (P_X9_moves S) (88, [some (.ref v0), none, some (.int v2), some (.int v3), none], [], m) res := by
  intro n
  induction n with
  | zero => intro v0 v2 v3 m h; exact xi_no h
  | succ n ih =>
    intro v0 v2 v3 m h
    unfold G_X9_moves_88 at h
    refine xr_iload_n i_X9_moves_88 rfl (q := 89) rfl ?_
    refine xr_iconst i_X9_moves_89 (q := 90) rfl ?_
    by_cases c6 : (Int32.ofInt 4) ≤ v3
    · replace h := (if_pos c6).symm.trans h
      refine xr_if_icmp_ge_p i_X9_moves_90 c6 (q := 114) t_X9_moves_90 (q2 := 93) rfl ?_
      refine xr_iload_n i_X9_moves_114 rfl (q := 115) rfl ?_
      exact xr_ireturn i_X9_moves_115 rfl h
    · replace h := (if_neg c6).symm.trans h
      refine xr_if_icmp_ge_n i_X9_moves_90 c6 (q := 114) t_X9_moves_90 (q2 := 93) rfl ?_
      refine xr_aload_n i_X9_moves_93 rfl (q := 94) rfl ?_
      obtain ⟨c1, h⟩ := xi_if_some h
      obtain ⟨b2, eb2, h⟩ := xi_bind_some h
      refine xr_getR i_X9_moves_94 xfe_X9_31 c1 eb2 (q := 97) rfl ?_
      refine xr_iload_n i_X9_moves_97 rfl (q := 98) rfl ?_
      refine xr_iconst i_X9_moves_98 (q := 99) rfl ?_
      obtain ⟨x4, m3, em3, h⟩ := xi_bI_some h
      refine xr_SI i_X9_moves_99 xcse_X9_193 rfl (As := [.ref b2, .int v3, .int (Int32.ofInt 0)]) rfl (rest := []) rfl ((cc_X9_moves_193 S _ _ _ _).trans em3) (q := 102) rfl ?_
      by_cases c5 : x4 = 0
      · replace h := (if_pos c5).symm.trans h
        refine xr_ifCond_ne_p i_X9_moves_102 c5 (q := 108) t_X9_moves_102 (q2 := 105) rfl ?_
        refine xr_bipush i_X9_moves_105 (q := 107) rfl ?_
        exact xr_ireturn i_X9_moves_107 rfl h
      · replace h := (if_neg c5).symm.trans h
        refine xr_ifCond_ne_n i_X9_moves_102 c5 (q := 108) t_X9_moves_102 (q2 := 105) rfl ?_
        refine xr_iinc i_X9_moves_108 rfl rfl (L2 := [some (.ref v0), none, some (.int v2), some (.int (v3 + Int32.ofInt 1)), none]) rfl (q := 111) rfl ?_
        refine xr_goto i_X9_moves_111 (q := 88) t_X9_moves_111 ?_
        exact xi_X_le (xi_le_s (xi_le_n (xi_le_s (xi_le_s (xi_le_n xi_le_z))))) (ih _ _ _ _ h)
def G_X9_moves_19 (S : xi_S) : Nat → Nat → Int32 → Int32 → Int32 → xi_M → Option xi_R
  | 0, _, _, _, _, _ => none
  | n + 1, v0, v1, v2, v3, m =>
    if (Int32.ofInt 4) ≤ v3 then
      G_X9_moves_88 S 10000 v0 v2 (Int32.ofInt 0) m
    else
      xi_bI (E_X9_stepOf S v1 v3 m) fun x2 m1 =>
      if x2 = 0 then
        if S.1 v0 = 11 then (S.2.2 v0 7).bind fun b4 =>
          if S.1 b4 = 0 ∧ ¬ ((((Int8.ofInt 6).toInt32) + v3) < 0 ∨ S.2.1 b4 ≤ Int32.toNatClampNeg (((Int8.ofInt 6).toInt32) + v3)) then
            if S.1 b4 = 0 ∧ ¬ ((((Int8.ofInt 6).toInt32) + v3) < 0 ∨ S.2.1 b4 ≤ Int32.toNatClampNeg (((Int8.ofInt 6).toInt32) + v3)) then
              if 0 ≤ x2 then
                G_X9_moves_19 S n v0 v1 (v2 + x2) (v3 + Int32.ofInt 1) (xi_wI m1 b4 (Int32.toNatClampNeg (((Int8.ofInt 6).toInt32) + v3)) ((m1.1 b4 (Int32.toNatClampNeg (((Int8.ofInt 6).toInt32) + v3))) + x2))
              else
                G_X9_moves_19 S n v0 v1 (v2 + (-x2)) (v3 + Int32.ofInt 1) (xi_wI m1 b4 (Int32.toNatClampNeg (((Int8.ofInt 6).toInt32) + v3)) ((m1.1 b4 (Int32.toNatClampNeg (((Int8.ofInt 6).toInt32) + v3))) + x2))
            else none
          else none
        else none
      else
        if S.1 v0 = 11 then (S.2.2 v0 5).bind fun b9 =>
          xi_bI (E_X9_seenBy S b9 v3 m1) fun x11 m10 =>
          if x11 = 0 then
            if S.1 v0 = 11 then (S.2.2 v0 7).bind fun b13 =>
              if S.1 b13 = 0 ∧ ¬ ((((Int8.ofInt 6).toInt32) + v3) < 0 ∨ S.2.1 b13 ≤ Int32.toNatClampNeg (((Int8.ofInt 6).toInt32) + v3)) then
                if S.1 b13 = 0 ∧ ¬ ((((Int8.ofInt 6).toInt32) + v3) < 0 ∨ S.2.1 b13 ≤ Int32.toNatClampNeg (((Int8.ofInt 6).toInt32) + v3)) then
                  if 0 ≤ x2 then
                    G_X9_moves_19 S n v0 v1 (v2 + x2) (v3 + Int32.ofInt 1) (xi_wI m10 b13 (Int32.toNatClampNeg (((Int8.ofInt 6).toInt32) + v3)) ((m10.1 b13 (Int32.toNatClampNeg (((Int8.ofInt 6).toInt32) + v3))) + x2))
                  else
                    G_X9_moves_19 S n v0 v1 (v2 + (-x2)) (v3 + Int32.ofInt 1) (xi_wI m10 b13 (Int32.toNatClampNeg (((Int8.ofInt 6).toInt32) + v3)) ((m10.1 b13 (Int32.toNatClampNeg (((Int8.ofInt 6).toInt32) + v3))) + x2))
                else none
              else none
            else none
          else
            some (some (.int ((Int8.ofInt (-9)).toInt32)), m10)
        else none
set_option maxRecDepth 100000 in
set_option maxHeartbeats 4000000 in
theorem xs_X9_moves_19 {S : xi_S} {res : xi_R} : ∀ (n : Nat) (v0 : Nat) (v1 : Int32) (v2 : Int32) (v3 : Int32) (m : xi_M), G_X9_moves_19 S n v0 v1 v2 v3 m = some res → xi_X S (P_X9_moves S) (19, [some (.ref v0), some (.int v1), some (.int v2), some (.int v3), none], [], m) res := by
  intro n
  induction n with
  | zero => intro v0 v1 v2 v3 m h; exact xi_no h
  | succ n ih =>
    intro v0 v1 v2 v3 m h
    unfold G_X9_moves_19 at h
    refine xr_iload_n i_X9_moves_19 rfl (q := 20) rfl ?_
    refine xr_iconst i_X9_moves_20 (q := 21) rfl ?_
    by_cases c19 : (Int32.ofInt 4) ≤ v3
    · replace h := (if_pos c19).symm.trans h
      refine xr_if_icmp_ge_p i_X9_moves_21 c19 (q := 86) t_X9_moves_21 (q2 := 24) rfl ?_
      refine xr_iconst i_X9_moves_86 (q := 87) rfl ?_
      refine xr_istore_n i_X9_moves_87 rfl (L2 := [some (.ref v0), some (.int v1), some (.int v2), some (.int (Int32.ofInt 0)), none]) rfl (q := 88) rfl ?_
      exact xi_X_le (xi_le_s (xi_le_n (xi_le_s (xi_le_s (xi_le_n xi_le_z))))) (xs_X9_moves_88 10000 _ _ _ _ h)
    · replace h := (if_neg c19).symm.trans h
      refine xr_if_icmp_ge_n i_X9_moves_21 c19 (q := 86) t_X9_moves_21 (q2 := 24) rfl ?_
      refine xr_iload_n i_X9_moves_24 rfl (q := 25) rfl ?_
      refine xr_iload_n i_X9_moves_25 rfl (q := 26) rfl ?_
      obtain ⟨x2, m1, em1, h⟩ := xi_bI_some h
      refine xr_SI i_X9_moves_26 xcse_X9_202 rfl (As := [.int v1, .int v3]) rfl (rest := []) rfl ((cc_X9_moves_202 S _ _ _).trans em1) (q := 29) rfl ?_
      refine xr_istore i_X9_moves_29 rfl (L2 := [some (.ref v0), some (.int v1), some (.int v2), some (.int v3), some (.int x2)]) rfl (q := 31) rfl ?_
      refine xr_iload i_X9_moves_31 rfl (q := 33) rfl ?_
      by_cases c18 : x2 = 0
      · replace h := (if_pos c18).symm.trans h
        refine xr_ifCond_eq_p i_X9_moves_33 c18 (q := 50) t_X9_moves_33 (q2 := 36) rfl ?_
        refine xr_aload_n i_X9_moves_50 rfl (q := 51) rfl ?_
        obtain ⟨c3, h⟩ := xi_if_some h
        obtain ⟨b4, eb4, h⟩ := xi_bind_some h
        refine xr_getR i_X9_moves_51 xfe_X9_31 c3 eb4 (q := 54) rfl ?_
        refine xr_bipush i_X9_moves_54 (q := 56) rfl ?_
        refine xr_iload_n i_X9_moves_56 rfl (q := 57) rfl ?_
        refine xr_iadd i_X9_moves_57 (q := 58) rfl ?_
        refine xr_dup2 i_X9_moves_58 (q := 59) rfl ?_
        obtain ⟨c5, h⟩ := xi_if_some h
        refine xr_iaload i_X9_moves_59 c5 (q := 60) rfl ?_
        refine xr_iload i_X9_moves_60 rfl (q := 62) rfl ?_
        refine xr_iadd i_X9_moves_62 (q := 63) rfl ?_
        obtain ⟨c6, h⟩ := xi_if_some h
        refine xr_iastore i_X9_moves_63 c6 (q := 64) rfl ?_
        refine xr_iload_n i_X9_moves_64 rfl (q := 65) rfl ?_
        refine xr_iload i_X9_moves_65 rfl (q := 67) rfl ?_
        by_cases c7 : 0 ≤ x2
        · replace h := (if_pos c7).symm.trans h
          refine xr_ifCond_ge_p i_X9_moves_67 c7 (q := 76) t_X9_moves_67 (q2 := 70) rfl ?_
          refine xr_iload i_X9_moves_76 rfl (q := 78) rfl ?_
          refine xr_iadd i_X9_moves_78 (q := 79) rfl ?_
          refine xr_istore_n i_X9_moves_79 rfl (L2 := [some (.ref v0), some (.int v1), some (.int (v2 + x2)), some (.int v3), some (.int x2)]) rfl (q := 80) rfl ?_
          refine xr_iinc i_X9_moves_80 rfl rfl (L2 := [some (.ref v0), some (.int v1), some (.int (v2 + x2)), some (.int (v3 + Int32.ofInt 1)), some (.int x2)]) rfl (q := 83) rfl ?_
          refine xr_goto i_X9_moves_83 (q := 19) t_X9_moves_83 ?_
          exact xi_X_le (xi_le_s (xi_le_s (xi_le_s (xi_le_s (xi_le_n xi_le_z))))) (ih _ _ _ _ _ h)
        · replace h := (if_neg c7).symm.trans h
          refine xr_ifCond_ge_n i_X9_moves_67 c7 (q := 76) t_X9_moves_67 (q2 := 70) rfl ?_
          refine xr_iload i_X9_moves_70 rfl (q := 72) rfl ?_
          refine xr_ineg i_X9_moves_72 (q := 73) rfl ?_
          refine xr_goto i_X9_moves_73 (q := 78) t_X9_moves_73 ?_
          refine xr_iadd i_X9_moves_78 (q := 79) rfl ?_
          refine xr_istore_n i_X9_moves_79 rfl (L2 := [some (.ref v0), some (.int v1), some (.int (v2 + (-x2))), some (.int v3), some (.int x2)]) rfl (q := 80) rfl ?_
          refine xr_iinc i_X9_moves_80 rfl rfl (L2 := [some (.ref v0), some (.int v1), some (.int (v2 + (-x2))), some (.int (v3 + Int32.ofInt 1)), some (.int x2)]) rfl (q := 83) rfl ?_
          refine xr_goto i_X9_moves_83 (q := 19) t_X9_moves_83 ?_
          exact xi_X_le (xi_le_s (xi_le_s (xi_le_s (xi_le_s (xi_le_n xi_le_z))))) (ih _ _ _ _ _ h)
      · replace h := (if_neg c18).symm.trans h
        refine xr_ifCond_eq_n i_X9_moves_33 c18 (q := 50) t_X9_moves_33 (q2 := 36) rfl ?_
        refine xr_aload_n i_X9_moves_36 rfl (q := 37) rfl ?_
        obtain ⟨c8, h⟩ := xi_if_some h
        obtain ⟨b9, eb9, h⟩ := xi_bind_some h
        refine xr_getR i_X9_moves_37 xfe_X9_25 c8 eb9 (q := 40) rfl ?_
        refine xr_iload_n i_X9_moves_40 rfl (q := 41) rfl ?_
        obtain ⟨x11, m10, em10, h⟩ := xi_bI_some h
        refine xr_SI i_X9_moves_41 xcse_X9_196 rfl (As := [.ref b9, .int v3]) rfl (rest := []) rfl ((cc_X9_moves_196 S _ _ _).trans em10) (q := 44) rfl ?_
        by_cases c17 : x11 = 0
        · replace h := (if_pos c17).symm.trans h
          refine xr_ifCond_eq_p i_X9_moves_44 c17 (q := 50) t_X9_moves_44 (q2 := 47) rfl ?_
          refine xr_aload_n i_X9_moves_50 rfl (q := 51) rfl ?_
          obtain ⟨c12, h⟩ := xi_if_some h
          obtain ⟨b13, eb13, h⟩ := xi_bind_some h
          refine xr_getR i_X9_moves_51 xfe_X9_31 c12 eb13 (q := 54) rfl ?_
          refine xr_bipush i_X9_moves_54 (q := 56) rfl ?_
          refine xr_iload_n i_X9_moves_56 rfl (q := 57) rfl ?_
          refine xr_iadd i_X9_moves_57 (q := 58) rfl ?_
          refine xr_dup2 i_X9_moves_58 (q := 59) rfl ?_
          obtain ⟨c14, h⟩ := xi_if_some h
          refine xr_iaload i_X9_moves_59 c14 (q := 60) rfl ?_
          refine xr_iload i_X9_moves_60 rfl (q := 62) rfl ?_
          refine xr_iadd i_X9_moves_62 (q := 63) rfl ?_
          obtain ⟨c15, h⟩ := xi_if_some h
          refine xr_iastore i_X9_moves_63 c15 (q := 64) rfl ?_
          refine xr_iload_n i_X9_moves_64 rfl (q := 65) rfl ?_
          refine xr_iload i_X9_moves_65 rfl (q := 67) rfl ?_
          by_cases c16 : 0 ≤ x2
          · replace h := (if_pos c16).symm.trans h
            refine xr_ifCond_ge_p i_X9_moves_67 c16 (q := 76) t_X9_moves_67 (q2 := 70) rfl ?_
            refine xr_iload i_X9_moves_76 rfl (q := 78) rfl ?_
            refine xr_iadd i_X9_moves_78 (q := 79) rfl ?_
            refine xr_istore_n i_X9_moves_79 rfl (L2 := [some (.ref v0), some (.int v1), some (.int (v2 + x2)), some (.int v3), some (.int x2)]) rfl (q := 80) rfl ?_
            refine xr_iinc i_X9_moves_80 rfl rfl (L2 := [some (.ref v0), some (.int v1), some (.int (v2 + x2)), some (.int (v3 + Int32.ofInt 1)), some (.int x2)]) rfl (q := 83) rfl ?_
            refine xr_goto i_X9_moves_83 (q := 19) t_X9_moves_83 ?_
            exact xi_X_le (xi_le_s (xi_le_s (xi_le_s (xi_le_s (xi_le_n xi_le_z))))) (ih _ _ _ _ _ h)
          · replace h := (if_neg c16).symm.trans h
            refine xr_ifCond_ge_n i_X9_moves_67 c16 (q := 76) t_X9_moves_67 (q2 := 70) rfl ?_
            refine xr_iload i_X9_moves_70 rfl (q := 72) rfl ?_
            refine xr_ineg i_X9_moves_72 (q := 73) rfl ?_
            refine xr_goto i_X9_moves_73 (q := 78) t_X9_moves_73 ?_
            refine xr_iadd i_X9_moves_78 (q := 79) rfl ?_
            refine xr_istore_n i_X9_moves_79 rfl (L2 := [some (.ref v0), some (.int v1), some (.int (v2 + (-x2))), some (.int v3), some (.int x2)]) rfl (q := 80) rfl ?_
            refine xr_iinc i_X9_moves_80 rfl rfl (L2 := [some (.ref v0), some (.int v1), some (.int (v2 + (-x2))), some (.int (v3 + Int32.ofInt 1)), some (.int x2)]) rfl (q := 83) rfl ?_
            refine xr_goto i_X9_moves_83 (q := 19) t_X9_moves_83 ?_
            exact xi_X_le (xi_le_s (xi_le_s (xi_le_s (xi_le_s (xi_le_n xi_le_z))))) (ih _ _ _ _ _ h)
        · replace h := (if_neg c17).symm.trans h
          refine xr_ifCond_eq_n i_X9_moves_44 c17 (q := 50) t_X9_moves_44 (q2 := 47) rfl ?_
          refine xr_bipush i_X9_moves_47 (q := 49) rfl ?_
          exact xr_ireturn i_X9_moves_49 rfl h
def E_X9_moves (S : xi_S) (v0 : Nat) (v1 : Int32) (m : xi_M) : Option xi_R :=
  if S.1 v0 = 11 then (S.2.2 v0 5).bind fun b2 =>
    if S.1 v0 = 11 then (S.2.2 v0 7).bind fun b4 =>
      xi_bV (E_X9_copies S b2 (Int32.ofInt 0) b4 (Int32.ofInt 0) ((Int8.ofInt 34).toInt32) m) fun m5 =>
      G_X9_moves_19 S 10000 v0 v1 (Int32.ofInt 0) (Int32.ofInt 0) m5
    else none
  else none
def F_X9_moves (S : xi_S) : xi_F := fun As m => match As with
  | [.ref v0, .int v1] => E_X9_moves S v0 v1 m
  | _ => none
set_option maxRecDepth 100000 in
set_option maxHeartbeats 4000000 in
theorem xe_X9_moves {S : xi_S} {res : xi_R} (v0 : Nat) (v1 : Int32) (m : xi_M) (h : E_X9_moves S v0 v1 m = some res) : xi_X S (P_X9_moves S) (0, [some (.ref v0), some (.int v1), none, none, none], [], m) res := by
  unfold E_X9_moves at h
  refine xr_iconst i_X9_moves_0 (q := 1) rfl ?_
  refine xr_istore_n i_X9_moves_1 rfl (L2 := [some (.ref v0), some (.int v1), some (.int (Int32.ofInt 0)), none, none]) rfl (q := 2) rfl ?_
  refine xr_aload_n i_X9_moves_2 rfl (q := 3) rfl ?_
  obtain ⟨c1, h⟩ := xi_if_some h
  obtain ⟨b2, eb2, h⟩ := xi_bind_some h
  refine xr_getR i_X9_moves_3 xfe_X9_25 c1 eb2 (q := 6) rfl ?_
  refine xr_iconst i_X9_moves_6 (q := 7) rfl ?_
  refine xr_aload_n i_X9_moves_7 rfl (q := 8) rfl ?_
  obtain ⟨c3, h⟩ := xi_if_some h
  obtain ⟨b4, eb4, h⟩ := xi_bind_some h
  refine xr_getR i_X9_moves_8 xfe_X9_31 c3 eb4 (q := 11) rfl ?_
  refine xr_iconst i_X9_moves_11 (q := 12) rfl ?_
  refine xr_bipush i_X9_moves_12 (q := 14) rfl ?_
  obtain ⟨m5, em5, h⟩ := xi_bV_some h
  refine xr_SV i_X9_moves_14 xcse_X9_121 rfl (As := [.ref b2, .int (Int32.ofInt 0), .ref b4, .int (Int32.ofInt 0), .int ((Int8.ofInt 34).toInt32)]) rfl (rest := []) rfl ((cc_X9_moves_121 S _ _ _ _ _ _).trans em5) (q := 17) rfl ?_
  refine xr_iconst i_X9_moves_17 (q := 18) rfl ?_
  refine xr_istore_n i_X9_moves_18 rfl (L2 := [some (.ref v0), some (.int v1), some (.int (Int32.ofInt 0)), some (.int (Int32.ofInt 0)), none]) rfl (q := 19) rfl ?_
  exact xi_X_le (xi_le_s (xi_le_s (xi_le_s (xi_le_s (xi_le_n xi_le_z))))) (xs_X9_moves_19 10000 _ _ _ _ _ h)
set_option maxRecDepth 100000 in
theorem po_X9_moves {l : Launch} {E : xi_E} {S : xi_S} {D : va_G} {tys : List (ClassId × FieldType)} (hC : xCx E S tys) : xi_Pok l E S D vwCl tys xNs RX9 xTs cX9_moves 5 2 (P_X9_moves S) := ⟨xi_dc_ok, by rw [hC.2]; exact xfo_X9, xkio_X9, xklo_X9, xi_calls_ok (ins := .invokestatic) (List.forall_mem_cons.mpr ⟨(xc_X9_121 (sn_X9_copies hC) (by decide)), List.forall_mem_cons.mpr ⟨(xc_X9_193 (sn_X9_mayMove hC) (by decide)), List.forall_mem_cons.mpr ⟨(xc_X9_196 (sn_X9_seenBy hC) (by decide)), List.forall_mem_cons.mpr ⟨(xc_X9_202 (sn_X9_stepOf hC) (by decide)), fun _ h => absurd h List.not_mem_nil⟩⟩⟩⟩), xi_calls_ok (ins := .invokevirtual) (fun _ h => absurd h List.not_mem_nil)⟩
theorem sn_X9_moves {l : Launch} {E : xi_E} {S : xi_S} {D : va_G} {tys : List (ClassId × FieldType)} (hC : xCx E S tys) : ∀ As m1 r m2, F_X9_moves S As m1 = some (r, m2) → xi_Sound l E S D vwCl tys xNs xTs yX9_moves cX9_moves 5 (some .int) 2 As m1 r m2 := by
  intro As m1 r m2 h
  unfold F_X9_moves at h
  split at h
  · exact xi_meth (P := P_X9_moves S) (by decide) hC.1 (po_X9_moves hC) (Nat.le_of_ble_eq_true rfl) rfl (xe_X9_moves _ _ _ h)
  · exact xi_no h
theorem i_X9_amend_0 : xi_dc cX9_amend 0 = some (.iload_n 1, 1) := by decide +kernel
theorem i_X9_amend_1 : xi_dc cX9_amend 1 = some (.iconst 0, 1) := by decide +kernel
theorem i_X9_amend_2 : xi_dc cX9_amend 2 = some (.iconst 1, 1) := by decide +kernel
theorem i_X9_amend_3 : xi_dc cX9_amend 3 = some (.invokestatic 63, 3) := by decide +kernel
theorem i_X9_amend_6 : xi_dc cX9_amend 6 = some (.ifCond .eq 20, 3) := by decide +kernel
theorem t_X9_amend_6 : ((6 : Nat) : Int) + 20 = ((26 : Nat) : Int) := by decide +kernel
theorem i_X9_amend_9 : xi_dc cX9_amend 9 = some (.iload_n 2, 1) := by decide +kernel
theorem i_X9_amend_10 : xi_dc cX9_amend 10 = some (.iconst 0, 1) := by decide +kernel
theorem i_X9_amend_11 : xi_dc cX9_amend 11 = some (.bipush 6, 2) := by decide +kernel
theorem i_X9_amend_13 : xi_dc cX9_amend 13 = some (.invokestatic 63, 3) := by decide +kernel
theorem i_X9_amend_16 : xi_dc cX9_amend 16 = some (.ifCond .eq 10, 3) := by decide +kernel
theorem t_X9_amend_16 : ((16 : Nat) : Int) + 10 = ((26 : Nat) : Int) := by decide +kernel
theorem i_X9_amend_19 : xi_dc cX9_amend 19 = some (.iload_n 3, 1) := by decide +kernel
theorem i_X9_amend_20 : xi_dc cX9_amend 20 = some (.invokestatic 67, 3) := by decide +kernel
theorem i_X9_amend_23 : xi_dc cX9_amend 23 = some (.ifCond .ne 5, 3) := by decide +kernel
theorem t_X9_amend_23 : ((23 : Nat) : Int) + 5 = ((28 : Nat) : Int) := by decide +kernel
theorem i_X9_amend_26 : xi_dc cX9_amend 26 = some (.iconst (-1), 1) := by decide +kernel
theorem i_X9_amend_27 : xi_dc cX9_amend 27 = some (.ireturn, 1) := by decide +kernel
theorem i_X9_amend_28 : xi_dc cX9_amend 28 = some (.aload_n 0, 1) := by decide +kernel
theorem i_X9_amend_29 : xi_dc cX9_amend 29 = some (.invokevirtual 183, 3) := by decide +kernel
theorem i_X9_amend_32 : xi_dc cX9_amend 32 = some (.ifCond .ne 6, 3) := by decide +kernel
theorem t_X9_amend_32 : ((32 : Nat) : Int) + 6 = ((38 : Nat) : Int) := by decide +kernel
theorem i_X9_amend_35 : xi_dc cX9_amend 35 = some (.bipush (-4), 2) := by decide +kernel
theorem i_X9_amend_37 : xi_dc cX9_amend 37 = some (.ireturn, 1) := by decide +kernel
theorem i_X9_amend_38 : xi_dc cX9_amend 38 = some (.bipush (-9), 2) := by decide +kernel
theorem i_X9_amend_40 : xi_dc cX9_amend 40 = some (.istore 4, 2) := by decide +kernel
theorem i_X9_amend_42 : xi_dc cX9_amend 42 = some (.bipush 13, 2) := by decide +kernel
theorem i_X9_amend_44 : xi_dc cX9_amend 44 = some (.istore 5, 2) := by decide +kernel
theorem i_X9_amend_46 : xi_dc cX9_amend 46 = some (.iconst 0, 1) := by decide +kernel
theorem i_X9_amend_47 : xi_dc cX9_amend 47 = some (.istore 6, 2) := by decide +kernel
theorem i_X9_amend_49 : xi_dc cX9_amend 49 = some (.iload 6, 2) := by decide +kernel
theorem i_X9_amend_51 : xi_dc cX9_amend 51 = some (.sipush 2401, 3) := by decide +kernel
theorem i_X9_amend_54 : xi_dc cX9_amend 54 = some (.if_icmp .ge 65, 3) := by decide +kernel
theorem t_X9_amend_54 : ((54 : Nat) : Int) + 65 = ((119 : Nat) : Int) := by decide +kernel
theorem i_X9_amend_57 : xi_dc cX9_amend 57 = some (.aload_n 0, 1) := by decide +kernel
theorem i_X9_amend_58 : xi_dc cX9_amend 58 = some (.iload 6, 2) := by decide +kernel
theorem i_X9_amend_60 : xi_dc cX9_amend 60 = some (.invokevirtual 205, 3) := by decide +kernel
theorem i_X9_amend_63 : xi_dc cX9_amend 63 = some (.istore 7, 2) := by decide +kernel
theorem i_X9_amend_65 : xi_dc cX9_amend 65 = some (.iload 7, 2) := by decide +kernel
theorem i_X9_amend_67 : xi_dc cX9_amend 67 = some (.bipush (-9), 2) := by decide +kernel
theorem i_X9_amend_69 : xi_dc cX9_amend 69 = some (.if_icmp .eq 44, 3) := by decide +kernel
theorem t_X9_amend_69 : ((69 : Nat) : Int) + 44 = ((113 : Nat) : Int) := by decide +kernel
theorem i_X9_amend_72 : xi_dc cX9_amend 72 = some (.iload 7, 2) := by decide +kernel
theorem i_X9_amend_74 : xi_dc cX9_amend 74 = some (.iload 5, 2) := by decide +kernel
theorem i_X9_amend_76 : xi_dc cX9_amend 76 = some (.if_icmp .ge 37, 3) := by decide +kernel
theorem t_X9_amend_76 : ((76 : Nat) : Int) + 37 = ((113 : Nat) : Int) := by decide +kernel
theorem i_X9_amend_79 : xi_dc cX9_amend 79 = some (.iload_n 1, 1) := by decide +kernel
theorem i_X9_amend_80 : xi_dc cX9_amend 80 = some (.ifCond .ne 13, 3) := by decide +kernel
theorem t_X9_amend_80 : ((80 : Nat) : Int) + 13 = ((93 : Nat) : Int) := by decide +kernel
theorem i_X9_amend_83 : xi_dc cX9_amend 83 = some (.aload_n 0, 1) := by decide +kernel
theorem i_X9_amend_84 : xi_dc cX9_amend 84 = some (.getfield 31, 3) := by decide +kernel
theorem i_X9_amend_87 : xi_dc cX9_amend 87 = some (.invokestatic 199, 3) := by decide +kernel
theorem i_X9_amend_90 : xi_dc cX9_amend 90 = some (.goto 11, 3) := by decide +kernel
theorem t_X9_amend_90 : ((90 : Nat) : Int) + 11 = ((101 : Nat) : Int) := by decide +kernel
theorem i_X9_amend_93 : xi_dc cX9_amend 93 = some (.aload_n 0, 1) := by decide +kernel
theorem i_X9_amend_94 : xi_dc cX9_amend 94 = some (.getfield 31, 3) := by decide +kernel
theorem i_X9_amend_97 : xi_dc cX9_amend 97 = some (.invokestatic 199, 3) := by decide +kernel
theorem i_X9_amend_100 : xi_dc cX9_amend 100 = some (.ineg, 1) := by decide +kernel
theorem i_X9_amend_101 : xi_dc cX9_amend 101 = some (.iload_n 2, 1) := by decide +kernel
theorem i_X9_amend_102 : xi_dc cX9_amend 102 = some (.if_icmp .lt 11, 3) := by decide +kernel
theorem t_X9_amend_102 : ((102 : Nat) : Int) + 11 = ((113 : Nat) : Int) := by decide +kernel
theorem i_X9_amend_105 : xi_dc cX9_amend 105 = some (.iload 6, 2) := by decide +kernel
theorem i_X9_amend_107 : xi_dc cX9_amend 107 = some (.istore 4, 2) := by decide +kernel
theorem i_X9_amend_109 : xi_dc cX9_amend 109 = some (.iload 7, 2) := by decide +kernel
theorem i_X9_amend_111 : xi_dc cX9_amend 111 = some (.istore 5, 2) := by decide +kernel
theorem i_X9_amend_113 : xi_dc cX9_amend 113 = some (.iinc 6 1, 3) := by decide +kernel
theorem i_X9_amend_116 : xi_dc cX9_amend 116 = some (.goto (-67), 3) := by decide +kernel
theorem t_X9_amend_116 : ((116 : Nat) : Int) + (-67) = ((49 : Nat) : Int) := by decide +kernel
theorem i_X9_amend_119 : xi_dc cX9_amend 119 = some (.iload 4, 2) := by decide +kernel
theorem i_X9_amend_121 : xi_dc cX9_amend 121 = some (.bipush (-9), 2) := by decide +kernel
theorem i_X9_amend_123 : xi_dc cX9_amend 123 = some (.if_icmp .ne 6, 3) := by decide +kernel
theorem t_X9_amend_123 : ((123 : Nat) : Int) + 6 = ((129 : Nat) : Int) := by decide +kernel
theorem i_X9_amend_126 : xi_dc cX9_amend 126 = some (.bipush (-9), 2) := by decide +kernel
theorem i_X9_amend_128 : xi_dc cX9_amend 128 = some (.ireturn, 1) := by decide +kernel
theorem i_X9_amend_129 : xi_dc cX9_amend 129 = some (.aload_n 0, 1) := by decide +kernel
theorem i_X9_amend_130 : xi_dc cX9_amend 130 = some (.getfield 7, 3) := by decide +kernel
theorem i_X9_amend_133 : xi_dc cX9_amend 133 = some (.iload_n 3, 1) := by decide +kernel
theorem i_X9_amend_134 : xi_dc cX9_amend 134 = some (.iconst 4, 1) := by decide +kernel
theorem i_X9_amend_135 : xi_dc cX9_amend 135 = some (.iastore, 1) := by decide +kernel
theorem i_X9_amend_136 : xi_dc cX9_amend 136 = some (.iconst 0, 1) := by decide +kernel
theorem i_X9_amend_137 : xi_dc cX9_amend 137 = some (.istore 6, 2) := by decide +kernel
theorem i_X9_amend_139 : xi_dc cX9_amend 139 = some (.iload 6, 2) := by decide +kernel
theorem i_X9_amend_141 : xi_dc cX9_amend 141 = some (.bipush 40, 2) := by decide +kernel
theorem i_X9_amend_143 : xi_dc cX9_amend 143 = some (.if_icmp .ge 38, 3) := by decide +kernel
theorem t_X9_amend_143 : ((143 : Nat) : Int) + 38 = ((181 : Nat) : Int) := by decide +kernel
theorem i_X9_amend_146 : xi_dc cX9_amend 146 = some (.aload_n 0, 1) := by decide +kernel
theorem i_X9_amend_147 : xi_dc cX9_amend 147 = some (.getfield 13, 3) := by decide +kernel
theorem i_X9_amend_150 : xi_dc cX9_amend 150 = some (.bipush 40, 2) := by decide +kernel
theorem i_X9_amend_152 : xi_dc cX9_amend 152 = some (.iload_n 3, 1) := by decide +kernel
theorem i_X9_amend_153 : xi_dc cX9_amend 153 = some (.imul, 1) := by decide +kernel
theorem i_X9_amend_154 : xi_dc cX9_amend 154 = some (.iload 6, 2) := by decide +kernel
theorem i_X9_amend_156 : xi_dc cX9_amend 156 = some (.iadd, 1) := by decide +kernel
theorem i_X9_amend_157 : xi_dc cX9_amend 157 = some (.iload 6, 2) := by decide +kernel
theorem i_X9_amend_159 : xi_dc cX9_amend 159 = some (.iconst 4, 1) := by decide +kernel
theorem i_X9_amend_160 : xi_dc cX9_amend 160 = some (.if_icmp .ge 13, 3) := by decide +kernel
theorem t_X9_amend_160 : ((160 : Nat) : Int) + 13 = ((173 : Nat) : Int) := by decide +kernel
theorem i_X9_amend_163 : xi_dc cX9_amend 163 = some (.iload 4, 2) := by decide +kernel
theorem i_X9_amend_165 : xi_dc cX9_amend 165 = some (.iload 6, 2) := by decide +kernel
theorem i_X9_amend_167 : xi_dc cX9_amend 167 = some (.invokestatic 202, 3) := by decide +kernel
theorem i_X9_amend_170 : xi_dc cX9_amend 170 = some (.goto 4, 3) := by decide +kernel
theorem t_X9_amend_170 : ((170 : Nat) : Int) + 4 = ((174 : Nat) : Int) := by decide +kernel
theorem i_X9_amend_173 : xi_dc cX9_amend 173 = some (.iconst 0, 1) := by decide +kernel
theorem i_X9_amend_174 : xi_dc cX9_amend 174 = some (.iastore, 1) := by decide +kernel
theorem i_X9_amend_175 : xi_dc cX9_amend 175 = some (.iinc 6 1, 3) := by decide +kernel
theorem i_X9_amend_178 : xi_dc cX9_amend 178 = some (.goto (-39), 3) := by decide +kernel
theorem t_X9_amend_178 : ((178 : Nat) : Int) + (-39) = ((139 : Nat) : Int) := by decide +kernel
theorem i_X9_amend_181 : xi_dc cX9_amend 181 = some (.iload 5, 2) := by decide +kernel
theorem i_X9_amend_183 : xi_dc cX9_amend 183 = some (.ireturn, 1) := by decide +kernel
def P_X9_amend (S : xi_S) : xi_P := (xi_dc cX9_amend, xi_tab xfl_X9, xi_tab xki_X9, xi_tab xkl_X9, xi_tab xcs_X9, xi_tab xcv_X9, xi_calls [(63, xi_wS 3 (F_X9_in0 S)), (67, xi_wS 1 (F_X9_isRow S)), (199, xi_wS 1 (F_X9_ahead S)), (202, xi_wS 2 (F_X9_stepOf S))], xi_calls [(183, xi_wV S 11 0 (F_X9_isAny S)), (205, xi_wV S 11 1 (F_X9_moves S))], 1)
theorem cc_X9_amend_63 (S : xi_S) (a0 : Int32) (a1 : Int32) (a2 : Int32) (m : xi_M) : (P_X9_amend S).2.2.2.2.2.2.1 63 [.int a0, .int a1, .int a2] m = (E_X9_in0 S a0 a1 a2 m) := by
  show xi_calls [(63, xi_wS 3 (F_X9_in0 S)), (67, xi_wS 1 (F_X9_isRow S)), (199, xi_wS 1 (F_X9_ahead S)), (202, xi_wS 2 (F_X9_stepOf S))] 63 [.int a0, .int a1, .int a2] m = _
  refine Eq.trans (b := xi_wS 3 (F_X9_in0 S) [.int a0, .int a1, .int a2] m) (xi_calls_hit rfl) ?_
  exact xi_wS_eq rfl
theorem cc_X9_amend_67 (S : xi_S) (a0 : Int32) (m : xi_M) : (P_X9_amend S).2.2.2.2.2.2.1 67 [.int a0] m = (E_X9_isRow S a0 m) := by
  show xi_calls [(63, xi_wS 3 (F_X9_in0 S)), (67, xi_wS 1 (F_X9_isRow S)), (199, xi_wS 1 (F_X9_ahead S)), (202, xi_wS 2 (F_X9_stepOf S))] 67 [.int a0] m = _
  refine Eq.trans (b := xi_calls [(67, xi_wS 1 (F_X9_isRow S)), (199, xi_wS 1 (F_X9_ahead S)), (202, xi_wS 2 (F_X9_stepOf S))] 67 [.int a0] m) (xi_calls_miss rfl) ?_
  refine Eq.trans (b := xi_wS 1 (F_X9_isRow S) [.int a0] m) (xi_calls_hit rfl) ?_
  exact xi_wS_eq rfl
theorem cc_X9_amend_199 (S : xi_S) (a0 : Nat) (m : xi_M) : (P_X9_amend S).2.2.2.2.2.2.1 199 [.ref a0] m = (E_X9_ahead S a0 m) := by
  show xi_calls [(63, xi_wS 3 (F_X9_in0 S)), (67, xi_wS 1 (F_X9_isRow S)), (199, xi_wS 1 (F_X9_ahead S)), (202, xi_wS 2 (F_X9_stepOf S))] 199 [.ref a0] m = _
  refine Eq.trans (b := xi_calls [(67, xi_wS 1 (F_X9_isRow S)), (199, xi_wS 1 (F_X9_ahead S)), (202, xi_wS 2 (F_X9_stepOf S))] 199 [.ref a0] m) (xi_calls_miss rfl) ?_
  refine Eq.trans (b := xi_calls [(199, xi_wS 1 (F_X9_ahead S)), (202, xi_wS 2 (F_X9_stepOf S))] 199 [.ref a0] m) (xi_calls_miss rfl) ?_
  refine Eq.trans (b := xi_wS 1 (F_X9_ahead S) [.ref a0] m) (xi_calls_hit rfl) ?_
  exact xi_wS_eq rfl
theorem cc_X9_amend_202 (S : xi_S) (a0 : Int32) (a1 : Int32) (m : xi_M) : (P_X9_amend S).2.2.2.2.2.2.1 202 [.int a0, .int a1] m = (E_X9_stepOf S a0 a1 m) := by
  show xi_calls [(63, xi_wS 3 (F_X9_in0 S)), (67, xi_wS 1 (F_X9_isRow S)), (199, xi_wS 1 (F_X9_ahead S)), (202, xi_wS 2 (F_X9_stepOf S))] 202 [.int a0, .int a1] m = _
  refine Eq.trans (b := xi_calls [(67, xi_wS 1 (F_X9_isRow S)), (199, xi_wS 1 (F_X9_ahead S)), (202, xi_wS 2 (F_X9_stepOf S))] 202 [.int a0, .int a1] m) (xi_calls_miss rfl) ?_
  refine Eq.trans (b := xi_calls [(199, xi_wS 1 (F_X9_ahead S)), (202, xi_wS 2 (F_X9_stepOf S))] 202 [.int a0, .int a1] m) (xi_calls_miss rfl) ?_
  refine Eq.trans (b := xi_calls [(202, xi_wS 2 (F_X9_stepOf S))] 202 [.int a0, .int a1] m) (xi_calls_miss rfl) ?_
  refine Eq.trans (b := xi_wS 2 (F_X9_stepOf S) [.int a0, .int a1] m) (xi_calls_hit rfl) ?_
  exact xi_wS_eq rfl
theorem cc_X9_amend_183 (S : xi_S) (a0 : Nat) (m : xi_M) : (P_X9_amend S).2.2.2.2.2.2.2.1 183 [.ref a0] m = (if S.1 a0 = 11 then E_X9_isAny S a0 m else none) := by
  show xi_calls [(183, xi_wV S 11 0 (F_X9_isAny S)), (205, xi_wV S 11 1 (F_X9_moves S))] 183 [.ref a0] m = _
  refine Eq.trans (b := xi_wV S 11 0 (F_X9_isAny S) [.ref a0] m) (xi_calls_hit rfl) ?_
  exact xi_wV_eq rfl
theorem cc_X9_amend_205 (S : xi_S) (a0 : Nat) (a1 : Int32) (m : xi_M) : (P_X9_amend S).2.2.2.2.2.2.2.1 205 [.ref a0, .int a1] m = (if S.1 a0 = 11 then E_X9_moves S a0 a1 m else none) := by
  show xi_calls [(183, xi_wV S 11 0 (F_X9_isAny S)), (205, xi_wV S 11 1 (F_X9_moves S))] 205 [.ref a0, .int a1] m = _
  refine Eq.trans (b := xi_calls [(205, xi_wV S 11 1 (F_X9_moves S))] 205 [.ref a0, .int a1] m) (xi_calls_miss rfl) ?_
  refine Eq.trans (b := xi_wV S 11 1 (F_X9_moves S) [.ref a0, .int a1] m) (xi_calls_hit rfl) ?_
  exact xi_wV_eq rfl
def G_X9_amend_139 (S : xi_S) : Nat → Nat → Int32 → Int32 → Int32 → Int32 → xi_M → Option xi_R
  | 0, _, _, _, _, _, _ => none
  | n + 1, v0, v3, v4, v5, v6, m =>
    if ((Int8.ofInt 40).toInt32) ≤ v6 then
      some (some (.int v5), m)
    else
      if S.1 v0 = 11 then (S.2.2 v0 1).bind fun b2 =>
        if (Int32.ofInt 4) ≤ v6 then
          if S.1 b2 = 0 ∧ ¬ (((((Int8.ofInt 40).toInt32) * v3) + v6) < 0 ∨ S.2.1 b2 ≤ Int32.toNatClampNeg ((((Int8.ofInt 40).toInt32) * v3) + v6)) then
            G_X9_amend_139 S n v0 v3 v4 v5 (v6 + Int32.ofInt 1) (xi_wI m b2 (Int32.toNatClampNeg ((((Int8.ofInt 40).toInt32) * v3) + v6)) (Int32.ofInt 0))
          else none
        else
          xi_bI (E_X9_stepOf S v4 v6 m) fun x5 m4 =>
          if S.1 b2 = 0 ∧ ¬ (((((Int8.ofInt 40).toInt32) * v3) + v6) < 0 ∨ S.2.1 b2 ≤ Int32.toNatClampNeg ((((Int8.ofInt 40).toInt32) * v3) + v6)) then
            G_X9_amend_139 S n v0 v3 v4 v5 (v6 + Int32.ofInt 1) (xi_wI m4 b2 (Int32.toNatClampNeg ((((Int8.ofInt 40).toInt32) * v3) + v6)) x5)
          else none
      else none
set_option maxRecDepth 100000 in
set_option maxHeartbeats 4000000 in
theorem xs_X9_amend_139 {S : xi_S} {res : xi_R} : ∀ (n : Nat) (v0 : Nat) (v3 : Int32) (v4 : Int32) (v5 : Int32) (v6 : Int32) (m : xi_M), G_X9_amend_139 S n v0 v3 v4 v5 v6 m = some res → xi_X S (P_X9_amend S) (139, [some (.ref v0), none, none, some (.int v3), some (.int v4), some (.int v5), some (.int v6), none], [], m) res := by
  intro n
  induction n with
  | zero => intro v0 v3 v4 v5 v6 m h; exact xi_no h
  | succ n ih =>
    intro v0 v3 v4 v5 v6 m h
    unfold G_X9_amend_139 at h
    refine xr_iload i_X9_amend_139 rfl (q := 141) rfl ?_
    refine xr_bipush i_X9_amend_141 (q := 143) rfl ?_
    by_cases c8 : ((Int8.ofInt 40).toInt32) ≤ v6
    · replace h := (if_pos c8).symm.trans h
      refine xr_if_icmp_ge_p i_X9_amend_143 c8 (q := 181) t_X9_amend_143 (q2 := 146) rfl ?_
      refine xr_iload i_X9_amend_181 rfl (q := 183) rfl ?_
      exact xr_ireturn i_X9_amend_183 rfl h
    · replace h := (if_neg c8).symm.trans h
      refine xr_if_icmp_ge_n i_X9_amend_143 c8 (q := 181) t_X9_amend_143 (q2 := 146) rfl ?_
      refine xr_aload_n i_X9_amend_146 rfl (q := 147) rfl ?_
      obtain ⟨c1, h⟩ := xi_if_some h
      obtain ⟨b2, eb2, h⟩ := xi_bind_some h
      refine xr_getR i_X9_amend_147 xfe_X9_13 c1 eb2 (q := 150) rfl ?_
      refine xr_bipush i_X9_amend_150 (q := 152) rfl ?_
      refine xr_iload_n i_X9_amend_152 rfl (q := 153) rfl ?_
      refine xr_imul i_X9_amend_153 (q := 154) rfl ?_
      refine xr_iload i_X9_amend_154 rfl (q := 156) rfl ?_
      refine xr_iadd i_X9_amend_156 (q := 157) rfl ?_
      refine xr_iload i_X9_amend_157 rfl (q := 159) rfl ?_
      refine xr_iconst i_X9_amend_159 (q := 160) rfl ?_
      by_cases c7 : (Int32.ofInt 4) ≤ v6
      · replace h := (if_pos c7).symm.trans h
        refine xr_if_icmp_ge_p i_X9_amend_160 c7 (q := 173) t_X9_amend_160 (q2 := 163) rfl ?_
        refine xr_iconst i_X9_amend_173 (q := 174) rfl ?_
        obtain ⟨c3, h⟩ := xi_if_some h
        refine xr_iastore i_X9_amend_174 c3 (q := 175) rfl ?_
        refine xr_iinc i_X9_amend_175 rfl rfl (L2 := [some (.ref v0), none, none, some (.int v3), some (.int v4), some (.int v5), some (.int (v6 + Int32.ofInt 1)), none]) rfl (q := 178) rfl ?_
        refine xr_goto i_X9_amend_178 (q := 139) t_X9_amend_178 ?_
        exact xi_X_le (xi_le_s (xi_le_n (xi_le_n (xi_le_s (xi_le_s (xi_le_s (xi_le_s (xi_le_n xi_le_z)))))))) (ih _ _ _ _ _ _ h)
      · replace h := (if_neg c7).symm.trans h
        refine xr_if_icmp_ge_n i_X9_amend_160 c7 (q := 173) t_X9_amend_160 (q2 := 163) rfl ?_
        refine xr_iload i_X9_amend_163 rfl (q := 165) rfl ?_
        refine xr_iload i_X9_amend_165 rfl (q := 167) rfl ?_
        obtain ⟨x5, m4, em4, h⟩ := xi_bI_some h
        refine xr_SI i_X9_amend_167 xcse_X9_202 rfl (As := [.int v4, .int v6]) rfl (rest := [.int ((((Int8.ofInt 40).toInt32) * v3) + v6), .ref b2]) rfl ((cc_X9_amend_202 S _ _ _).trans em4) (q := 170) rfl ?_
        refine xr_goto i_X9_amend_170 (q := 174) t_X9_amend_170 ?_
        obtain ⟨c6, h⟩ := xi_if_some h
        refine xr_iastore i_X9_amend_174 c6 (q := 175) rfl ?_
        refine xr_iinc i_X9_amend_175 rfl rfl (L2 := [some (.ref v0), none, none, some (.int v3), some (.int v4), some (.int v5), some (.int (v6 + Int32.ofInt 1)), none]) rfl (q := 178) rfl ?_
        refine xr_goto i_X9_amend_178 (q := 139) t_X9_amend_178 ?_
        exact xi_X_le (xi_le_s (xi_le_n (xi_le_n (xi_le_s (xi_le_s (xi_le_s (xi_le_s (xi_le_n xi_le_z)))))))) (ih _ _ _ _ _ _ h)
def G_X9_amend_49 (S : xi_S) : Nat → Nat → Int32 → Int32 → Int32 → Int32 → Int32 → Int32 → xi_M → Option xi_R
  | 0, _, _, _, _, _, _, _, _ => none
  | n + 1, v0, v1, v2, v3, v4, v5, v6, m =>
    if ((Int16.ofInt 2401).toInt32) ≤ v6 then
      if v4 = ((Int8.ofInt (-9)).toInt32) then
        some (some (.int ((Int8.ofInt (-9)).toInt32)), m)
      else
        if S.1 v0 = 11 then (S.2.2 v0 0).bind fun b2 =>
          if S.1 b2 = 0 ∧ ¬ (v3 < 0 ∨ S.2.1 b2 ≤ Int32.toNatClampNeg v3) then
            G_X9_amend_139 S 10000 v0 v3 v4 v5 (Int32.ofInt 0) (xi_wI m b2 (Int32.toNatClampNeg v3) (Int32.ofInt 4))
          else none
        else none
    else
      xi_bI (if S.1 v0 = 11 then E_X9_moves S v0 v6 m else none) fun x6 m5 =>
      if x6 = ((Int8.ofInt (-9)).toInt32) then
        G_X9_amend_49 S n v0 v1 v2 v3 v4 v5 (v6 + Int32.ofInt 1) m5
      else
        if v5 ≤ x6 then
          G_X9_amend_49 S n v0 v1 v2 v3 v4 v5 (v6 + Int32.ofInt 1) m5
        else
          if v1 = 0 then
            if S.1 v0 = 11 then (S.2.2 v0 7).bind fun b13 =>
              xi_bI (E_X9_ahead S b13 m5) fun x15 m14 =>
              if x15 < v2 then
                G_X9_amend_49 S n v0 v1 v2 v3 v4 v5 (v6 + Int32.ofInt 1) m14
              else
                G_X9_amend_49 S n v0 v1 v2 v3 v6 x6 (v6 + Int32.ofInt 1) m14
            else none
          else
            if S.1 v0 = 11 then (S.2.2 v0 7).bind fun b8 =>
              xi_bI (E_X9_ahead S b8 m5) fun x10 m9 =>
              if (-x10) < v2 then
                G_X9_amend_49 S n v0 v1 v2 v3 v4 v5 (v6 + Int32.ofInt 1) m9
              else
                G_X9_amend_49 S n v0 v1 v2 v3 v6 x6 (v6 + Int32.ofInt 1) m9
            else none
set_option maxRecDepth 100000 in
set_option maxHeartbeats 4000000 in
theorem xs_X9_amend_49 {S : xi_S} {res : xi_R} : ∀ (n : Nat) (v0 : Nat) (v1 : Int32) (v2 : Int32) (v3 : Int32) (v4 : Int32) (v5 : Int32) (v6 : Int32) (m : xi_M), G_X9_amend_49 S n v0 v1 v2 v3 v4 v5 v6 m = some res → xi_X S (P_X9_amend S) (49, [some (.ref v0), some (.int v1), some (.int v2), some (.int v3), some (.int v4), some (.int v5), some (.int v6), none], [], m) res := by
  intro n
  induction n with
  | zero => intro v0 v1 v2 v3 v4 v5 v6 m h; exact xi_no h
  | succ n ih =>
    intro v0 v1 v2 v3 v4 v5 v6 m h
    unfold G_X9_amend_49 at h
    refine xr_iload i_X9_amend_49 rfl (q := 51) rfl ?_
    refine xr_sipush i_X9_amend_51 (q := 54) rfl ?_
    by_cases c20 : ((Int16.ofInt 2401).toInt32) ≤ v6
    · replace h := (if_pos c20).symm.trans h
      refine xr_if_icmp_ge_p i_X9_amend_54 c20 (q := 119) t_X9_amend_54 (q2 := 57) rfl ?_
      refine xr_iload i_X9_amend_119 rfl (q := 121) rfl ?_
      refine xr_bipush i_X9_amend_121 (q := 123) rfl ?_
      by_cases c4 : v4 = ((Int8.ofInt (-9)).toInt32)
      · replace h := (if_pos c4).symm.trans h
        refine xr_if_icmp_ne_p i_X9_amend_123 c4 (q := 129) t_X9_amend_123 (q2 := 126) rfl ?_
        refine xr_bipush i_X9_amend_126 (q := 128) rfl ?_
        exact xr_ireturn i_X9_amend_128 rfl h
      · replace h := (if_neg c4).symm.trans h
        refine xr_if_icmp_ne_n i_X9_amend_123 c4 (q := 129) t_X9_amend_123 (q2 := 126) rfl ?_
        refine xr_aload_n i_X9_amend_129 rfl (q := 130) rfl ?_
        obtain ⟨c1, h⟩ := xi_if_some h
        obtain ⟨b2, eb2, h⟩ := xi_bind_some h
        refine xr_getR i_X9_amend_130 xfe_X9_7 c1 eb2 (q := 133) rfl ?_
        refine xr_iload_n i_X9_amend_133 rfl (q := 134) rfl ?_
        refine xr_iconst i_X9_amend_134 (q := 135) rfl ?_
        obtain ⟨c3, h⟩ := xi_if_some h
        refine xr_iastore i_X9_amend_135 c3 (q := 136) rfl ?_
        refine xr_iconst i_X9_amend_136 (q := 137) rfl ?_
        refine xr_istore i_X9_amend_137 rfl (L2 := [some (.ref v0), some (.int v1), some (.int v2), some (.int v3), some (.int v4), some (.int v5), some (.int (Int32.ofInt 0)), none]) rfl (q := 139) rfl ?_
        exact xi_X_le (xi_le_s (xi_le_n (xi_le_n (xi_le_s (xi_le_s (xi_le_s (xi_le_s (xi_le_n xi_le_z)))))))) (xs_X9_amend_139 10000 _ _ _ _ _ _ h)
    · replace h := (if_neg c20).symm.trans h
      refine xr_if_icmp_ge_n i_X9_amend_54 c20 (q := 119) t_X9_amend_54 (q2 := 57) rfl ?_
      refine xr_aload_n i_X9_amend_57 rfl (q := 58) rfl ?_
      refine xr_iload i_X9_amend_58 rfl (q := 60) rfl ?_
      obtain ⟨x6, m5, em5, h⟩ := xi_bI_some h
      refine xr_VI i_X9_amend_60 xcve_X9_205 rfl (As := [.ref v0, .int v6]) rfl (rest := []) rfl ((cc_X9_amend_205 S _ _ _).trans em5) (q := 63) rfl ?_
      refine xr_istore i_X9_amend_63 rfl (L2 := [some (.ref v0), some (.int v1), some (.int v2), some (.int v3), some (.int v4), some (.int v5), some (.int v6), some (.int x6)]) rfl (q := 65) rfl ?_
      refine xr_iload i_X9_amend_65 rfl (q := 67) rfl ?_
      refine xr_bipush i_X9_amend_67 (q := 69) rfl ?_
      by_cases c19 : x6 = ((Int8.ofInt (-9)).toInt32)
      · replace h := (if_pos c19).symm.trans h
        refine xr_if_icmp_eq_p i_X9_amend_69 c19 (q := 113) t_X9_amend_69 (q2 := 72) rfl ?_
        refine xr_iinc i_X9_amend_113 rfl rfl (L2 := [some (.ref v0), some (.int v1), some (.int v2), some (.int v3), some (.int v4), some (.int v5), some (.int (v6 + Int32.ofInt 1)), some (.int x6)]) rfl (q := 116) rfl ?_
        refine xr_goto i_X9_amend_116 (q := 49) t_X9_amend_116 ?_
        exact xi_X_le (xi_le_s (xi_le_s (xi_le_s (xi_le_s (xi_le_s (xi_le_s (xi_le_s (xi_le_n xi_le_z)))))))) (ih _ _ _ _ _ _ _ _ h)
      · replace h := (if_neg c19).symm.trans h
        refine xr_if_icmp_eq_n i_X9_amend_69 c19 (q := 113) t_X9_amend_69 (q2 := 72) rfl ?_
        refine xr_iload i_X9_amend_72 rfl (q := 74) rfl ?_
        refine xr_iload i_X9_amend_74 rfl (q := 76) rfl ?_
        by_cases c18 : v5 ≤ x6
        · replace h := (if_pos c18).symm.trans h
          refine xr_if_icmp_ge_p i_X9_amend_76 c18 (q := 113) t_X9_amend_76 (q2 := 79) rfl ?_
          refine xr_iinc i_X9_amend_113 rfl rfl (L2 := [some (.ref v0), some (.int v1), some (.int v2), some (.int v3), some (.int v4), some (.int v5), some (.int (v6 + Int32.ofInt 1)), some (.int x6)]) rfl (q := 116) rfl ?_
          refine xr_goto i_X9_amend_116 (q := 49) t_X9_amend_116 ?_
          exact xi_X_le (xi_le_s (xi_le_s (xi_le_s (xi_le_s (xi_le_s (xi_le_s (xi_le_s (xi_le_n xi_le_z)))))))) (ih _ _ _ _ _ _ _ _ h)
        · replace h := (if_neg c18).symm.trans h
          refine xr_if_icmp_ge_n i_X9_amend_76 c18 (q := 113) t_X9_amend_76 (q2 := 79) rfl ?_
          refine xr_iload_n i_X9_amend_79 rfl (q := 80) rfl ?_
          by_cases c17 : v1 = 0
          · replace h := (if_pos c17).symm.trans h
            refine xr_ifCond_ne_p i_X9_amend_80 c17 (q := 93) t_X9_amend_80 (q2 := 83) rfl ?_
            refine xr_aload_n i_X9_amend_83 rfl (q := 84) rfl ?_
            obtain ⟨c12, h⟩ := xi_if_some h
            obtain ⟨b13, eb13, h⟩ := xi_bind_some h
            refine xr_getR i_X9_amend_84 xfe_X9_31 c12 eb13 (q := 87) rfl ?_
            obtain ⟨x15, m14, em14, h⟩ := xi_bI_some h
            refine xr_SI i_X9_amend_87 xcse_X9_199 rfl (As := [.ref b13]) rfl (rest := []) rfl ((cc_X9_amend_199 S _ _).trans em14) (q := 90) rfl ?_
            refine xr_goto i_X9_amend_90 (q := 101) t_X9_amend_90 ?_
            refine xr_iload_n i_X9_amend_101 rfl (q := 102) rfl ?_
            by_cases c16 : x15 < v2
            · replace h := (if_pos c16).symm.trans h
              refine xr_if_icmp_lt_p i_X9_amend_102 c16 (q := 113) t_X9_amend_102 (q2 := 105) rfl ?_
              refine xr_iinc i_X9_amend_113 rfl rfl (L2 := [some (.ref v0), some (.int v1), some (.int v2), some (.int v3), some (.int v4), some (.int v5), some (.int (v6 + Int32.ofInt 1)), some (.int x6)]) rfl (q := 116) rfl ?_
              refine xr_goto i_X9_amend_116 (q := 49) t_X9_amend_116 ?_
              exact xi_X_le (xi_le_s (xi_le_s (xi_le_s (xi_le_s (xi_le_s (xi_le_s (xi_le_s (xi_le_n xi_le_z)))))))) (ih _ _ _ _ _ _ _ _ h)
            · replace h := (if_neg c16).symm.trans h
              refine xr_if_icmp_lt_n i_X9_amend_102 c16 (q := 113) t_X9_amend_102 (q2 := 105) rfl ?_
              refine xr_iload i_X9_amend_105 rfl (q := 107) rfl ?_
              refine xr_istore i_X9_amend_107 rfl (L2 := [some (.ref v0), some (.int v1), some (.int v2), some (.int v3), some (.int v6), some (.int v5), some (.int v6), some (.int x6)]) rfl (q := 109) rfl ?_
              refine xr_iload i_X9_amend_109 rfl (q := 111) rfl ?_
              refine xr_istore i_X9_amend_111 rfl (L2 := [some (.ref v0), some (.int v1), some (.int v2), some (.int v3), some (.int v6), some (.int x6), some (.int v6), some (.int x6)]) rfl (q := 113) rfl ?_
              refine xr_iinc i_X9_amend_113 rfl rfl (L2 := [some (.ref v0), some (.int v1), some (.int v2), some (.int v3), some (.int v6), some (.int x6), some (.int (v6 + Int32.ofInt 1)), some (.int x6)]) rfl (q := 116) rfl ?_
              refine xr_goto i_X9_amend_116 (q := 49) t_X9_amend_116 ?_
              exact xi_X_le (xi_le_s (xi_le_s (xi_le_s (xi_le_s (xi_le_s (xi_le_s (xi_le_s (xi_le_n xi_le_z)))))))) (ih _ _ _ _ _ _ _ _ h)
          · replace h := (if_neg c17).symm.trans h
            refine xr_ifCond_ne_n i_X9_amend_80 c17 (q := 93) t_X9_amend_80 (q2 := 83) rfl ?_
            refine xr_aload_n i_X9_amend_93 rfl (q := 94) rfl ?_
            obtain ⟨c7, h⟩ := xi_if_some h
            obtain ⟨b8, eb8, h⟩ := xi_bind_some h
            refine xr_getR i_X9_amend_94 xfe_X9_31 c7 eb8 (q := 97) rfl ?_
            obtain ⟨x10, m9, em9, h⟩ := xi_bI_some h
            refine xr_SI i_X9_amend_97 xcse_X9_199 rfl (As := [.ref b8]) rfl (rest := []) rfl ((cc_X9_amend_199 S _ _).trans em9) (q := 100) rfl ?_
            refine xr_ineg i_X9_amend_100 (q := 101) rfl ?_
            refine xr_iload_n i_X9_amend_101 rfl (q := 102) rfl ?_
            by_cases c11 : (-x10) < v2
            · replace h := (if_pos c11).symm.trans h
              refine xr_if_icmp_lt_p i_X9_amend_102 c11 (q := 113) t_X9_amend_102 (q2 := 105) rfl ?_
              refine xr_iinc i_X9_amend_113 rfl rfl (L2 := [some (.ref v0), some (.int v1), some (.int v2), some (.int v3), some (.int v4), some (.int v5), some (.int (v6 + Int32.ofInt 1)), some (.int x6)]) rfl (q := 116) rfl ?_
              refine xr_goto i_X9_amend_116 (q := 49) t_X9_amend_116 ?_
              exact xi_X_le (xi_le_s (xi_le_s (xi_le_s (xi_le_s (xi_le_s (xi_le_s (xi_le_s (xi_le_n xi_le_z)))))))) (ih _ _ _ _ _ _ _ _ h)
            · replace h := (if_neg c11).symm.trans h
              refine xr_if_icmp_lt_n i_X9_amend_102 c11 (q := 113) t_X9_amend_102 (q2 := 105) rfl ?_
              refine xr_iload i_X9_amend_105 rfl (q := 107) rfl ?_
              refine xr_istore i_X9_amend_107 rfl (L2 := [some (.ref v0), some (.int v1), some (.int v2), some (.int v3), some (.int v6), some (.int v5), some (.int v6), some (.int x6)]) rfl (q := 109) rfl ?_
              refine xr_iload i_X9_amend_109 rfl (q := 111) rfl ?_
              refine xr_istore i_X9_amend_111 rfl (L2 := [some (.ref v0), some (.int v1), some (.int v2), some (.int v3), some (.int v6), some (.int x6), some (.int v6), some (.int x6)]) rfl (q := 113) rfl ?_
              refine xr_iinc i_X9_amend_113 rfl rfl (L2 := [some (.ref v0), some (.int v1), some (.int v2), some (.int v3), some (.int v6), some (.int x6), some (.int (v6 + Int32.ofInt 1)), some (.int x6)]) rfl (q := 116) rfl ?_
              refine xr_goto i_X9_amend_116 (q := 49) t_X9_amend_116 ?_
              exact xi_X_le (xi_le_s (xi_le_s (xi_le_s (xi_le_s (xi_le_s (xi_le_s (xi_le_s (xi_le_n xi_le_z)))))))) (ih _ _ _ _ _ _ _ _ h)
def E_X9_amend (S : xi_S) (v0 : Nat) (v1 : Int32) (v2 : Int32) (v3 : Int32) (m : xi_M) : Option xi_R :=
  xi_bI (E_X9_in0 S v1 (Int32.ofInt 0) (Int32.ofInt 1) m) fun x2 m1 =>
  if x2 = 0 then
    some (some (.int (Int32.ofInt (-1))), m1)
  else
    xi_bI (E_X9_in0 S v2 (Int32.ofInt 0) ((Int8.ofInt 6).toInt32) m1) fun x4 m3 =>
    if x4 = 0 then
      some (some (.int (Int32.ofInt (-1))), m3)
    else
      xi_bI (E_X9_isRow S v3 m3) fun x6 m5 =>
      if x6 = 0 then
        some (some (.int (Int32.ofInt (-1))), m5)
      else
        xi_bI (if S.1 v0 = 11 then E_X9_isAny S v0 m5 else none) fun x8 m7 =>
        if x8 = 0 then
          some (some (.int ((Int8.ofInt (-4)).toInt32)), m7)
        else
          G_X9_amend_49 S 10000 v0 v1 v2 v3 ((Int8.ofInt (-9)).toInt32) ((Int8.ofInt 13).toInt32) (Int32.ofInt 0) m7
def F_X9_amend (S : xi_S) : xi_F := fun As m => match As with
  | [.ref v0, .int v1, .int v2, .int v3] => E_X9_amend S v0 v1 v2 v3 m
  | _ => none
set_option maxRecDepth 100000 in
set_option maxHeartbeats 4000000 in
theorem xe_X9_amend {S : xi_S} {res : xi_R} (v0 : Nat) (v1 : Int32) (v2 : Int32) (v3 : Int32) (m : xi_M) (h : E_X9_amend S v0 v1 v2 v3 m = some res) : xi_X S (P_X9_amend S) (0, [some (.ref v0), some (.int v1), some (.int v2), some (.int v3), none, none, none, none], [], m) res := by
  unfold E_X9_amend at h
  refine xr_iload_n i_X9_amend_0 rfl (q := 1) rfl ?_
  refine xr_iconst i_X9_amend_1 (q := 2) rfl ?_
  refine xr_iconst i_X9_amend_2 (q := 3) rfl ?_
  obtain ⟨x2, m1, em1, h⟩ := xi_bI_some h
  refine xr_SI i_X9_amend_3 xcse_X9_63 rfl (As := [.int v1, .int (Int32.ofInt 0), .int (Int32.ofInt 1)]) rfl (rest := []) rfl ((cc_X9_amend_63 S _ _ _ _).trans em1) (q := 6) rfl ?_
  by_cases c12 : x2 = 0
  · replace h := (if_pos c12).symm.trans h
    refine xr_ifCond_eq_p i_X9_amend_6 c12 (q := 26) t_X9_amend_6 (q2 := 9) rfl ?_
    refine xr_iconst i_X9_amend_26 (q := 27) rfl ?_
    exact xr_ireturn i_X9_amend_27 rfl h
  · replace h := (if_neg c12).symm.trans h
    refine xr_ifCond_eq_n i_X9_amend_6 c12 (q := 26) t_X9_amend_6 (q2 := 9) rfl ?_
    refine xr_iload_n i_X9_amend_9 rfl (q := 10) rfl ?_
    refine xr_iconst i_X9_amend_10 (q := 11) rfl ?_
    refine xr_bipush i_X9_amend_11 (q := 13) rfl ?_
    obtain ⟨x4, m3, em3, h⟩ := xi_bI_some h
    refine xr_SI i_X9_amend_13 xcse_X9_63 rfl (As := [.int v2, .int (Int32.ofInt 0), .int ((Int8.ofInt 6).toInt32)]) rfl (rest := []) rfl ((cc_X9_amend_63 S _ _ _ _).trans em3) (q := 16) rfl ?_
    by_cases c11 : x4 = 0
    · replace h := (if_pos c11).symm.trans h
      refine xr_ifCond_eq_p i_X9_amend_16 c11 (q := 26) t_X9_amend_16 (q2 := 19) rfl ?_
      refine xr_iconst i_X9_amend_26 (q := 27) rfl ?_
      exact xr_ireturn i_X9_amend_27 rfl h
    · replace h := (if_neg c11).symm.trans h
      refine xr_ifCond_eq_n i_X9_amend_16 c11 (q := 26) t_X9_amend_16 (q2 := 19) rfl ?_
      refine xr_iload_n i_X9_amend_19 rfl (q := 20) rfl ?_
      obtain ⟨x6, m5, em5, h⟩ := xi_bI_some h
      refine xr_SI i_X9_amend_20 xcse_X9_67 rfl (As := [.int v3]) rfl (rest := []) rfl ((cc_X9_amend_67 S _ _).trans em5) (q := 23) rfl ?_
      by_cases c10 : x6 = 0
      · replace h := (if_pos c10).symm.trans h
        refine xr_ifCond_ne_p i_X9_amend_23 c10 (q := 28) t_X9_amend_23 (q2 := 26) rfl ?_
        refine xr_iconst i_X9_amend_26 (q := 27) rfl ?_
        exact xr_ireturn i_X9_amend_27 rfl h
      · replace h := (if_neg c10).symm.trans h
        refine xr_ifCond_ne_n i_X9_amend_23 c10 (q := 28) t_X9_amend_23 (q2 := 26) rfl ?_
        refine xr_aload_n i_X9_amend_28 rfl (q := 29) rfl ?_
        obtain ⟨x8, m7, em7, h⟩ := xi_bI_some h
        refine xr_VI i_X9_amend_29 xcve_X9_183 rfl (As := [.ref v0]) rfl (rest := []) rfl ((cc_X9_amend_183 S _ _).trans em7) (q := 32) rfl ?_
        by_cases c9 : x8 = 0
        · replace h := (if_pos c9).symm.trans h
          refine xr_ifCond_ne_p i_X9_amend_32 c9 (q := 38) t_X9_amend_32 (q2 := 35) rfl ?_
          refine xr_bipush i_X9_amend_35 (q := 37) rfl ?_
          exact xr_ireturn i_X9_amend_37 rfl h
        · replace h := (if_neg c9).symm.trans h
          refine xr_ifCond_ne_n i_X9_amend_32 c9 (q := 38) t_X9_amend_32 (q2 := 35) rfl ?_
          refine xr_bipush i_X9_amend_38 (q := 40) rfl ?_
          refine xr_istore i_X9_amend_40 rfl (L2 := [some (.ref v0), some (.int v1), some (.int v2), some (.int v3), some (.int ((Int8.ofInt (-9)).toInt32)), none, none, none]) rfl (q := 42) rfl ?_
          refine xr_bipush i_X9_amend_42 (q := 44) rfl ?_
          refine xr_istore i_X9_amend_44 rfl (L2 := [some (.ref v0), some (.int v1), some (.int v2), some (.int v3), some (.int ((Int8.ofInt (-9)).toInt32)), some (.int ((Int8.ofInt 13).toInt32)), none, none]) rfl (q := 46) rfl ?_
          refine xr_iconst i_X9_amend_46 (q := 47) rfl ?_
          refine xr_istore i_X9_amend_47 rfl (L2 := [some (.ref v0), some (.int v1), some (.int v2), some (.int v3), some (.int ((Int8.ofInt (-9)).toInt32)), some (.int ((Int8.ofInt 13).toInt32)), some (.int (Int32.ofInt 0)), none]) rfl (q := 49) rfl ?_
          exact xi_X_le (xi_le_s (xi_le_s (xi_le_s (xi_le_s (xi_le_s (xi_le_s (xi_le_s (xi_le_n xi_le_z)))))))) (xs_X9_amend_49 10000 _ _ _ _ _ _ _ _ h)
set_option maxRecDepth 100000 in
theorem po_X9_amend {l : Launch} {E : xi_E} {S : xi_S} {D : va_G} {tys : List (ClassId × FieldType)} (hC : xCx E S tys) : xi_Pok l E S D vwCl tys xNs RX9 xTs cX9_amend 8 7 (P_X9_amend S) := ⟨xi_dc_ok, by rw [hC.2]; exact xfo_X9, xkio_X9, xklo_X9, xi_calls_ok (ins := .invokestatic) (List.forall_mem_cons.mpr ⟨(xc_X9_63 (sn_X9_in0 hC) (by decide)), List.forall_mem_cons.mpr ⟨(xc_X9_67 (sn_X9_isRow hC) (by decide)), List.forall_mem_cons.mpr ⟨(xc_X9_199 (sn_X9_ahead hC) (by decide)), List.forall_mem_cons.mpr ⟨(xc_X9_202 (sn_X9_stepOf hC) (by decide)), fun _ h => absurd h List.not_mem_nil⟩⟩⟩⟩), xi_calls_ok (ins := .invokevirtual) (List.forall_mem_cons.mpr ⟨(xc_X9_183 hC.1 (sn_X9_isAny hC) (by decide)), List.forall_mem_cons.mpr ⟨(xc_X9_205 hC.1 (sn_X9_moves hC) (by decide)), fun _ h => absurd h List.not_mem_nil⟩⟩)⟩
theorem sn_X9_amend {l : Launch} {E : xi_E} {S : xi_S} {D : va_G} {tys : List (ClassId × FieldType)} (hC : xCx E S tys) : ∀ As m1 r m2, F_X9_amend S As m1 = some (r, m2) → xi_Sound l E S D vwCl tys xNs xTs yX9_amend cX9_amend 8 (some .int) 7 As m1 r m2 := by
  intro As m1 r m2 h
  unfold F_X9_amend at h
  split at h
  · exact xi_meth (P := P_X9_amend S) (by decide) hC.1 (po_X9_amend hC) (Nat.le_of_ble_eq_true rfl) rfl (xe_X9_amend _ _ _ _ _ h)
  · exact xi_no h
theorem i_X9_wrongIn_0 : xi_dc cX9_wrongIn 0 = some (.aload_n 0, 1) := by decide +kernel
theorem i_X9_wrongIn_1 : xi_dc cX9_wrongIn 1 = some (.getfield 7, 3) := by decide +kernel
theorem i_X9_wrongIn_4 : xi_dc cX9_wrongIn 4 = some (.iload_n 1, 1) := by decide +kernel
theorem i_X9_wrongIn_5 : xi_dc cX9_wrongIn 5 = some (.iaload, 1) := by decide +kernel
theorem i_X9_wrongIn_6 : xi_dc cX9_wrongIn 6 = some (.bipush (-9), 2) := by decide +kernel
theorem i_X9_wrongIn_8 : xi_dc cX9_wrongIn 8 = some (.if_icmp .ne 5, 3) := by decide +kernel
theorem t_X9_wrongIn_8 : ((8 : Nat) : Int) + 5 = ((13 : Nat) : Int) := by decide +kernel
theorem i_X9_wrongIn_11 : xi_dc cX9_wrongIn 11 = some (.iconst 1, 1) := by decide +kernel
theorem i_X9_wrongIn_12 : xi_dc cX9_wrongIn 12 = some (.ireturn, 1) := by decide +kernel
theorem i_X9_wrongIn_13 : xi_dc cX9_wrongIn 13 = some (.aload_n 0, 1) := by decide +kernel
theorem i_X9_wrongIn_14 : xi_dc cX9_wrongIn 14 = some (.getfield 7, 3) := by decide +kernel
theorem i_X9_wrongIn_17 : xi_dc cX9_wrongIn 17 = some (.iload_n 1, 1) := by decide +kernel
theorem i_X9_wrongIn_18 : xi_dc cX9_wrongIn 18 = some (.iaload, 1) := by decide +kernel
theorem i_X9_wrongIn_19 : xi_dc cX9_wrongIn 19 = some (.iconst 2, 1) := by decide +kernel
theorem i_X9_wrongIn_20 : xi_dc cX9_wrongIn 20 = some (.irem, 1) := by decide +kernel
theorem i_X9_wrongIn_21 : xi_dc cX9_wrongIn 21 = some (.iconst 1, 1) := by decide +kernel
theorem i_X9_wrongIn_22 : xi_dc cX9_wrongIn 22 = some (.if_icmp .eq 14, 3) := by decide +kernel
theorem t_X9_wrongIn_22 : ((22 : Nat) : Int) + 14 = ((36 : Nat) : Int) := by decide +kernel
theorem i_X9_wrongIn_25 : xi_dc cX9_wrongIn 25 = some (.aload_n 0, 1) := by decide +kernel
theorem i_X9_wrongIn_26 : xi_dc cX9_wrongIn 26 = some (.getfield 7, 3) := by decide +kernel
theorem i_X9_wrongIn_29 : xi_dc cX9_wrongIn 29 = some (.iload_n 1, 1) := by decide +kernel
theorem i_X9_wrongIn_30 : xi_dc cX9_wrongIn 30 = some (.iaload, 1) := by decide +kernel
theorem i_X9_wrongIn_31 : xi_dc cX9_wrongIn 31 = some (.bipush 16, 2) := by decide +kernel
theorem i_X9_wrongIn_33 : xi_dc cX9_wrongIn 33 = some (.if_icmp .le 5, 3) := by decide +kernel
theorem t_X9_wrongIn_33 : ((33 : Nat) : Int) + 5 = ((38 : Nat) : Int) := by decide +kernel
theorem i_X9_wrongIn_36 : xi_dc cX9_wrongIn 36 = some (.iconst 5, 1) := by decide +kernel
theorem i_X9_wrongIn_37 : xi_dc cX9_wrongIn 37 = some (.ireturn, 1) := by decide +kernel
theorem i_X9_wrongIn_38 : xi_dc cX9_wrongIn 38 = some (.iconst 0, 1) := by decide +kernel
theorem i_X9_wrongIn_39 : xi_dc cX9_wrongIn 39 = some (.istore 4, 2) := by decide +kernel
theorem i_X9_wrongIn_41 : xi_dc cX9_wrongIn 41 = some (.iload 4, 2) := by decide +kernel
theorem i_X9_wrongIn_43 : xi_dc cX9_wrongIn 43 = some (.aload_n 0, 1) := by decide +kernel
theorem i_X9_wrongIn_44 : xi_dc cX9_wrongIn 44 = some (.getfield 7, 3) := by decide +kernel
theorem i_X9_wrongIn_47 : xi_dc cX9_wrongIn 47 = some (.iload_n 1, 1) := by decide +kernel
theorem i_X9_wrongIn_48 : xi_dc cX9_wrongIn 48 = some (.iaload, 1) := by decide +kernel
theorem i_X9_wrongIn_49 : xi_dc cX9_wrongIn 49 = some (.if_icmp .ge 42, 3) := by decide +kernel
theorem t_X9_wrongIn_49 : ((49 : Nat) : Int) + 42 = ((91 : Nat) : Int) := by decide +kernel
theorem i_X9_wrongIn_52 : xi_dc cX9_wrongIn 52 = some (.aload_n 0, 1) := by decide +kernel
theorem i_X9_wrongIn_53 : xi_dc cX9_wrongIn 53 = some (.getfield 13, 3) := by decide +kernel
theorem i_X9_wrongIn_56 : xi_dc cX9_wrongIn 56 = some (.bipush 40, 2) := by decide +kernel
theorem i_X9_wrongIn_58 : xi_dc cX9_wrongIn 58 = some (.iload_n 1, 1) := by decide +kernel
theorem i_X9_wrongIn_59 : xi_dc cX9_wrongIn 59 = some (.imul, 1) := by decide +kernel
theorem i_X9_wrongIn_60 : xi_dc cX9_wrongIn 60 = some (.iload 4, 2) := by decide +kernel
theorem i_X9_wrongIn_62 : xi_dc cX9_wrongIn 62 = some (.iadd, 1) := by decide +kernel
theorem i_X9_wrongIn_63 : xi_dc cX9_wrongIn 63 = some (.iaload, 1) := by decide +kernel
theorem i_X9_wrongIn_64 : xi_dc cX9_wrongIn 64 = some (.iconst 0, 1) := by decide +kernel
theorem i_X9_wrongIn_65 : xi_dc cX9_wrongIn 65 = some (.iload 4, 2) := by decide +kernel
theorem i_X9_wrongIn_67 : xi_dc cX9_wrongIn 67 = some (.iconst 2, 1) := by decide +kernel
theorem i_X9_wrongIn_68 : xi_dc cX9_wrongIn 68 = some (.irem, 1) := by decide +kernel
theorem i_X9_wrongIn_69 : xi_dc cX9_wrongIn 69 = some (.ifCond .ne 7, 3) := by decide +kernel
theorem t_X9_wrongIn_69 : ((69 : Nat) : Int) + 7 = ((76 : Nat) : Int) := by decide +kernel
theorem i_X9_wrongIn_72 : xi_dc cX9_wrongIn 72 = some (.iload_n 2, 1) := by decide +kernel
theorem i_X9_wrongIn_73 : xi_dc cX9_wrongIn 73 = some (.goto 4, 3) := by decide +kernel
theorem t_X9_wrongIn_73 : ((73 : Nat) : Int) + 4 = ((77 : Nat) : Int) := by decide +kernel
theorem i_X9_wrongIn_76 : xi_dc cX9_wrongIn 76 = some (.iload_n 3, 1) := by decide +kernel
theorem i_X9_wrongIn_77 : xi_dc cX9_wrongIn 77 = some (.invokestatic 63, 3) := by decide +kernel
theorem i_X9_wrongIn_80 : xi_dc cX9_wrongIn 80 = some (.ifCond .ne 5, 3) := by decide +kernel
theorem t_X9_wrongIn_80 : ((80 : Nat) : Int) + 5 = ((85 : Nat) : Int) := by decide +kernel
theorem i_X9_wrongIn_83 : xi_dc cX9_wrongIn 83 = some (.iconst 3, 1) := by decide +kernel
theorem i_X9_wrongIn_84 : xi_dc cX9_wrongIn 84 = some (.ireturn, 1) := by decide +kernel
theorem i_X9_wrongIn_85 : xi_dc cX9_wrongIn 85 = some (.iinc 4 1, 3) := by decide +kernel
theorem i_X9_wrongIn_88 : xi_dc cX9_wrongIn 88 = some (.goto (-47), 3) := by decide +kernel
theorem t_X9_wrongIn_88 : ((88 : Nat) : Int) + (-47) = ((41 : Nat) : Int) := by decide +kernel
theorem i_X9_wrongIn_91 : xi_dc cX9_wrongIn 91 = some (.iconst 0, 1) := by decide +kernel
theorem i_X9_wrongIn_92 : xi_dc cX9_wrongIn 92 = some (.ireturn, 1) := by decide +kernel
def P_X9_wrongIn (S : xi_S) : xi_P := (xi_dc cX9_wrongIn, xi_tab xfl_X9, xi_tab xki_X9, xi_tab xkl_X9, xi_tab xcs_X9, xi_tab xcv_X9, xi_calls [(63, xi_wS 3 (F_X9_in0 S))], xi_calls [], 1)
theorem cc_X9_wrongIn_63 (S : xi_S) (a0 : Int32) (a1 : Int32) (a2 : Int32) (m : xi_M) : (P_X9_wrongIn S).2.2.2.2.2.2.1 63 [.int a0, .int a1, .int a2] m = (E_X9_in0 S a0 a1 a2 m) := by
  show xi_calls [(63, xi_wS 3 (F_X9_in0 S))] 63 [.int a0, .int a1, .int a2] m = _
  refine Eq.trans (b := xi_wS 3 (F_X9_in0 S) [.int a0, .int a1, .int a2] m) (xi_calls_hit rfl) ?_
  exact xi_wS_eq rfl
def G_X9_wrongIn_41 (S : xi_S) : Nat → Nat → Int32 → Int32 → Int32 → Int32 → xi_M → Option xi_R
  | 0, _, _, _, _, _, _ => none
  | n + 1, v0, v1, v2, v3, v4, m =>
    if S.1 v0 = 11 then (S.2.2 v0 0).bind fun b2 =>
      if S.1 b2 = 0 ∧ ¬ (v1 < 0 ∨ S.2.1 b2 ≤ Int32.toNatClampNeg v1) then
        if (m.1 b2 (Int32.toNatClampNeg v1)) ≤ v4 then
          some (some (.int (Int32.ofInt 0)), m)
        else
          if S.1 v0 = 11 then (S.2.2 v0 1).bind fun b5 =>
            if S.1 b5 = 0 ∧ ¬ (((((Int8.ofInt 40).toInt32) * v1) + v4) < 0 ∨ S.2.1 b5 ≤ Int32.toNatClampNeg ((((Int8.ofInt 40).toInt32) * v1) + v4)) then
              if (Int32.ofInt 2) = 0 then none else
              if (v4 - v4 / (Int32.ofInt 2) * (Int32.ofInt 2)) = 0 then
                xi_bI (E_X9_in0 S (m.1 b5 (Int32.toNatClampNeg ((((Int8.ofInt 40).toInt32) * v1) + v4))) (Int32.ofInt 0) v2 m) fun x12 m11 =>
                if x12 = 0 then
                  some (some (.int (Int32.ofInt 3)), m11)
                else
                  G_X9_wrongIn_41 S n v0 v1 v2 v3 (v4 + Int32.ofInt 1) m11
              else
                xi_bI (E_X9_in0 S (m.1 b5 (Int32.toNatClampNeg ((((Int8.ofInt 40).toInt32) * v1) + v4))) (Int32.ofInt 0) v3 m) fun x9 m8 =>
                if x9 = 0 then
                  some (some (.int (Int32.ofInt 3)), m8)
                else
                  G_X9_wrongIn_41 S n v0 v1 v2 v3 (v4 + Int32.ofInt 1) m8
            else none
          else none
      else none
    else none
set_option maxRecDepth 100000 in
set_option maxHeartbeats 4000000 in
theorem xs_X9_wrongIn_41 {S : xi_S} {res : xi_R} : ∀ (n : Nat) (v0 : Nat) (v1 : Int32) (v2 : Int32) (v3 : Int32) (v4 : Int32) (m : xi_M), G_X9_wrongIn_41 S n v0 v1 v2 v3 v4 m = some res → xi_X S (P_X9_wrongIn S) (41, [some (.ref v0), some (.int v1), some (.int v2), some (.int v3), some (.int v4)], [], m) res := by
  intro n
  induction n with
  | zero => intro v0 v1 v2 v3 v4 m h; exact xi_no h
  | succ n ih =>
    intro v0 v1 v2 v3 v4 m h
    unfold G_X9_wrongIn_41 at h
    refine xr_iload i_X9_wrongIn_41 rfl (q := 43) rfl ?_
    refine xr_aload_n i_X9_wrongIn_43 rfl (q := 44) rfl ?_
    obtain ⟨c1, h⟩ := xi_if_some h
    obtain ⟨b2, eb2, h⟩ := xi_bind_some h
    refine xr_getR i_X9_wrongIn_44 xfe_X9_7 c1 eb2 (q := 47) rfl ?_
    refine xr_iload_n i_X9_wrongIn_47 rfl (q := 48) rfl ?_
    obtain ⟨c3, h⟩ := xi_if_some h
    refine xr_iaload i_X9_wrongIn_48 c3 (q := 49) rfl ?_
    by_cases c15 : (m.1 b2 (Int32.toNatClampNeg v1)) ≤ v4
    · replace h := (if_pos c15).symm.trans h
      refine xr_if_icmp_ge_p i_X9_wrongIn_49 c15 (q := 91) t_X9_wrongIn_49 (q2 := 52) rfl ?_
      refine xr_iconst i_X9_wrongIn_91 (q := 92) rfl ?_
      exact xr_ireturn i_X9_wrongIn_92 rfl h
    · replace h := (if_neg c15).symm.trans h
      refine xr_if_icmp_ge_n i_X9_wrongIn_49 c15 (q := 91) t_X9_wrongIn_49 (q2 := 52) rfl ?_
      refine xr_aload_n i_X9_wrongIn_52 rfl (q := 53) rfl ?_
      obtain ⟨c4, h⟩ := xi_if_some h
      obtain ⟨b5, eb5, h⟩ := xi_bind_some h
      refine xr_getR i_X9_wrongIn_53 xfe_X9_13 c4 eb5 (q := 56) rfl ?_
      refine xr_bipush i_X9_wrongIn_56 (q := 58) rfl ?_
      refine xr_iload_n i_X9_wrongIn_58 rfl (q := 59) rfl ?_
      refine xr_imul i_X9_wrongIn_59 (q := 60) rfl ?_
      refine xr_iload i_X9_wrongIn_60 rfl (q := 62) rfl ?_
      refine xr_iadd i_X9_wrongIn_62 (q := 63) rfl ?_
      obtain ⟨c6, h⟩ := xi_if_some h
      refine xr_iaload i_X9_wrongIn_63 c6 (q := 64) rfl ?_
      refine xr_iconst i_X9_wrongIn_64 (q := 65) rfl ?_
      refine xr_iload i_X9_wrongIn_65 rfl (q := 67) rfl ?_
      refine xr_iconst i_X9_wrongIn_67 (q := 68) rfl ?_
      obtain ⟨c7, h⟩ := xi_ifn_some h
      refine xr_irem i_X9_wrongIn_68 c7 (q := 69) rfl ?_
      by_cases c14 : (v4 - v4 / (Int32.ofInt 2) * (Int32.ofInt 2)) = 0
      · replace h := (if_pos c14).symm.trans h
        refine xr_ifCond_ne_p i_X9_wrongIn_69 c14 (q := 76) t_X9_wrongIn_69 (q2 := 72) rfl ?_
        refine xr_iload_n i_X9_wrongIn_72 rfl (q := 73) rfl ?_
        refine xr_goto i_X9_wrongIn_73 (q := 77) t_X9_wrongIn_73 ?_
        obtain ⟨x12, m11, em11, h⟩ := xi_bI_some h
        refine xr_SI i_X9_wrongIn_77 xcse_X9_63 rfl (As := [.int (m.1 b5 (Int32.toNatClampNeg ((((Int8.ofInt 40).toInt32) * v1) + v4))), .int (Int32.ofInt 0), .int v2]) rfl (rest := []) rfl ((cc_X9_wrongIn_63 S _ _ _ _).trans em11) (q := 80) rfl ?_
        by_cases c13 : x12 = 0
        · replace h := (if_pos c13).symm.trans h
          refine xr_ifCond_ne_p i_X9_wrongIn_80 c13 (q := 85) t_X9_wrongIn_80 (q2 := 83) rfl ?_
          refine xr_iconst i_X9_wrongIn_83 (q := 84) rfl ?_
          exact xr_ireturn i_X9_wrongIn_84 rfl h
        · replace h := (if_neg c13).symm.trans h
          refine xr_ifCond_ne_n i_X9_wrongIn_80 c13 (q := 85) t_X9_wrongIn_80 (q2 := 83) rfl ?_
          refine xr_iinc i_X9_wrongIn_85 rfl rfl (L2 := [some (.ref v0), some (.int v1), some (.int v2), some (.int v3), some (.int (v4 + Int32.ofInt 1))]) rfl (q := 88) rfl ?_
          refine xr_goto i_X9_wrongIn_88 (q := 41) t_X9_wrongIn_88 ?_
          exact xi_X_le (xi_le_s (xi_le_s (xi_le_s (xi_le_s (xi_le_s xi_le_z))))) (ih _ _ _ _ _ _ h)
      · replace h := (if_neg c14).symm.trans h
        refine xr_ifCond_ne_n i_X9_wrongIn_69 c14 (q := 76) t_X9_wrongIn_69 (q2 := 72) rfl ?_
        refine xr_iload_n i_X9_wrongIn_76 rfl (q := 77) rfl ?_
        obtain ⟨x9, m8, em8, h⟩ := xi_bI_some h
        refine xr_SI i_X9_wrongIn_77 xcse_X9_63 rfl (As := [.int (m.1 b5 (Int32.toNatClampNeg ((((Int8.ofInt 40).toInt32) * v1) + v4))), .int (Int32.ofInt 0), .int v3]) rfl (rest := []) rfl ((cc_X9_wrongIn_63 S _ _ _ _).trans em8) (q := 80) rfl ?_
        by_cases c10 : x9 = 0
        · replace h := (if_pos c10).symm.trans h
          refine xr_ifCond_ne_p i_X9_wrongIn_80 c10 (q := 85) t_X9_wrongIn_80 (q2 := 83) rfl ?_
          refine xr_iconst i_X9_wrongIn_83 (q := 84) rfl ?_
          exact xr_ireturn i_X9_wrongIn_84 rfl h
        · replace h := (if_neg c10).symm.trans h
          refine xr_ifCond_ne_n i_X9_wrongIn_80 c10 (q := 85) t_X9_wrongIn_80 (q2 := 83) rfl ?_
          refine xr_iinc i_X9_wrongIn_85 rfl rfl (L2 := [some (.ref v0), some (.int v1), some (.int v2), some (.int v3), some (.int (v4 + Int32.ofInt 1))]) rfl (q := 88) rfl ?_
          refine xr_goto i_X9_wrongIn_88 (q := 41) t_X9_wrongIn_88 ?_
          exact xi_X_le (xi_le_s (xi_le_s (xi_le_s (xi_le_s (xi_le_s xi_le_z))))) (ih _ _ _ _ _ _ h)
def E_X9_wrongIn (S : xi_S) (v0 : Nat) (v1 : Int32) (v2 : Int32) (v3 : Int32) (m : xi_M) : Option xi_R :=
  if S.1 v0 = 11 then (S.2.2 v0 0).bind fun b2 =>
    if S.1 b2 = 0 ∧ ¬ (v1 < 0 ∨ S.2.1 b2 ≤ Int32.toNatClampNeg v1) then
      if (m.1 b2 (Int32.toNatClampNeg v1)) = ((Int8.ofInt (-9)).toInt32) then
        some (some (.int (Int32.ofInt 1)), m)
      else
        if S.1 v0 = 11 then (S.2.2 v0 0).bind fun b5 =>
          if S.1 b5 = 0 ∧ ¬ (v1 < 0 ∨ S.2.1 b5 ≤ Int32.toNatClampNeg v1) then
            if (Int32.ofInt 2) = 0 then none else
            if ((m.1 b5 (Int32.toNatClampNeg v1)) - (m.1 b5 (Int32.toNatClampNeg v1)) / (Int32.ofInt 2) * (Int32.ofInt 2)) = (Int32.ofInt 1) then
              some (some (.int (Int32.ofInt 5)), m)
            else
              if S.1 v0 = 11 then (S.2.2 v0 0).bind fun b9 =>
                if S.1 b9 = 0 ∧ ¬ (v1 < 0 ∨ S.2.1 b9 ≤ Int32.toNatClampNeg v1) then
                  if (m.1 b9 (Int32.toNatClampNeg v1)) ≤ ((Int8.ofInt 16).toInt32) then
                    G_X9_wrongIn_41 S 10000 v0 v1 v2 v3 (Int32.ofInt 0) m
                  else
                    some (some (.int (Int32.ofInt 5)), m)
                else none
              else none
          else none
        else none
    else none
  else none
def F_X9_wrongIn (S : xi_S) : xi_F := fun As m => match As with
  | [.ref v0, .int v1, .int v2, .int v3] => E_X9_wrongIn S v0 v1 v2 v3 m
  | _ => none
set_option maxRecDepth 100000 in
set_option maxHeartbeats 4000000 in
theorem xe_X9_wrongIn {S : xi_S} {res : xi_R} (v0 : Nat) (v1 : Int32) (v2 : Int32) (v3 : Int32) (m : xi_M) (h : E_X9_wrongIn S v0 v1 v2 v3 m = some res) : xi_X S (P_X9_wrongIn S) (0, [some (.ref v0), some (.int v1), some (.int v2), some (.int v3), none], [], m) res := by
  unfold E_X9_wrongIn at h
  refine xr_aload_n i_X9_wrongIn_0 rfl (q := 1) rfl ?_
  obtain ⟨c1, h⟩ := xi_if_some h
  obtain ⟨b2, eb2, h⟩ := xi_bind_some h
  refine xr_getR i_X9_wrongIn_1 xfe_X9_7 c1 eb2 (q := 4) rfl ?_
  refine xr_iload_n i_X9_wrongIn_4 rfl (q := 5) rfl ?_
  obtain ⟨c3, h⟩ := xi_if_some h
  refine xr_iaload i_X9_wrongIn_5 c3 (q := 6) rfl ?_
  refine xr_bipush i_X9_wrongIn_6 (q := 8) rfl ?_
  by_cases c13 : (m.1 b2 (Int32.toNatClampNeg v1)) = ((Int8.ofInt (-9)).toInt32)
  · replace h := (if_pos c13).symm.trans h
    refine xr_if_icmp_ne_p i_X9_wrongIn_8 c13 (q := 13) t_X9_wrongIn_8 (q2 := 11) rfl ?_
    refine xr_iconst i_X9_wrongIn_11 (q := 12) rfl ?_
    exact xr_ireturn i_X9_wrongIn_12 rfl h
  · replace h := (if_neg c13).symm.trans h
    refine xr_if_icmp_ne_n i_X9_wrongIn_8 c13 (q := 13) t_X9_wrongIn_8 (q2 := 11) rfl ?_
    refine xr_aload_n i_X9_wrongIn_13 rfl (q := 14) rfl ?_
    obtain ⟨c4, h⟩ := xi_if_some h
    obtain ⟨b5, eb5, h⟩ := xi_bind_some h
    refine xr_getR i_X9_wrongIn_14 xfe_X9_7 c4 eb5 (q := 17) rfl ?_
    refine xr_iload_n i_X9_wrongIn_17 rfl (q := 18) rfl ?_
    obtain ⟨c6, h⟩ := xi_if_some h
    refine xr_iaload i_X9_wrongIn_18 c6 (q := 19) rfl ?_
    refine xr_iconst i_X9_wrongIn_19 (q := 20) rfl ?_
    obtain ⟨c7, h⟩ := xi_ifn_some h
    refine xr_irem i_X9_wrongIn_20 c7 (q := 21) rfl ?_
    refine xr_iconst i_X9_wrongIn_21 (q := 22) rfl ?_
    by_cases c12 : ((m.1 b5 (Int32.toNatClampNeg v1)) - (m.1 b5 (Int32.toNatClampNeg v1)) / (Int32.ofInt 2) * (Int32.ofInt 2)) = (Int32.ofInt 1)
    · replace h := (if_pos c12).symm.trans h
      refine xr_if_icmp_eq_p i_X9_wrongIn_22 c12 (q := 36) t_X9_wrongIn_22 (q2 := 25) rfl ?_
      refine xr_iconst i_X9_wrongIn_36 (q := 37) rfl ?_
      exact xr_ireturn i_X9_wrongIn_37 rfl h
    · replace h := (if_neg c12).symm.trans h
      refine xr_if_icmp_eq_n i_X9_wrongIn_22 c12 (q := 36) t_X9_wrongIn_22 (q2 := 25) rfl ?_
      refine xr_aload_n i_X9_wrongIn_25 rfl (q := 26) rfl ?_
      obtain ⟨c8, h⟩ := xi_if_some h
      obtain ⟨b9, eb9, h⟩ := xi_bind_some h
      refine xr_getR i_X9_wrongIn_26 xfe_X9_7 c8 eb9 (q := 29) rfl ?_
      refine xr_iload_n i_X9_wrongIn_29 rfl (q := 30) rfl ?_
      obtain ⟨c10, h⟩ := xi_if_some h
      refine xr_iaload i_X9_wrongIn_30 c10 (q := 31) rfl ?_
      refine xr_bipush i_X9_wrongIn_31 (q := 33) rfl ?_
      by_cases c11 : (m.1 b9 (Int32.toNatClampNeg v1)) ≤ ((Int8.ofInt 16).toInt32)
      · replace h := (if_pos c11).symm.trans h
        refine xr_if_icmp_le_p i_X9_wrongIn_33 c11 (q := 38) t_X9_wrongIn_33 (q2 := 36) rfl ?_
        refine xr_iconst i_X9_wrongIn_38 (q := 39) rfl ?_
        refine xr_istore i_X9_wrongIn_39 rfl (L2 := [some (.ref v0), some (.int v1), some (.int v2), some (.int v3), some (.int (Int32.ofInt 0))]) rfl (q := 41) rfl ?_
        exact xi_X_le (xi_le_s (xi_le_s (xi_le_s (xi_le_s (xi_le_s xi_le_z))))) (xs_X9_wrongIn_41 10000 _ _ _ _ _ _ h)
      · replace h := (if_neg c11).symm.trans h
        refine xr_if_icmp_le_n i_X9_wrongIn_33 c11 (q := 38) t_X9_wrongIn_33 (q2 := 36) rfl ?_
        refine xr_iconst i_X9_wrongIn_36 (q := 37) rfl ?_
        exact xr_ireturn i_X9_wrongIn_37 rfl h
set_option maxRecDepth 100000 in
theorem po_X9_wrongIn {l : Launch} {E : xi_E} {S : xi_S} {D : va_G} {tys : List (ClassId × FieldType)} (hC : xCx E S tys) : xi_Pok l E S D vwCl tys xNs RX9 xTs cX9_wrongIn 5 1 (P_X9_wrongIn S) := ⟨xi_dc_ok, by rw [hC.2]; exact xfo_X9, xkio_X9, xklo_X9, xi_calls_ok (ins := .invokestatic) (List.forall_mem_cons.mpr ⟨(xc_X9_63 (sn_X9_in0 hC) (by decide)), fun _ h => absurd h List.not_mem_nil⟩), xi_calls_ok (ins := .invokevirtual) (fun _ h => absurd h List.not_mem_nil)⟩
theorem sn_X9_wrongIn {l : Launch} {E : xi_E} {S : xi_S} {D : va_G} {tys : List (ClassId × FieldType)} (hC : xCx E S tys) : ∀ As m1 r m2, F_X9_wrongIn S As m1 = some (r, m2) → xi_Sound l E S D vwCl tys xNs xTs yX9_wrongIn cX9_wrongIn 5 (some .int) 1 As m1 r m2 := by
  intro As m1 r m2 h
  unfold F_X9_wrongIn at h
  split at h
  · exact xi_meth (P := P_X9_wrongIn S) (by decide) hC.1 (po_X9_wrongIn hC) (Nat.le_of_ble_eq_true rfl) rfl (xe_X9_wrongIn _ _ _ _ _ h)
  · exact xi_no h
theorem i_X9_areSo_0 : xi_dc cX9_areSo 0 = some (.iconst 1, 1) := by decide +kernel
theorem i_X9_areSo_1 : xi_dc cX9_areSo 1 = some (.istore 5, 2) := by decide +kernel
theorem i_X9_areSo_3 : xi_dc cX9_areSo 3 = some (.iconst 0, 1) := by decide +kernel
theorem i_X9_areSo_4 : xi_dc cX9_areSo 4 = some (.istore 6, 2) := by decide +kernel
theorem i_X9_areSo_6 : xi_dc cX9_areSo 6 = some (.iload 6, 2) := by decide +kernel
theorem i_X9_areSo_8 : xi_dc cX9_areSo 8 = some (.aload_n 0, 1) := by decide +kernel
theorem i_X9_areSo_9 : xi_dc cX9_areSo 9 = some (.getfield 7, 3) := by decide +kernel
theorem i_X9_areSo_12 : xi_dc cX9_areSo 12 = some (.iload_n 2, 1) := by decide +kernel
theorem i_X9_areSo_13 : xi_dc cX9_areSo 13 = some (.iaload, 1) := by decide +kernel
theorem i_X9_areSo_14 : xi_dc cX9_areSo 14 = some (.if_icmp .ge 100, 3) := by decide +kernel
theorem t_X9_areSo_14 : ((14 : Nat) : Int) + 100 = ((114 : Nat) : Int) := by decide +kernel
theorem i_X9_areSo_17 : xi_dc cX9_areSo 17 = some (.aload_n 0, 1) := by decide +kernel
theorem i_X9_areSo_18 : xi_dc cX9_areSo 18 = some (.getfield 13, 3) := by decide +kernel
theorem i_X9_areSo_21 : xi_dc cX9_areSo 21 = some (.bipush 40, 2) := by decide +kernel
theorem i_X9_areSo_23 : xi_dc cX9_areSo 23 = some (.iload_n 2, 1) := by decide +kernel
theorem i_X9_areSo_24 : xi_dc cX9_areSo 24 = some (.imul, 1) := by decide +kernel
theorem i_X9_areSo_25 : xi_dc cX9_areSo 25 = some (.iload 6, 2) := by decide +kernel
theorem i_X9_areSo_27 : xi_dc cX9_areSo 27 = some (.iadd, 1) := by decide +kernel
theorem i_X9_areSo_28 : xi_dc cX9_areSo 28 = some (.iaload, 1) := by decide +kernel
theorem i_X9_areSo_29 : xi_dc cX9_areSo 29 = some (.istore 7, 2) := by decide +kernel
theorem i_X9_areSo_31 : xi_dc cX9_areSo 31 = some (.aload_n 0, 1) := by decide +kernel
theorem i_X9_areSo_32 : xi_dc cX9_areSo 32 = some (.getfield 25, 3) := by decide +kernel
theorem i_X9_areSo_35 : xi_dc cX9_areSo 35 = some (.iconst 0, 1) := by decide +kernel
theorem i_X9_areSo_36 : xi_dc cX9_areSo 36 = some (.iaload, 1) := by decide +kernel
theorem i_X9_areSo_37 : xi_dc cX9_areSo 37 = some (.iload_n 3, 1) := by decide +kernel
theorem i_X9_areSo_38 : xi_dc cX9_areSo 38 = some (.iload 4, 2) := by decide +kernel
theorem i_X9_areSo_40 : xi_dc cX9_areSo 40 = some (.iload 7, 2) := by decide +kernel
theorem i_X9_areSo_42 : xi_dc cX9_areSo 42 = some (.invokestatic 147, 3) := by decide +kernel
theorem i_X9_areSo_45 : xi_dc cX9_areSo 45 = some (.ifCond .eq 20, 3) := by decide +kernel
theorem t_X9_areSo_45 : ((45 : Nat) : Int) + 20 = ((65 : Nat) : Int) := by decide +kernel
theorem i_X9_areSo_48 : xi_dc cX9_areSo 48 = some (.aload_n 0, 1) := by decide +kernel
theorem i_X9_areSo_49 : xi_dc cX9_areSo 49 = some (.getfield 25, 3) := by decide +kernel
theorem i_X9_areSo_52 : xi_dc cX9_areSo 52 = some (.iload_n 1, 1) := by decide +kernel
theorem i_X9_areSo_53 : xi_dc cX9_areSo 53 = some (.iload 7, 2) := by decide +kernel
theorem i_X9_areSo_55 : xi_dc cX9_areSo 55 = some (.invokestatic 151, 3) := by decide +kernel
theorem i_X9_areSo_58 : xi_dc cX9_areSo 58 = some (.ifCond .ne 7, 3) := by decide +kernel
theorem t_X9_areSo_58 : ((58 : Nat) : Int) + 7 = ((65 : Nat) : Int) := by decide +kernel
theorem i_X9_areSo_61 : xi_dc cX9_areSo 61 = some (.iconst 1, 1) := by decide +kernel
theorem i_X9_areSo_62 : xi_dc cX9_areSo 62 = some (.goto 4, 3) := by decide +kernel
theorem t_X9_areSo_62 : ((62 : Nat) : Int) + 4 = ((66 : Nat) : Int) := by decide +kernel
theorem i_X9_areSo_65 : xi_dc cX9_areSo 65 = some (.iconst 0, 1) := by decide +kernel
theorem i_X9_areSo_66 : xi_dc cX9_areSo 66 = some (.istore 8, 2) := by decide +kernel
theorem i_X9_areSo_68 : xi_dc cX9_areSo 68 = some (.iload 5, 2) := by decide +kernel
theorem i_X9_areSo_70 : xi_dc cX9_areSo 70 = some (.ifCond .eq 35, 3) := by decide +kernel
theorem t_X9_areSo_70 : ((70 : Nat) : Int) + 35 = ((105 : Nat) : Int) := by decide +kernel
theorem i_X9_areSo_73 : xi_dc cX9_areSo 73 = some (.iload 8, 2) := by decide +kernel
theorem i_X9_areSo_75 : xi_dc cX9_areSo 75 = some (.aload_n 0, 1) := by decide +kernel
theorem i_X9_areSo_76 : xi_dc cX9_areSo 76 = some (.getfield 13, 3) := by decide +kernel
theorem i_X9_areSo_79 : xi_dc cX9_areSo 79 = some (.bipush 40, 2) := by decide +kernel
theorem i_X9_areSo_81 : xi_dc cX9_areSo 81 = some (.iload_n 2, 1) := by decide +kernel
theorem i_X9_areSo_82 : xi_dc cX9_areSo 82 = some (.imul, 1) := by decide +kernel
theorem i_X9_areSo_83 : xi_dc cX9_areSo 83 = some (.iload 6, 2) := by decide +kernel
theorem i_X9_areSo_85 : xi_dc cX9_areSo 85 = some (.iadd, 1) := by decide +kernel
theorem i_X9_areSo_86 : xi_dc cX9_areSo 86 = some (.iconst 1, 1) := by decide +kernel
theorem i_X9_areSo_87 : xi_dc cX9_areSo 87 = some (.iadd, 1) := by decide +kernel
theorem i_X9_areSo_88 : xi_dc cX9_areSo 88 = some (.iaload, 1) := by decide +kernel
theorem i_X9_areSo_89 : xi_dc cX9_areSo 89 = some (.iconst 1, 1) := by decide +kernel
theorem i_X9_areSo_90 : xi_dc cX9_areSo 90 = some (.if_icmp .ne 7, 3) := by decide +kernel
theorem t_X9_areSo_90 : ((90 : Nat) : Int) + 7 = ((97 : Nat) : Int) := by decide +kernel
theorem i_X9_areSo_93 : xi_dc cX9_areSo 93 = some (.iconst 1, 1) := by decide +kernel
theorem i_X9_areSo_94 : xi_dc cX9_areSo 94 = some (.goto 4, 3) := by decide +kernel
theorem t_X9_areSo_94 : ((94 : Nat) : Int) + 4 = ((98 : Nat) : Int) := by decide +kernel
theorem i_X9_areSo_97 : xi_dc cX9_areSo 97 = some (.iconst 0, 1) := by decide +kernel
theorem i_X9_areSo_98 : xi_dc cX9_areSo 98 = some (.if_icmp .ne 7, 3) := by decide +kernel
theorem t_X9_areSo_98 : ((98 : Nat) : Int) + 7 = ((105 : Nat) : Int) := by decide +kernel
theorem i_X9_areSo_101 : xi_dc cX9_areSo 101 = some (.iconst 1, 1) := by decide +kernel
theorem i_X9_areSo_102 : xi_dc cX9_areSo 102 = some (.goto 4, 3) := by decide +kernel
theorem t_X9_areSo_102 : ((102 : Nat) : Int) + 4 = ((106 : Nat) : Int) := by decide +kernel
theorem i_X9_areSo_105 : xi_dc cX9_areSo 105 = some (.iconst 0, 1) := by decide +kernel
theorem i_X9_areSo_106 : xi_dc cX9_areSo 106 = some (.istore 5, 2) := by decide +kernel
theorem i_X9_areSo_108 : xi_dc cX9_areSo 108 = some (.iinc 6 2, 3) := by decide +kernel
theorem i_X9_areSo_111 : xi_dc cX9_areSo 111 = some (.goto (-105), 3) := by decide +kernel
theorem t_X9_areSo_111 : ((111 : Nat) : Int) + (-105) = ((6 : Nat) : Int) := by decide +kernel
theorem i_X9_areSo_114 : xi_dc cX9_areSo 114 = some (.iload 5, 2) := by decide +kernel
theorem i_X9_areSo_116 : xi_dc cX9_areSo 116 = some (.ireturn, 1) := by decide +kernel
def P_X9_areSo (S : xi_S) : xi_P := (xi_dc cX9_areSo, xi_tab xfl_X9, xi_tab xki_X9, xi_tab xkl_X9, xi_tab xcs_X9, xi_tab xcv_X9, xi_calls [(147, xi_wS 4 (F_X9_isWithin S)), (151, xi_wS 3 (F_X9_isKept S))], xi_calls [], 2)
theorem cc_X9_areSo_147 (S : xi_S) (a0 : Int32) (a1 : Int32) (a2 : Int32) (a3 : Int32) (m : xi_M) : (P_X9_areSo S).2.2.2.2.2.2.1 147 [.int a0, .int a1, .int a2, .int a3] m = (E_X9_isWithin S a0 a1 a2 a3 m) := by
  show xi_calls [(147, xi_wS 4 (F_X9_isWithin S)), (151, xi_wS 3 (F_X9_isKept S))] 147 [.int a0, .int a1, .int a2, .int a3] m = _
  refine Eq.trans (b := xi_wS 4 (F_X9_isWithin S) [.int a0, .int a1, .int a2, .int a3] m) (xi_calls_hit rfl) ?_
  exact xi_wS_eq rfl
theorem cc_X9_areSo_151 (S : xi_S) (a0 : Nat) (a1 : Int32) (a2 : Int32) (m : xi_M) : (P_X9_areSo S).2.2.2.2.2.2.1 151 [.ref a0, .int a1, .int a2] m = (E_X9_isKept S a0 a1 a2 m) := by
  show xi_calls [(147, xi_wS 4 (F_X9_isWithin S)), (151, xi_wS 3 (F_X9_isKept S))] 151 [.ref a0, .int a1, .int a2] m = _
  refine Eq.trans (b := xi_calls [(151, xi_wS 3 (F_X9_isKept S))] 151 [.ref a0, .int a1, .int a2] m) (xi_calls_miss rfl) ?_
  refine Eq.trans (b := xi_wS 3 (F_X9_isKept S) [.ref a0, .int a1, .int a2] m) (xi_calls_hit rfl) ?_
  exact xi_wS_eq rfl
def G_X9_areSo_6 (S : xi_S) : Nat → Nat → Int32 → Int32 → Int32 → Int32 → Int32 → Int32 → xi_M → Option xi_R
  | 0, _, _, _, _, _, _, _, _ => none
  | n + 1, v0, v1, v2, v3, v4, v5, v6, m =>
    if S.1 v0 = 11 then (S.2.2 v0 0).bind fun b2 =>
      if S.1 b2 = 0 ∧ ¬ (v2 < 0 ∨ S.2.1 b2 ≤ Int32.toNatClampNeg v2) then
        if (m.1 b2 (Int32.toNatClampNeg v2)) ≤ v6 then
          if v5 = 0 ∨ v5 = 1 then some (some (.int v5), m) else none
        else
          if S.1 v0 = 11 then (S.2.2 v0 1).bind fun b5 =>
            if S.1 b5 = 0 ∧ ¬ (((((Int8.ofInt 40).toInt32) * v2) + v6) < 0 ∨ S.2.1 b5 ≤ Int32.toNatClampNeg ((((Int8.ofInt 40).toInt32) * v2) + v6)) then
              if S.1 v0 = 11 then (S.2.2 v0 5).bind fun b8 =>
                if S.1 b8 = 0 ∧ ¬ ((Int32.ofInt 0) < 0 ∨ S.2.1 b8 ≤ Int32.toNatClampNeg (Int32.ofInt 0)) then
                  xi_bI (E_X9_isWithin S (m.1 b8 (Int32.toNatClampNeg (Int32.ofInt 0))) v3 v4 (m.1 b5 (Int32.toNatClampNeg ((((Int8.ofInt 40).toInt32) * v2) + v6))) m) fun x11 m10 =>
                  if x11 = 0 then
                    if v5 = 0 then
                      G_X9_areSo_6 S n v0 v1 v2 v3 v4 (Int32.ofInt 0) (v6 + Int32.ofInt 2) m10
                    else
                      if S.1 v0 = 11 then (S.2.2 v0 1).bind fun b13 =>
                        if S.1 b13 = 0 ∧ ¬ ((((((Int8.ofInt 40).toInt32) * v2) + v6) + (Int32.ofInt 1)) < 0 ∨ S.2.1 b13 ≤ Int32.toNatClampNeg (((((Int8.ofInt 40).toInt32) * v2) + v6) + (Int32.ofInt 1))) then
                          if (m10.1 b13 (Int32.toNatClampNeg (((((Int8.ofInt 40).toInt32) * v2) + v6) + (Int32.ofInt 1)))) = (Int32.ofInt 1) then
                            if (Int32.ofInt 0) = (Int32.ofInt 1) then
                              G_X9_areSo_6 S n v0 v1 v2 v3 v4 (Int32.ofInt 1) (v6 + Int32.ofInt 2) m10
                            else
                              G_X9_areSo_6 S n v0 v1 v2 v3 v4 (Int32.ofInt 0) (v6 + Int32.ofInt 2) m10
                          else
                            if (Int32.ofInt 0) = (Int32.ofInt 0) then
                              G_X9_areSo_6 S n v0 v1 v2 v3 v4 (Int32.ofInt 1) (v6 + Int32.ofInt 2) m10
                            else
                              G_X9_areSo_6 S n v0 v1 v2 v3 v4 (Int32.ofInt 0) (v6 + Int32.ofInt 2) m10
                        else none
                      else none
                  else
                    if S.1 v0 = 11 then (S.2.2 v0 5).bind fun b20 =>
                      xi_bI (E_X9_isKept S b20 v1 (m.1 b5 (Int32.toNatClampNeg ((((Int8.ofInt 40).toInt32) * v2) + v6))) m10) fun x22 m21 =>
                      if x22 = 0 then
                        if v5 = 0 then
                          G_X9_areSo_6 S n v0 v1 v2 v3 v4 (Int32.ofInt 0) (v6 + Int32.ofInt 2) m21
                        else
                          if S.1 v0 = 11 then (S.2.2 v0 1).bind fun b31 =>
                            if S.1 b31 = 0 ∧ ¬ ((((((Int8.ofInt 40).toInt32) * v2) + v6) + (Int32.ofInt 1)) < 0 ∨ S.2.1 b31 ≤ Int32.toNatClampNeg (((((Int8.ofInt 40).toInt32) * v2) + v6) + (Int32.ofInt 1))) then
                              if (m21.1 b31 (Int32.toNatClampNeg (((((Int8.ofInt 40).toInt32) * v2) + v6) + (Int32.ofInt 1)))) = (Int32.ofInt 1) then
                                if (Int32.ofInt 1) = (Int32.ofInt 1) then
                                  G_X9_areSo_6 S n v0 v1 v2 v3 v4 (Int32.ofInt 1) (v6 + Int32.ofInt 2) m21
                                else
                                  G_X9_areSo_6 S n v0 v1 v2 v3 v4 (Int32.ofInt 0) (v6 + Int32.ofInt 2) m21
                              else
                                if (Int32.ofInt 1) = (Int32.ofInt 0) then
                                  G_X9_areSo_6 S n v0 v1 v2 v3 v4 (Int32.ofInt 1) (v6 + Int32.ofInt 2) m21
                                else
                                  G_X9_areSo_6 S n v0 v1 v2 v3 v4 (Int32.ofInt 0) (v6 + Int32.ofInt 2) m21
                            else none
                          else none
                      else
                        if v5 = 0 then
                          G_X9_areSo_6 S n v0 v1 v2 v3 v4 (Int32.ofInt 0) (v6 + Int32.ofInt 2) m21
                        else
                          if S.1 v0 = 11 then (S.2.2 v0 1).bind fun b24 =>
                            if S.1 b24 = 0 ∧ ¬ ((((((Int8.ofInt 40).toInt32) * v2) + v6) + (Int32.ofInt 1)) < 0 ∨ S.2.1 b24 ≤ Int32.toNatClampNeg (((((Int8.ofInt 40).toInt32) * v2) + v6) + (Int32.ofInt 1))) then
                              if (m21.1 b24 (Int32.toNatClampNeg (((((Int8.ofInt 40).toInt32) * v2) + v6) + (Int32.ofInt 1)))) = (Int32.ofInt 1) then
                                if (Int32.ofInt 0) = (Int32.ofInt 1) then
                                  G_X9_areSo_6 S n v0 v1 v2 v3 v4 (Int32.ofInt 1) (v6 + Int32.ofInt 2) m21
                                else
                                  G_X9_areSo_6 S n v0 v1 v2 v3 v4 (Int32.ofInt 0) (v6 + Int32.ofInt 2) m21
                              else
                                if (Int32.ofInt 0) = (Int32.ofInt 0) then
                                  G_X9_areSo_6 S n v0 v1 v2 v3 v4 (Int32.ofInt 1) (v6 + Int32.ofInt 2) m21
                                else
                                  G_X9_areSo_6 S n v0 v1 v2 v3 v4 (Int32.ofInt 0) (v6 + Int32.ofInt 2) m21
                            else none
                          else none
                    else none
                else none
              else none
            else none
          else none
      else none
    else none
set_option maxRecDepth 100000 in
set_option maxHeartbeats 4000000 in
theorem xs_X9_areSo_6 {S : xi_S} {res : xi_R} : ∀ (n : Nat) (v0 : Nat) (v1 : Int32) (v2 : Int32) (v3 : Int32) (v4 : Int32) (v5 : Int32) (v6 : Int32) (m : xi_M), G_X9_areSo_6 S n v0 v1 v2 v3 v4 v5 v6 m = some res → xi_X S (P_X9_areSo S) (6, [some (.ref v0), some (.int v1), some (.int v2), some (.int v3), some (.int v4), some (.int v5), some (.int v6), none, none], [], m) res := by
  intro n
  induction n with
  | zero => intro v0 v1 v2 v3 v4 v5 v6 m h; exact xi_no h
  | succ n ih =>
    intro v0 v1 v2 v3 v4 v5 v6 m h
    unfold G_X9_areSo_6 at h
    refine xr_iload i_X9_areSo_6 rfl (q := 8) rfl ?_
    refine xr_aload_n i_X9_areSo_8 rfl (q := 9) rfl ?_
    obtain ⟨c1, h⟩ := xi_if_some h
    obtain ⟨b2, eb2, h⟩ := xi_bind_some h
    refine xr_getR i_X9_areSo_9 xfe_X9_7 c1 eb2 (q := 12) rfl ?_
    refine xr_iload_n i_X9_areSo_12 rfl (q := 13) rfl ?_
    obtain ⟨c3, h⟩ := xi_if_some h
    refine xr_iaload i_X9_areSo_13 c3 (q := 14) rfl ?_
    by_cases c39 : (m.1 b2 (Int32.toNatClampNeg v2)) ≤ v6
    · replace h := (if_pos c39).symm.trans h
      refine xr_if_icmp_ge_p i_X9_areSo_14 c39 (q := 114) t_X9_areSo_14 (q2 := 17) rfl ?_
      refine xr_iload i_X9_areSo_114 rfl (q := 116) rfl ?_
      exact xr_zreturn i_X9_areSo_116 rfl h
    · replace h := (if_neg c39).symm.trans h
      refine xr_if_icmp_ge_n i_X9_areSo_14 c39 (q := 114) t_X9_areSo_14 (q2 := 17) rfl ?_
      refine xr_aload_n i_X9_areSo_17 rfl (q := 18) rfl ?_
      obtain ⟨c4, h⟩ := xi_if_some h
      obtain ⟨b5, eb5, h⟩ := xi_bind_some h
      refine xr_getR i_X9_areSo_18 xfe_X9_13 c4 eb5 (q := 21) rfl ?_
      refine xr_bipush i_X9_areSo_21 (q := 23) rfl ?_
      refine xr_iload_n i_X9_areSo_23 rfl (q := 24) rfl ?_
      refine xr_imul i_X9_areSo_24 (q := 25) rfl ?_
      refine xr_iload i_X9_areSo_25 rfl (q := 27) rfl ?_
      refine xr_iadd i_X9_areSo_27 (q := 28) rfl ?_
      obtain ⟨c6, h⟩ := xi_if_some h
      refine xr_iaload i_X9_areSo_28 c6 (q := 29) rfl ?_
      refine xr_istore i_X9_areSo_29 rfl (L2 := [some (.ref v0), some (.int v1), some (.int v2), some (.int v3), some (.int v4), some (.int v5), some (.int v6), some (.int (m.1 b5 (Int32.toNatClampNeg ((((Int8.ofInt 40).toInt32) * v2) + v6)))), none]) rfl (q := 31) rfl ?_
      refine xr_aload_n i_X9_areSo_31 rfl (q := 32) rfl ?_
      obtain ⟨c7, h⟩ := xi_if_some h
      obtain ⟨b8, eb8, h⟩ := xi_bind_some h
      refine xr_getR i_X9_areSo_32 xfe_X9_25 c7 eb8 (q := 35) rfl ?_
      refine xr_iconst i_X9_areSo_35 (q := 36) rfl ?_
      obtain ⟨c9, h⟩ := xi_if_some h
      refine xr_iaload i_X9_areSo_36 c9 (q := 37) rfl ?_
      refine xr_iload_n i_X9_areSo_37 rfl (q := 38) rfl ?_
      refine xr_iload i_X9_areSo_38 rfl (q := 40) rfl ?_
      refine xr_iload i_X9_areSo_40 rfl (q := 42) rfl ?_
      obtain ⟨x11, m10, em10, h⟩ := xi_bI_some h
      refine xr_SI i_X9_areSo_42 xcse_X9_147 rfl (As := [.int (m.1 b8 (Int32.toNatClampNeg (Int32.ofInt 0))), .int v3, .int v4, .int (m.1 b5 (Int32.toNatClampNeg ((((Int8.ofInt 40).toInt32) * v2) + v6)))]) rfl (rest := []) rfl ((cc_X9_areSo_147 S _ _ _ _ _).trans em10) (q := 45) rfl ?_
      by_cases c38 : x11 = 0
      · replace h := (if_pos c38).symm.trans h
        refine xr_ifCond_eq_p i_X9_areSo_45 c38 (q := 65) t_X9_areSo_45 (q2 := 48) rfl ?_
        refine xr_iconst i_X9_areSo_65 (q := 66) rfl ?_
        refine xr_istore i_X9_areSo_66 rfl (L2 := [some (.ref v0), some (.int v1), some (.int v2), some (.int v3), some (.int v4), some (.int v5), some (.int v6), some (.int (m.1 b5 (Int32.toNatClampNeg ((((Int8.ofInt 40).toInt32) * v2) + v6)))), some (.int (Int32.ofInt 0))]) rfl (q := 68) rfl ?_
        refine xr_iload i_X9_areSo_68 rfl (q := 70) rfl ?_
        by_cases c18 : v5 = 0
        · replace h := (if_pos c18).symm.trans h
          refine xr_ifCond_eq_p i_X9_areSo_70 c18 (q := 105) t_X9_areSo_70 (q2 := 73) rfl ?_
          refine xr_iconst i_X9_areSo_105 (q := 106) rfl ?_
          refine xr_istore i_X9_areSo_106 rfl (L2 := [some (.ref v0), some (.int v1), some (.int v2), some (.int v3), some (.int v4), some (.int (Int32.ofInt 0)), some (.int v6), some (.int (m.1 b5 (Int32.toNatClampNeg ((((Int8.ofInt 40).toInt32) * v2) + v6)))), some (.int (Int32.ofInt 0))]) rfl (q := 108) rfl ?_
          refine xr_iinc i_X9_areSo_108 rfl rfl (L2 := [some (.ref v0), some (.int v1), some (.int v2), some (.int v3), some (.int v4), some (.int (Int32.ofInt 0)), some (.int (v6 + Int32.ofInt 2)), some (.int (m.1 b5 (Int32.toNatClampNeg ((((Int8.ofInt 40).toInt32) * v2) + v6)))), some (.int (Int32.ofInt 0))]) rfl (q := 111) rfl ?_
          refine xr_goto i_X9_areSo_111 (q := 6) t_X9_areSo_111 ?_
          exact xi_X_le (xi_le_s (xi_le_s (xi_le_s (xi_le_s (xi_le_s (xi_le_s (xi_le_s (xi_le_n (xi_le_n xi_le_z))))))))) (ih _ _ _ _ _ _ _ _ h)
        · replace h := (if_neg c18).symm.trans h
          refine xr_ifCond_eq_n i_X9_areSo_70 c18 (q := 105) t_X9_areSo_70 (q2 := 73) rfl ?_
          refine xr_iload i_X9_areSo_73 rfl (q := 75) rfl ?_
          refine xr_aload_n i_X9_areSo_75 rfl (q := 76) rfl ?_
          obtain ⟨c12, h⟩ := xi_if_some h
          obtain ⟨b13, eb13, h⟩ := xi_bind_some h
          refine xr_getR i_X9_areSo_76 xfe_X9_13 c12 eb13 (q := 79) rfl ?_
          refine xr_bipush i_X9_areSo_79 (q := 81) rfl ?_
          refine xr_iload_n i_X9_areSo_81 rfl (q := 82) rfl ?_
          refine xr_imul i_X9_areSo_82 (q := 83) rfl ?_
          refine xr_iload i_X9_areSo_83 rfl (q := 85) rfl ?_
          refine xr_iadd i_X9_areSo_85 (q := 86) rfl ?_
          refine xr_iconst i_X9_areSo_86 (q := 87) rfl ?_
          refine xr_iadd i_X9_areSo_87 (q := 88) rfl ?_
          obtain ⟨c14, h⟩ := xi_if_some h
          refine xr_iaload i_X9_areSo_88 c14 (q := 89) rfl ?_
          refine xr_iconst i_X9_areSo_89 (q := 90) rfl ?_
          by_cases c17 : (m10.1 b13 (Int32.toNatClampNeg (((((Int8.ofInt 40).toInt32) * v2) + v6) + (Int32.ofInt 1)))) = (Int32.ofInt 1)
          · replace h := (if_pos c17).symm.trans h
            refine xr_if_icmp_ne_p i_X9_areSo_90 c17 (q := 97) t_X9_areSo_90 (q2 := 93) rfl ?_
            refine xr_iconst i_X9_areSo_93 (q := 94) rfl ?_
            refine xr_goto i_X9_areSo_94 (q := 98) t_X9_areSo_94 ?_
            by_cases c16 : (Int32.ofInt 0) = (Int32.ofInt 1)
            · replace h := (if_pos c16).symm.trans h
              refine xr_if_icmp_ne_p i_X9_areSo_98 c16 (q := 105) t_X9_areSo_98 (q2 := 101) rfl ?_
              refine xr_iconst i_X9_areSo_101 (q := 102) rfl ?_
              refine xr_goto i_X9_areSo_102 (q := 106) t_X9_areSo_102 ?_
              refine xr_istore i_X9_areSo_106 rfl (L2 := [some (.ref v0), some (.int v1), some (.int v2), some (.int v3), some (.int v4), some (.int (Int32.ofInt 1)), some (.int v6), some (.int (m.1 b5 (Int32.toNatClampNeg ((((Int8.ofInt 40).toInt32) * v2) + v6)))), some (.int (Int32.ofInt 0))]) rfl (q := 108) rfl ?_
              refine xr_iinc i_X9_areSo_108 rfl rfl (L2 := [some (.ref v0), some (.int v1), some (.int v2), some (.int v3), some (.int v4), some (.int (Int32.ofInt 1)), some (.int (v6 + Int32.ofInt 2)), some (.int (m.1 b5 (Int32.toNatClampNeg ((((Int8.ofInt 40).toInt32) * v2) + v6)))), some (.int (Int32.ofInt 0))]) rfl (q := 111) rfl ?_
              refine xr_goto i_X9_areSo_111 (q := 6) t_X9_areSo_111 ?_
              exact xi_X_le (xi_le_s (xi_le_s (xi_le_s (xi_le_s (xi_le_s (xi_le_s (xi_le_s (xi_le_n (xi_le_n xi_le_z))))))))) (ih _ _ _ _ _ _ _ _ h)
            · replace h := (if_neg c16).symm.trans h
              refine xr_if_icmp_ne_n i_X9_areSo_98 c16 (q := 105) t_X9_areSo_98 (q2 := 101) rfl ?_
              refine xr_iconst i_X9_areSo_105 (q := 106) rfl ?_
              refine xr_istore i_X9_areSo_106 rfl (L2 := [some (.ref v0), some (.int v1), some (.int v2), some (.int v3), some (.int v4), some (.int (Int32.ofInt 0)), some (.int v6), some (.int (m.1 b5 (Int32.toNatClampNeg ((((Int8.ofInt 40).toInt32) * v2) + v6)))), some (.int (Int32.ofInt 0))]) rfl (q := 108) rfl ?_
              refine xr_iinc i_X9_areSo_108 rfl rfl (L2 := [some (.ref v0), some (.int v1), some (.int v2), some (.int v3), some (.int v4), some (.int (Int32.ofInt 0)), some (.int (v6 + Int32.ofInt 2)), some (.int (m.1 b5 (Int32.toNatClampNeg ((((Int8.ofInt 40).toInt32) * v2) + v6)))), some (.int (Int32.ofInt 0))]) rfl (q := 111) rfl ?_
              refine xr_goto i_X9_areSo_111 (q := 6) t_X9_areSo_111 ?_
              exact xi_X_le (xi_le_s (xi_le_s (xi_le_s (xi_le_s (xi_le_s (xi_le_s (xi_le_s (xi_le_n (xi_le_n xi_le_z))))))))) (ih _ _ _ _ _ _ _ _ h)
          · replace h := (if_neg c17).symm.trans h
            refine xr_if_icmp_ne_n i_X9_areSo_90 c17 (q := 97) t_X9_areSo_90 (q2 := 93) rfl ?_
            refine xr_iconst i_X9_areSo_97 (q := 98) rfl ?_
            by_cases c15 : (Int32.ofInt 0) = (Int32.ofInt 0)
            · replace h := (if_pos c15).symm.trans h
              refine xr_if_icmp_ne_p i_X9_areSo_98 c15 (q := 105) t_X9_areSo_98 (q2 := 101) rfl ?_
              refine xr_iconst i_X9_areSo_101 (q := 102) rfl ?_
              refine xr_goto i_X9_areSo_102 (q := 106) t_X9_areSo_102 ?_
              refine xr_istore i_X9_areSo_106 rfl (L2 := [some (.ref v0), some (.int v1), some (.int v2), some (.int v3), some (.int v4), some (.int (Int32.ofInt 1)), some (.int v6), some (.int (m.1 b5 (Int32.toNatClampNeg ((((Int8.ofInt 40).toInt32) * v2) + v6)))), some (.int (Int32.ofInt 0))]) rfl (q := 108) rfl ?_
              refine xr_iinc i_X9_areSo_108 rfl rfl (L2 := [some (.ref v0), some (.int v1), some (.int v2), some (.int v3), some (.int v4), some (.int (Int32.ofInt 1)), some (.int (v6 + Int32.ofInt 2)), some (.int (m.1 b5 (Int32.toNatClampNeg ((((Int8.ofInt 40).toInt32) * v2) + v6)))), some (.int (Int32.ofInt 0))]) rfl (q := 111) rfl ?_
              refine xr_goto i_X9_areSo_111 (q := 6) t_X9_areSo_111 ?_
              exact xi_X_le (xi_le_s (xi_le_s (xi_le_s (xi_le_s (xi_le_s (xi_le_s (xi_le_s (xi_le_n (xi_le_n xi_le_z))))))))) (ih _ _ _ _ _ _ _ _ h)
            · replace h := (if_neg c15).symm.trans h
              refine xr_if_icmp_ne_n i_X9_areSo_98 c15 (q := 105) t_X9_areSo_98 (q2 := 101) rfl ?_
              refine xr_iconst i_X9_areSo_105 (q := 106) rfl ?_
              refine xr_istore i_X9_areSo_106 rfl (L2 := [some (.ref v0), some (.int v1), some (.int v2), some (.int v3), some (.int v4), some (.int (Int32.ofInt 0)), some (.int v6), some (.int (m.1 b5 (Int32.toNatClampNeg ((((Int8.ofInt 40).toInt32) * v2) + v6)))), some (.int (Int32.ofInt 0))]) rfl (q := 108) rfl ?_
              refine xr_iinc i_X9_areSo_108 rfl rfl (L2 := [some (.ref v0), some (.int v1), some (.int v2), some (.int v3), some (.int v4), some (.int (Int32.ofInt 0)), some (.int (v6 + Int32.ofInt 2)), some (.int (m.1 b5 (Int32.toNatClampNeg ((((Int8.ofInt 40).toInt32) * v2) + v6)))), some (.int (Int32.ofInt 0))]) rfl (q := 111) rfl ?_
              refine xr_goto i_X9_areSo_111 (q := 6) t_X9_areSo_111 ?_
              exact xi_X_le (xi_le_s (xi_le_s (xi_le_s (xi_le_s (xi_le_s (xi_le_s (xi_le_s (xi_le_n (xi_le_n xi_le_z))))))))) (ih _ _ _ _ _ _ _ _ h)
      · replace h := (if_neg c38).symm.trans h
        refine xr_ifCond_eq_n i_X9_areSo_45 c38 (q := 65) t_X9_areSo_45 (q2 := 48) rfl ?_
        refine xr_aload_n i_X9_areSo_48 rfl (q := 49) rfl ?_
        obtain ⟨c19, h⟩ := xi_if_some h
        obtain ⟨b20, eb20, h⟩ := xi_bind_some h
        refine xr_getR i_X9_areSo_49 xfe_X9_25 c19 eb20 (q := 52) rfl ?_
        refine xr_iload_n i_X9_areSo_52 rfl (q := 53) rfl ?_
        refine xr_iload i_X9_areSo_53 rfl (q := 55) rfl ?_
        obtain ⟨x22, m21, em21, h⟩ := xi_bI_some h
        refine xr_SI i_X9_areSo_55 xcse_X9_151 rfl (As := [.ref b20, .int v1, .int (m.1 b5 (Int32.toNatClampNeg ((((Int8.ofInt 40).toInt32) * v2) + v6)))]) rfl (rest := []) rfl ((cc_X9_areSo_151 S _ _ _ _).trans em21) (q := 58) rfl ?_
        by_cases c37 : x22 = 0
        · replace h := (if_pos c37).symm.trans h
          refine xr_ifCond_ne_p i_X9_areSo_58 c37 (q := 65) t_X9_areSo_58 (q2 := 61) rfl ?_
          refine xr_iconst i_X9_areSo_61 (q := 62) rfl ?_
          refine xr_goto i_X9_areSo_62 (q := 66) t_X9_areSo_62 ?_
          refine xr_istore i_X9_areSo_66 rfl (L2 := [some (.ref v0), some (.int v1), some (.int v2), some (.int v3), some (.int v4), some (.int v5), some (.int v6), some (.int (m.1 b5 (Int32.toNatClampNeg ((((Int8.ofInt 40).toInt32) * v2) + v6)))), some (.int (Int32.ofInt 1))]) rfl (q := 68) rfl ?_
          refine xr_iload i_X9_areSo_68 rfl (q := 70) rfl ?_
          by_cases c36 : v5 = 0
          · replace h := (if_pos c36).symm.trans h
            refine xr_ifCond_eq_p i_X9_areSo_70 c36 (q := 105) t_X9_areSo_70 (q2 := 73) rfl ?_
            refine xr_iconst i_X9_areSo_105 (q := 106) rfl ?_
            refine xr_istore i_X9_areSo_106 rfl (L2 := [some (.ref v0), some (.int v1), some (.int v2), some (.int v3), some (.int v4), some (.int (Int32.ofInt 0)), some (.int v6), some (.int (m.1 b5 (Int32.toNatClampNeg ((((Int8.ofInt 40).toInt32) * v2) + v6)))), some (.int (Int32.ofInt 1))]) rfl (q := 108) rfl ?_
            refine xr_iinc i_X9_areSo_108 rfl rfl (L2 := [some (.ref v0), some (.int v1), some (.int v2), some (.int v3), some (.int v4), some (.int (Int32.ofInt 0)), some (.int (v6 + Int32.ofInt 2)), some (.int (m.1 b5 (Int32.toNatClampNeg ((((Int8.ofInt 40).toInt32) * v2) + v6)))), some (.int (Int32.ofInt 1))]) rfl (q := 111) rfl ?_
            refine xr_goto i_X9_areSo_111 (q := 6) t_X9_areSo_111 ?_
            exact xi_X_le (xi_le_s (xi_le_s (xi_le_s (xi_le_s (xi_le_s (xi_le_s (xi_le_s (xi_le_n (xi_le_n xi_le_z))))))))) (ih _ _ _ _ _ _ _ _ h)
          · replace h := (if_neg c36).symm.trans h
            refine xr_ifCond_eq_n i_X9_areSo_70 c36 (q := 105) t_X9_areSo_70 (q2 := 73) rfl ?_
            refine xr_iload i_X9_areSo_73 rfl (q := 75) rfl ?_
            refine xr_aload_n i_X9_areSo_75 rfl (q := 76) rfl ?_
            obtain ⟨c30, h⟩ := xi_if_some h
            obtain ⟨b31, eb31, h⟩ := xi_bind_some h
            refine xr_getR i_X9_areSo_76 xfe_X9_13 c30 eb31 (q := 79) rfl ?_
            refine xr_bipush i_X9_areSo_79 (q := 81) rfl ?_
            refine xr_iload_n i_X9_areSo_81 rfl (q := 82) rfl ?_
            refine xr_imul i_X9_areSo_82 (q := 83) rfl ?_
            refine xr_iload i_X9_areSo_83 rfl (q := 85) rfl ?_
            refine xr_iadd i_X9_areSo_85 (q := 86) rfl ?_
            refine xr_iconst i_X9_areSo_86 (q := 87) rfl ?_
            refine xr_iadd i_X9_areSo_87 (q := 88) rfl ?_
            obtain ⟨c32, h⟩ := xi_if_some h
            refine xr_iaload i_X9_areSo_88 c32 (q := 89) rfl ?_
            refine xr_iconst i_X9_areSo_89 (q := 90) rfl ?_
            by_cases c35 : (m21.1 b31 (Int32.toNatClampNeg (((((Int8.ofInt 40).toInt32) * v2) + v6) + (Int32.ofInt 1)))) = (Int32.ofInt 1)
            · replace h := (if_pos c35).symm.trans h
              refine xr_if_icmp_ne_p i_X9_areSo_90 c35 (q := 97) t_X9_areSo_90 (q2 := 93) rfl ?_
              refine xr_iconst i_X9_areSo_93 (q := 94) rfl ?_
              refine xr_goto i_X9_areSo_94 (q := 98) t_X9_areSo_94 ?_
              by_cases c34 : (Int32.ofInt 1) = (Int32.ofInt 1)
              · replace h := (if_pos c34).symm.trans h
                refine xr_if_icmp_ne_p i_X9_areSo_98 c34 (q := 105) t_X9_areSo_98 (q2 := 101) rfl ?_
                refine xr_iconst i_X9_areSo_101 (q := 102) rfl ?_
                refine xr_goto i_X9_areSo_102 (q := 106) t_X9_areSo_102 ?_
                refine xr_istore i_X9_areSo_106 rfl (L2 := [some (.ref v0), some (.int v1), some (.int v2), some (.int v3), some (.int v4), some (.int (Int32.ofInt 1)), some (.int v6), some (.int (m.1 b5 (Int32.toNatClampNeg ((((Int8.ofInt 40).toInt32) * v2) + v6)))), some (.int (Int32.ofInt 1))]) rfl (q := 108) rfl ?_
                refine xr_iinc i_X9_areSo_108 rfl rfl (L2 := [some (.ref v0), some (.int v1), some (.int v2), some (.int v3), some (.int v4), some (.int (Int32.ofInt 1)), some (.int (v6 + Int32.ofInt 2)), some (.int (m.1 b5 (Int32.toNatClampNeg ((((Int8.ofInt 40).toInt32) * v2) + v6)))), some (.int (Int32.ofInt 1))]) rfl (q := 111) rfl ?_
                refine xr_goto i_X9_areSo_111 (q := 6) t_X9_areSo_111 ?_
                exact xi_X_le (xi_le_s (xi_le_s (xi_le_s (xi_le_s (xi_le_s (xi_le_s (xi_le_s (xi_le_n (xi_le_n xi_le_z))))))))) (ih _ _ _ _ _ _ _ _ h)
              · replace h := (if_neg c34).symm.trans h
                refine xr_if_icmp_ne_n i_X9_areSo_98 c34 (q := 105) t_X9_areSo_98 (q2 := 101) rfl ?_
                refine xr_iconst i_X9_areSo_105 (q := 106) rfl ?_
                refine xr_istore i_X9_areSo_106 rfl (L2 := [some (.ref v0), some (.int v1), some (.int v2), some (.int v3), some (.int v4), some (.int (Int32.ofInt 0)), some (.int v6), some (.int (m.1 b5 (Int32.toNatClampNeg ((((Int8.ofInt 40).toInt32) * v2) + v6)))), some (.int (Int32.ofInt 1))]) rfl (q := 108) rfl ?_
                refine xr_iinc i_X9_areSo_108 rfl rfl (L2 := [some (.ref v0), some (.int v1), some (.int v2), some (.int v3), some (.int v4), some (.int (Int32.ofInt 0)), some (.int (v6 + Int32.ofInt 2)), some (.int (m.1 b5 (Int32.toNatClampNeg ((((Int8.ofInt 40).toInt32) * v2) + v6)))), some (.int (Int32.ofInt 1))]) rfl (q := 111) rfl ?_
                refine xr_goto i_X9_areSo_111 (q := 6) t_X9_areSo_111 ?_
                exact xi_X_le (xi_le_s (xi_le_s (xi_le_s (xi_le_s (xi_le_s (xi_le_s (xi_le_s (xi_le_n (xi_le_n xi_le_z))))))))) (ih _ _ _ _ _ _ _ _ h)
            · replace h := (if_neg c35).symm.trans h
              refine xr_if_icmp_ne_n i_X9_areSo_90 c35 (q := 97) t_X9_areSo_90 (q2 := 93) rfl ?_
              refine xr_iconst i_X9_areSo_97 (q := 98) rfl ?_
              by_cases c33 : (Int32.ofInt 1) = (Int32.ofInt 0)
              · replace h := (if_pos c33).symm.trans h
                refine xr_if_icmp_ne_p i_X9_areSo_98 c33 (q := 105) t_X9_areSo_98 (q2 := 101) rfl ?_
                refine xr_iconst i_X9_areSo_101 (q := 102) rfl ?_
                refine xr_goto i_X9_areSo_102 (q := 106) t_X9_areSo_102 ?_
                refine xr_istore i_X9_areSo_106 rfl (L2 := [some (.ref v0), some (.int v1), some (.int v2), some (.int v3), some (.int v4), some (.int (Int32.ofInt 1)), some (.int v6), some (.int (m.1 b5 (Int32.toNatClampNeg ((((Int8.ofInt 40).toInt32) * v2) + v6)))), some (.int (Int32.ofInt 1))]) rfl (q := 108) rfl ?_
                refine xr_iinc i_X9_areSo_108 rfl rfl (L2 := [some (.ref v0), some (.int v1), some (.int v2), some (.int v3), some (.int v4), some (.int (Int32.ofInt 1)), some (.int (v6 + Int32.ofInt 2)), some (.int (m.1 b5 (Int32.toNatClampNeg ((((Int8.ofInt 40).toInt32) * v2) + v6)))), some (.int (Int32.ofInt 1))]) rfl (q := 111) rfl ?_
                refine xr_goto i_X9_areSo_111 (q := 6) t_X9_areSo_111 ?_
                exact xi_X_le (xi_le_s (xi_le_s (xi_le_s (xi_le_s (xi_le_s (xi_le_s (xi_le_s (xi_le_n (xi_le_n xi_le_z))))))))) (ih _ _ _ _ _ _ _ _ h)
              · replace h := (if_neg c33).symm.trans h
                refine xr_if_icmp_ne_n i_X9_areSo_98 c33 (q := 105) t_X9_areSo_98 (q2 := 101) rfl ?_
                refine xr_iconst i_X9_areSo_105 (q := 106) rfl ?_
                refine xr_istore i_X9_areSo_106 rfl (L2 := [some (.ref v0), some (.int v1), some (.int v2), some (.int v3), some (.int v4), some (.int (Int32.ofInt 0)), some (.int v6), some (.int (m.1 b5 (Int32.toNatClampNeg ((((Int8.ofInt 40).toInt32) * v2) + v6)))), some (.int (Int32.ofInt 1))]) rfl (q := 108) rfl ?_
                refine xr_iinc i_X9_areSo_108 rfl rfl (L2 := [some (.ref v0), some (.int v1), some (.int v2), some (.int v3), some (.int v4), some (.int (Int32.ofInt 0)), some (.int (v6 + Int32.ofInt 2)), some (.int (m.1 b5 (Int32.toNatClampNeg ((((Int8.ofInt 40).toInt32) * v2) + v6)))), some (.int (Int32.ofInt 1))]) rfl (q := 111) rfl ?_
                refine xr_goto i_X9_areSo_111 (q := 6) t_X9_areSo_111 ?_
                exact xi_X_le (xi_le_s (xi_le_s (xi_le_s (xi_le_s (xi_le_s (xi_le_s (xi_le_s (xi_le_n (xi_le_n xi_le_z))))))))) (ih _ _ _ _ _ _ _ _ h)
        · replace h := (if_neg c37).symm.trans h
          refine xr_ifCond_ne_n i_X9_areSo_58 c37 (q := 65) t_X9_areSo_58 (q2 := 61) rfl ?_
          refine xr_iconst i_X9_areSo_65 (q := 66) rfl ?_
          refine xr_istore i_X9_areSo_66 rfl (L2 := [some (.ref v0), some (.int v1), some (.int v2), some (.int v3), some (.int v4), some (.int v5), some (.int v6), some (.int (m.1 b5 (Int32.toNatClampNeg ((((Int8.ofInt 40).toInt32) * v2) + v6)))), some (.int (Int32.ofInt 0))]) rfl (q := 68) rfl ?_
          refine xr_iload i_X9_areSo_68 rfl (q := 70) rfl ?_
          by_cases c29 : v5 = 0
          · replace h := (if_pos c29).symm.trans h
            refine xr_ifCond_eq_p i_X9_areSo_70 c29 (q := 105) t_X9_areSo_70 (q2 := 73) rfl ?_
            refine xr_iconst i_X9_areSo_105 (q := 106) rfl ?_
            refine xr_istore i_X9_areSo_106 rfl (L2 := [some (.ref v0), some (.int v1), some (.int v2), some (.int v3), some (.int v4), some (.int (Int32.ofInt 0)), some (.int v6), some (.int (m.1 b5 (Int32.toNatClampNeg ((((Int8.ofInt 40).toInt32) * v2) + v6)))), some (.int (Int32.ofInt 0))]) rfl (q := 108) rfl ?_
            refine xr_iinc i_X9_areSo_108 rfl rfl (L2 := [some (.ref v0), some (.int v1), some (.int v2), some (.int v3), some (.int v4), some (.int (Int32.ofInt 0)), some (.int (v6 + Int32.ofInt 2)), some (.int (m.1 b5 (Int32.toNatClampNeg ((((Int8.ofInt 40).toInt32) * v2) + v6)))), some (.int (Int32.ofInt 0))]) rfl (q := 111) rfl ?_
            refine xr_goto i_X9_areSo_111 (q := 6) t_X9_areSo_111 ?_
            exact xi_X_le (xi_le_s (xi_le_s (xi_le_s (xi_le_s (xi_le_s (xi_le_s (xi_le_s (xi_le_n (xi_le_n xi_le_z))))))))) (ih _ _ _ _ _ _ _ _ h)
          · replace h := (if_neg c29).symm.trans h
            refine xr_ifCond_eq_n i_X9_areSo_70 c29 (q := 105) t_X9_areSo_70 (q2 := 73) rfl ?_
            refine xr_iload i_X9_areSo_73 rfl (q := 75) rfl ?_
            refine xr_aload_n i_X9_areSo_75 rfl (q := 76) rfl ?_
            obtain ⟨c23, h⟩ := xi_if_some h
            obtain ⟨b24, eb24, h⟩ := xi_bind_some h
            refine xr_getR i_X9_areSo_76 xfe_X9_13 c23 eb24 (q := 79) rfl ?_
            refine xr_bipush i_X9_areSo_79 (q := 81) rfl ?_
            refine xr_iload_n i_X9_areSo_81 rfl (q := 82) rfl ?_
            refine xr_imul i_X9_areSo_82 (q := 83) rfl ?_
            refine xr_iload i_X9_areSo_83 rfl (q := 85) rfl ?_
            refine xr_iadd i_X9_areSo_85 (q := 86) rfl ?_
            refine xr_iconst i_X9_areSo_86 (q := 87) rfl ?_
            refine xr_iadd i_X9_areSo_87 (q := 88) rfl ?_
            obtain ⟨c25, h⟩ := xi_if_some h
            refine xr_iaload i_X9_areSo_88 c25 (q := 89) rfl ?_
            refine xr_iconst i_X9_areSo_89 (q := 90) rfl ?_
            by_cases c28 : (m21.1 b24 (Int32.toNatClampNeg (((((Int8.ofInt 40).toInt32) * v2) + v6) + (Int32.ofInt 1)))) = (Int32.ofInt 1)
            · replace h := (if_pos c28).symm.trans h
              refine xr_if_icmp_ne_p i_X9_areSo_90 c28 (q := 97) t_X9_areSo_90 (q2 := 93) rfl ?_
              refine xr_iconst i_X9_areSo_93 (q := 94) rfl ?_
              refine xr_goto i_X9_areSo_94 (q := 98) t_X9_areSo_94 ?_
              by_cases c27 : (Int32.ofInt 0) = (Int32.ofInt 1)
              · replace h := (if_pos c27).symm.trans h
                refine xr_if_icmp_ne_p i_X9_areSo_98 c27 (q := 105) t_X9_areSo_98 (q2 := 101) rfl ?_
                refine xr_iconst i_X9_areSo_101 (q := 102) rfl ?_
                refine xr_goto i_X9_areSo_102 (q := 106) t_X9_areSo_102 ?_
                refine xr_istore i_X9_areSo_106 rfl (L2 := [some (.ref v0), some (.int v1), some (.int v2), some (.int v3), some (.int v4), some (.int (Int32.ofInt 1)), some (.int v6), some (.int (m.1 b5 (Int32.toNatClampNeg ((((Int8.ofInt 40).toInt32) * v2) + v6)))), some (.int (Int32.ofInt 0))]) rfl (q := 108) rfl ?_
                refine xr_iinc i_X9_areSo_108 rfl rfl (L2 := [some (.ref v0), some (.int v1), some (.int v2), some (.int v3), some (.int v4), some (.int (Int32.ofInt 1)), some (.int (v6 + Int32.ofInt 2)), some (.int (m.1 b5 (Int32.toNatClampNeg ((((Int8.ofInt 40).toInt32) * v2) + v6)))), some (.int (Int32.ofInt 0))]) rfl (q := 111) rfl ?_
                refine xr_goto i_X9_areSo_111 (q := 6) t_X9_areSo_111 ?_
                exact xi_X_le (xi_le_s (xi_le_s (xi_le_s (xi_le_s (xi_le_s (xi_le_s (xi_le_s (xi_le_n (xi_le_n xi_le_z))))))))) (ih _ _ _ _ _ _ _ _ h)
              · replace h := (if_neg c27).symm.trans h
                refine xr_if_icmp_ne_n i_X9_areSo_98 c27 (q := 105) t_X9_areSo_98 (q2 := 101) rfl ?_
                refine xr_iconst i_X9_areSo_105 (q := 106) rfl ?_
                refine xr_istore i_X9_areSo_106 rfl (L2 := [some (.ref v0), some (.int v1), some (.int v2), some (.int v3), some (.int v4), some (.int (Int32.ofInt 0)), some (.int v6), some (.int (m.1 b5 (Int32.toNatClampNeg ((((Int8.ofInt 40).toInt32) * v2) + v6)))), some (.int (Int32.ofInt 0))]) rfl (q := 108) rfl ?_
                refine xr_iinc i_X9_areSo_108 rfl rfl (L2 := [some (.ref v0), some (.int v1), some (.int v2), some (.int v3), some (.int v4), some (.int (Int32.ofInt 0)), some (.int (v6 + Int32.ofInt 2)), some (.int (m.1 b5 (Int32.toNatClampNeg ((((Int8.ofInt 40).toInt32) * v2) + v6)))), some (.int (Int32.ofInt 0))]) rfl (q := 111) rfl ?_
                refine xr_goto i_X9_areSo_111 (q := 6) t_X9_areSo_111 ?_
                exact xi_X_le (xi_le_s (xi_le_s (xi_le_s (xi_le_s (xi_le_s (xi_le_s (xi_le_s (xi_le_n (xi_le_n xi_le_z))))))))) (ih _ _ _ _ _ _ _ _ h)
            · replace h := (if_neg c28).symm.trans h
              refine xr_if_icmp_ne_n i_X9_areSo_90 c28 (q := 97) t_X9_areSo_90 (q2 := 93) rfl ?_
              refine xr_iconst i_X9_areSo_97 (q := 98) rfl ?_
              by_cases c26 : (Int32.ofInt 0) = (Int32.ofInt 0)
              · replace h := (if_pos c26).symm.trans h
                refine xr_if_icmp_ne_p i_X9_areSo_98 c26 (q := 105) t_X9_areSo_98 (q2 := 101) rfl ?_
                refine xr_iconst i_X9_areSo_101 (q := 102) rfl ?_
                refine xr_goto i_X9_areSo_102 (q := 106) t_X9_areSo_102 ?_
                refine xr_istore i_X9_areSo_106 rfl (L2 := [some (.ref v0), some (.int v1), some (.int v2), some (.int v3), some (.int v4), some (.int (Int32.ofInt 1)), some (.int v6), some (.int (m.1 b5 (Int32.toNatClampNeg ((((Int8.ofInt 40).toInt32) * v2) + v6)))), some (.int (Int32.ofInt 0))]) rfl (q := 108) rfl ?_
                refine xr_iinc i_X9_areSo_108 rfl rfl (L2 := [some (.ref v0), some (.int v1), some (.int v2), some (.int v3), some (.int v4), some (.int (Int32.ofInt 1)), some (.int (v6 + Int32.ofInt 2)), some (.int (m.1 b5 (Int32.toNatClampNeg ((((Int8.ofInt 40).toInt32) * v2) + v6)))), some (.int (Int32.ofInt 0))]) rfl (q := 111) rfl ?_
                refine xr_goto i_X9_areSo_111 (q := 6) t_X9_areSo_111 ?_
                exact xi_X_le (xi_le_s (xi_le_s (xi_le_s (xi_le_s (xi_le_s (xi_le_s (xi_le_s (xi_le_n (xi_le_n xi_le_z))))))))) (ih _ _ _ _ _ _ _ _ h)
              · replace h := (if_neg c26).symm.trans h
                refine xr_if_icmp_ne_n i_X9_areSo_98 c26 (q := 105) t_X9_areSo_98 (q2 := 101) rfl ?_
                refine xr_iconst i_X9_areSo_105 (q := 106) rfl ?_
                refine xr_istore i_X9_areSo_106 rfl (L2 := [some (.ref v0), some (.int v1), some (.int v2), some (.int v3), some (.int v4), some (.int (Int32.ofInt 0)), some (.int v6), some (.int (m.1 b5 (Int32.toNatClampNeg ((((Int8.ofInt 40).toInt32) * v2) + v6)))), some (.int (Int32.ofInt 0))]) rfl (q := 108) rfl ?_
                refine xr_iinc i_X9_areSo_108 rfl rfl (L2 := [some (.ref v0), some (.int v1), some (.int v2), some (.int v3), some (.int v4), some (.int (Int32.ofInt 0)), some (.int (v6 + Int32.ofInt 2)), some (.int (m.1 b5 (Int32.toNatClampNeg ((((Int8.ofInt 40).toInt32) * v2) + v6)))), some (.int (Int32.ofInt 0))]) rfl (q := 111) rfl ?_
                refine xr_goto i_X9_areSo_111 (q := 6) t_X9_areSo_111 ?_
                exact xi_X_le (xi_le_s (xi_le_s (xi_le_s (xi_le_s (xi_le_s (xi_le_s (xi_le_s (xi_le_n (xi_le_n xi_le_z))))))))) (ih _ _ _ _ _ _ _ _ h)
def E_X9_areSo (S : xi_S) (v0 : Nat) (v1 : Int32) (v2 : Int32) (v3 : Int32) (v4 : Int32) (m : xi_M) : Option xi_R :=
  G_X9_areSo_6 S 10000 v0 v1 v2 v3 v4 (Int32.ofInt 1) (Int32.ofInt 0) m
def F_X9_areSo (S : xi_S) : xi_F := fun As m => match As with
  | [.ref v0, .int v1, .int v2, .int v3, .int v4] => E_X9_areSo S v0 v1 v2 v3 v4 m
  | _ => none
set_option maxRecDepth 100000 in
set_option maxHeartbeats 4000000 in
theorem xe_X9_areSo {S : xi_S} {res : xi_R} (v0 : Nat) (v1 : Int32) (v2 : Int32) (v3 : Int32) (v4 : Int32) (m : xi_M) (h : E_X9_areSo S v0 v1 v2 v3 v4 m = some res) : xi_X S (P_X9_areSo S) (0, [some (.ref v0), some (.int v1), some (.int v2), some (.int v3), some (.int v4), none, none, none, none], [], m) res := by
  unfold E_X9_areSo at h
  refine xr_iconst i_X9_areSo_0 (q := 1) rfl ?_
  refine xr_istore i_X9_areSo_1 rfl (L2 := [some (.ref v0), some (.int v1), some (.int v2), some (.int v3), some (.int v4), some (.int (Int32.ofInt 1)), none, none, none]) rfl (q := 3) rfl ?_
  refine xr_iconst i_X9_areSo_3 (q := 4) rfl ?_
  refine xr_istore i_X9_areSo_4 rfl (L2 := [some (.ref v0), some (.int v1), some (.int v2), some (.int v3), some (.int v4), some (.int (Int32.ofInt 1)), some (.int (Int32.ofInt 0)), none, none]) rfl (q := 6) rfl ?_
  exact xi_X_le (xi_le_s (xi_le_s (xi_le_s (xi_le_s (xi_le_s (xi_le_s (xi_le_s (xi_le_n (xi_le_n xi_le_z))))))))) (xs_X9_areSo_6 10000 _ _ _ _ _ _ _ _ h)
set_option maxRecDepth 100000 in
theorem po_X9_areSo {l : Launch} {E : xi_E} {S : xi_S} {D : va_G} {tys : List (ClassId × FieldType)} (hC : xCx E S tys) : xi_Pok l E S D vwCl tys xNs RX9 xTs cX9_areSo 9 4 (P_X9_areSo S) := ⟨xi_dc_ok, by rw [hC.2]; exact xfo_X9, xkio_X9, xklo_X9, xi_calls_ok (ins := .invokestatic) (List.forall_mem_cons.mpr ⟨(xc_X9_147 (sn_X9_isWithin hC) (by decide)), List.forall_mem_cons.mpr ⟨(xc_X9_151 (sn_X9_isKept hC) (by decide)), fun _ h => absurd h List.not_mem_nil⟩⟩), xi_calls_ok (ins := .invokevirtual) (fun _ h => absurd h List.not_mem_nil)⟩
theorem sn_X9_areSo {l : Launch} {E : xi_E} {S : xi_S} {D : va_G} {tys : List (ClassId × FieldType)} (hC : xCx E S tys) : ∀ As m1 r m2, F_X9_areSo S As m1 = some (r, m2) → xi_Sound l E S D vwCl tys xNs xTs yX9_areSo cX9_areSo 9 (some .boolean) 4 As m1 r m2 := by
  intro As m1 r m2 h
  unfold F_X9_areSo at h
  split at h
  · exact xi_meth (P := P_X9_areSo S) (by decide) hC.1 (po_X9_areSo hC) (Nat.le_of_ble_eq_true rfl) rfl (xe_X9_areSo _ _ _ _ _ _ h)
  · exact xi_no h
