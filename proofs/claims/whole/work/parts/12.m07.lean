theorem i_X8_refusedGuess_0 : xi_dc cX8_refusedGuess 0 = some (.iload_n 1, 1) := by decide +kernel
theorem i_X8_refusedGuess_1 : xi_dc cX8_refusedGuess 1 = some (.iconst 1, 1) := by decide +kernel
theorem i_X8_refusedGuess_2 : xi_dc cX8_refusedGuess 2 = some (.invokestatic 71, 3) := by decide +kernel
theorem i_X8_refusedGuess_5 : xi_dc cX8_refusedGuess 5 = some (.ifCond .eq 11, 3) := by decide +kernel
theorem t_X8_refusedGuess_5 : ((5 : Nat) : Int) + 11 = ((16 : Nat) : Int) := by decide +kernel
theorem i_X8_refusedGuess_8 : xi_dc cX8_refusedGuess 8 = some (.iload_n 2, 1) := by decide +kernel
theorem i_X8_refusedGuess_9 : xi_dc cX8_refusedGuess 9 = some (.iconst 5, 1) := by decide +kernel
theorem i_X8_refusedGuess_10 : xi_dc cX8_refusedGuess 10 = some (.invokestatic 71, 3) := by decide +kernel
theorem i_X8_refusedGuess_13 : xi_dc cX8_refusedGuess 13 = some (.ifCond .ne 5, 3) := by decide +kernel
theorem t_X8_refusedGuess_13 : ((13 : Nat) : Int) + 5 = ((18 : Nat) : Int) := by decide +kernel
theorem i_X8_refusedGuess_16 : xi_dc cX8_refusedGuess 16 = some (.iconst (-1), 1) := by decide +kernel
theorem i_X8_refusedGuess_17 : xi_dc cX8_refusedGuess 17 = some (.ireturn, 1) := by decide +kernel
theorem i_X8_refusedGuess_18 : xi_dc cX8_refusedGuess 18 = some (.aload_n 0, 1) := by decide +kernel
theorem i_X8_refusedGuess_19 : xi_dc cX8_refusedGuess 19 = some (.getfield 21, 3) := by decide +kernel
theorem i_X8_refusedGuess_22 : xi_dc cX8_refusedGuess 22 = some (.getfield 129, 3) := by decide +kernel
theorem i_X8_refusedGuess_25 : xi_dc cX8_refusedGuess 25 = some (.ifCond .ne 6, 3) := by decide +kernel
theorem t_X8_refusedGuess_25 : ((25 : Nat) : Int) + 6 = ((31 : Nat) : Int) := by decide +kernel
theorem i_X8_refusedGuess_28 : xi_dc cX8_refusedGuess 28 = some (.bipush (-4), 2) := by decide +kernel
theorem i_X8_refusedGuess_30 : xi_dc cX8_refusedGuess 30 = some (.ireturn, 1) := by decide +kernel
theorem i_X8_refusedGuess_31 : xi_dc cX8_refusedGuess 31 = some (.aload_n 0, 1) := by decide +kernel
theorem i_X8_refusedGuess_32 : xi_dc cX8_refusedGuess 32 = some (.getfield 11, 3) := by decide +kernel
theorem i_X8_refusedGuess_35 : xi_dc cX8_refusedGuess 35 = some (.iload_n 2, 1) := by decide +kernel
theorem i_X8_refusedGuess_36 : xi_dc cX8_refusedGuess 36 = some (.aaload, 1) := by decide +kernel
theorem i_X8_refusedGuess_37 : xi_dc cX8_refusedGuess 37 = some (.bipush 20, 2) := by decide +kernel
theorem i_X8_refusedGuess_39 : xi_dc cX8_refusedGuess 39 = some (.iconst 1, 1) := by decide +kernel
theorem i_X8_refusedGuess_40 : xi_dc cX8_refusedGuess 40 = some (.invokevirtual 331, 3) := by decide +kernel
theorem i_X8_refusedGuess_43 : xi_dc cX8_refusedGuess 43 = some (.istore_n 3, 1) := by decide +kernel
theorem i_X8_refusedGuess_44 : xi_dc cX8_refusedGuess 44 = some (.iload_n 3, 1) := by decide +kernel
theorem i_X8_refusedGuess_45 : xi_dc cX8_refusedGuess 45 = some (.ifCond .ne 7, 3) := by decide +kernel
theorem t_X8_refusedGuess_45 : ((45 : Nat) : Int) + 7 = ((52 : Nat) : Int) := by decide +kernel
theorem i_X8_refusedGuess_48 : xi_dc cX8_refusedGuess 48 = some (.iconst 0, 1) := by decide +kernel
theorem i_X8_refusedGuess_49 : xi_dc cX8_refusedGuess 49 = some (.goto 8, 3) := by decide +kernel
theorem t_X8_refusedGuess_49 : ((49 : Nat) : Int) + 8 = ((57 : Nat) : Int) := by decide +kernel
theorem i_X8_refusedGuess_52 : xi_dc cX8_refusedGuess 52 = some (.aload_n 0, 1) := by decide +kernel
theorem i_X8_refusedGuess_53 : xi_dc cX8_refusedGuess 53 = some (.iload_n 3, 1) := by decide +kernel
theorem i_X8_refusedGuess_54 : xi_dc cX8_refusedGuess 54 = some (.invokevirtual 83, 3) := by decide +kernel
theorem i_X8_refusedGuess_57 : xi_dc cX8_refusedGuess 57 = some (.ireturn, 1) := by decide +kernel
def P_X8_refusedGuess (S : xi_S) : xi_P := (xi_dc cX8_refusedGuess, xi_tab xfl_X8, xi_tab xki_X8, xi_tab xkl_X8, xi_tab xcs_X8, xi_tab xcv_X8, xi_calls [(71, xi_wS 2 (F_X8_within S))], xi_calls [(83, xi_wV S 10 1 (F_X8_refuse S)), (331, xi_wV S 9 2 (F_X7_findingOfPairs S))], 1)
theorem cc_X8_refusedGuess_71 (S : xi_S) (a0 : Int32) (a1 : Int32) (m : xi_M) : (P_X8_refusedGuess S).2.2.2.2.2.2.1 71 [.int a0, .int a1] m = (E_X8_within S a0 a1 m) := by
  show xi_calls [(71, xi_wS 2 (F_X8_within S))] 71 [.int a0, .int a1] m = _
  refine Eq.trans (b := xi_wS 2 (F_X8_within S) [.int a0, .int a1] m) (xi_calls_hit rfl) ?_
  exact xi_wS_eq rfl
theorem cc_X8_refusedGuess_83 (S : xi_S) (a0 : Nat) (a1 : Int32) (m : xi_M) : (P_X8_refusedGuess S).2.2.2.2.2.2.2.1 83 [.ref a0, .int a1] m = (if S.1 a0 = 10 then E_X8_refuse S a0 a1 m else none) := by
  show xi_calls [(83, xi_wV S 10 1 (F_X8_refuse S)), (331, xi_wV S 9 2 (F_X7_findingOfPairs S))] 83 [.ref a0, .int a1] m = _
  refine Eq.trans (b := xi_wV S 10 1 (F_X8_refuse S) [.ref a0, .int a1] m) (xi_calls_hit rfl) ?_
  exact xi_wV_eq rfl
theorem cc_X8_refusedGuess_331 (S : xi_S) (a0 : Nat) (a1 : Int32) (a2 : Int32) (m : xi_M) : (P_X8_refusedGuess S).2.2.2.2.2.2.2.1 331 [.ref a0, .int a1, .int a2] m = (if S.1 a0 = 9 then E_X7_findingOfPairs S a0 a1 a2 m else none) := by
  show xi_calls [(83, xi_wV S 10 1 (F_X8_refuse S)), (331, xi_wV S 9 2 (F_X7_findingOfPairs S))] 331 [.ref a0, .int a1, .int a2] m = _
  refine Eq.trans (b := xi_calls [(331, xi_wV S 9 2 (F_X7_findingOfPairs S))] 331 [.ref a0, .int a1, .int a2] m) (xi_calls_miss rfl) ?_
  refine Eq.trans (b := xi_wV S 9 2 (F_X7_findingOfPairs S) [.ref a0, .int a1, .int a2] m) (xi_calls_hit rfl) ?_
  exact xi_wV_eq rfl
def E_X8_refusedGuess (S : xi_S) (v0 : Nat) (v1 : Int32) (v2 : Int32) (m : xi_M) : Option xi_R :=
  xi_bI (E_X8_within S v1 (Int32.ofInt 1) m) fun x2 m1 =>
  if x2 = 0 then
    some (some (.int (Int32.ofInt (-1))), m1)
  else
    xi_bI (E_X8_within S v2 (Int32.ofInt 5) m1) fun x4 m3 =>
    if x4 = 0 then
      some (some (.int (Int32.ofInt (-1))), m3)
    else
      if S.1 v0 = 10 then (S.2.2 v0 2).bind fun b6 =>
        if S.1 b6 = 8 then
          if (m3.1 b6 1) = 0 then
            some (some (.int ((Int8.ofInt (-4)).toInt32)), m3)
          else
            if S.1 v0 = 10 then (S.2.2 v0 0).bind fun b9 =>
              if (S.1 b9 = 1 ∨ S.1 b9 = 2) ∧ ¬ (v2 < 0 ∨ S.2.1 b9 ≤ Int32.toNatClampNeg v2) then (S.2.2 b9 (Int32.toNatClampNeg v2)).bind fun b11 =>
                xi_bI (if S.1 b11 = 9 then E_X7_findingOfPairs S b11 ((Int8.ofInt 20).toInt32) (Int32.ofInt 1) m3 else none) fun x13 m12 =>
                if x13 = 0 then
                  some (some (.int (Int32.ofInt 0)), m12)
                else
                  xi_bI (if S.1 v0 = 10 then E_X8_refuse S v0 x13 m12 else none) fun x15 m14 =>
                  some (some (.int x15), m14)
              else none
            else none
        else none
      else none
def F_X8_refusedGuess (S : xi_S) : xi_F := fun As m => match As with
  | [.ref v0, .int v1, .int v2] => E_X8_refusedGuess S v0 v1 v2 m
  | _ => none
set_option maxRecDepth 100000 in
set_option maxHeartbeats 4000000 in
theorem xe_X8_refusedGuess {S : xi_S} {res : xi_R} (v0 : Nat) (v1 : Int32) (v2 : Int32) (m : xi_M) (h : E_X8_refusedGuess S v0 v1 v2 m = some res) : xi_X S (P_X8_refusedGuess S) (0, [some (.ref v0), some (.int v1), some (.int v2), none], [], m) res := by
  unfold E_X8_refusedGuess at h
  refine xr_iload_n i_X8_refusedGuess_0 rfl (q := 1) rfl ?_
  refine xr_iconst i_X8_refusedGuess_1 (q := 2) rfl ?_
  obtain ⟨x2, m1, em1, h⟩ := xi_bI_some h
  refine xr_SI i_X8_refusedGuess_2 xcse_X8_71 rfl (As := [.int v1, .int (Int32.ofInt 1)]) rfl (rest := []) rfl ((cc_X8_refusedGuess_71 S _ _ _).trans em1) (q := 5) rfl ?_
  by_cases c19 : x2 = 0
  · replace h := (if_pos c19).symm.trans h
    refine xr_ifCond_eq_p i_X8_refusedGuess_5 c19 (q := 16) t_X8_refusedGuess_5 (q2 := 8) rfl ?_
    refine xr_iconst i_X8_refusedGuess_16 (q := 17) rfl ?_
    exact xr_ireturn i_X8_refusedGuess_17 rfl h
  · replace h := (if_neg c19).symm.trans h
    refine xr_ifCond_eq_n i_X8_refusedGuess_5 c19 (q := 16) t_X8_refusedGuess_5 (q2 := 8) rfl ?_
    refine xr_iload_n i_X8_refusedGuess_8 rfl (q := 9) rfl ?_
    refine xr_iconst i_X8_refusedGuess_9 (q := 10) rfl ?_
    obtain ⟨x4, m3, em3, h⟩ := xi_bI_some h
    refine xr_SI i_X8_refusedGuess_10 xcse_X8_71 rfl (As := [.int v2, .int (Int32.ofInt 5)]) rfl (rest := []) rfl ((cc_X8_refusedGuess_71 S _ _ _).trans em3) (q := 13) rfl ?_
    by_cases c18 : x4 = 0
    · replace h := (if_pos c18).symm.trans h
      refine xr_ifCond_ne_p i_X8_refusedGuess_13 c18 (q := 18) t_X8_refusedGuess_13 (q2 := 16) rfl ?_
      refine xr_iconst i_X8_refusedGuess_16 (q := 17) rfl ?_
      exact xr_ireturn i_X8_refusedGuess_17 rfl h
    · replace h := (if_neg c18).symm.trans h
      refine xr_ifCond_ne_n i_X8_refusedGuess_13 c18 (q := 18) t_X8_refusedGuess_13 (q2 := 16) rfl ?_
      refine xr_aload_n i_X8_refusedGuess_18 rfl (q := 19) rfl ?_
      obtain ⟨c5, h⟩ := xi_if_some h
      obtain ⟨b6, eb6, h⟩ := xi_bind_some h
      refine xr_getR i_X8_refusedGuess_19 xfe_X8_21 c5 eb6 (q := 22) rfl ?_
      obtain ⟨c7, h⟩ := xi_if_some h
      refine xr_getI i_X8_refusedGuess_22 xfe_X8_129 c7 (q := 25) rfl ?_
      by_cases c17 : (m3.1 b6 1) = 0
      · replace h := (if_pos c17).symm.trans h
        refine xr_ifCond_ne_p i_X8_refusedGuess_25 c17 (q := 31) t_X8_refusedGuess_25 (q2 := 28) rfl ?_
        refine xr_bipush i_X8_refusedGuess_28 (q := 30) rfl ?_
        exact xr_ireturn i_X8_refusedGuess_30 rfl h
      · replace h := (if_neg c17).symm.trans h
        refine xr_ifCond_ne_n i_X8_refusedGuess_25 c17 (q := 31) t_X8_refusedGuess_25 (q2 := 28) rfl ?_
        refine xr_aload_n i_X8_refusedGuess_31 rfl (q := 32) rfl ?_
        obtain ⟨c8, h⟩ := xi_if_some h
        obtain ⟨b9, eb9, h⟩ := xi_bind_some h
        refine xr_getR i_X8_refusedGuess_32 xfe_X8_11 c8 eb9 (q := 35) rfl ?_
        refine xr_iload_n i_X8_refusedGuess_35 rfl (q := 36) rfl ?_
        obtain ⟨c10, h⟩ := xi_if_some h
        obtain ⟨b11, eb11, h⟩ := xi_bind_some h
        refine xr_aaload i_X8_refusedGuess_36 c10 eb11 (q := 37) rfl ?_
        refine xr_bipush i_X8_refusedGuess_37 (q := 39) rfl ?_
        refine xr_iconst i_X8_refusedGuess_39 (q := 40) rfl ?_
        obtain ⟨x13, m12, em12, h⟩ := xi_bI_some h
        refine xr_VI i_X8_refusedGuess_40 xcve_X8_331 rfl (As := [.ref b11, .int ((Int8.ofInt 20).toInt32), .int (Int32.ofInt 1)]) rfl (rest := []) rfl ((cc_X8_refusedGuess_331 S _ _ _ _).trans em12) (q := 43) rfl ?_
        refine xr_istore_n i_X8_refusedGuess_43 rfl (L2 := [some (.ref v0), some (.int v1), some (.int v2), some (.int x13)]) rfl (q := 44) rfl ?_
        refine xr_iload_n i_X8_refusedGuess_44 rfl (q := 45) rfl ?_
        by_cases c16 : x13 = 0
        · replace h := (if_pos c16).symm.trans h
          refine xr_ifCond_ne_p i_X8_refusedGuess_45 c16 (q := 52) t_X8_refusedGuess_45 (q2 := 48) rfl ?_
          refine xr_iconst i_X8_refusedGuess_48 (q := 49) rfl ?_
          refine xr_goto i_X8_refusedGuess_49 (q := 57) t_X8_refusedGuess_49 ?_
          exact xr_ireturn i_X8_refusedGuess_57 rfl h
        · replace h := (if_neg c16).symm.trans h
          refine xr_ifCond_ne_n i_X8_refusedGuess_45 c16 (q := 52) t_X8_refusedGuess_45 (q2 := 48) rfl ?_
          refine xr_aload_n i_X8_refusedGuess_52 rfl (q := 53) rfl ?_
          refine xr_iload_n i_X8_refusedGuess_53 rfl (q := 54) rfl ?_
          obtain ⟨x15, m14, em14, h⟩ := xi_bI_some h
          refine xr_VI i_X8_refusedGuess_54 xcve_X8_83 rfl (As := [.ref v0, .int x13]) rfl (rest := []) rfl ((cc_X8_refusedGuess_83 S _ _ _).trans em14) (q := 57) rfl ?_
          exact xr_ireturn i_X8_refusedGuess_57 rfl h
set_option maxRecDepth 100000 in
theorem po_X8_refusedGuess {l : Launch} {E : xi_E} {S : xi_S} {D : va_G} {tys : List (ClassId × FieldType)} (hC : xCx E S tys) : xi_Pok l E S D vwCl tys xNs RX8 xTs cX8_refusedGuess 4 2 (P_X8_refusedGuess S) := ⟨xi_dc_ok, by rw [hC.2]; exact xfo_X8, xkio_X8, xklo_X8, xi_calls_ok (ins := .invokestatic) (List.forall_mem_cons.mpr ⟨(xc_X8_71 (sn_X8_within hC) (by decide)), fun _ h => absurd h List.not_mem_nil⟩), xi_calls_ok (ins := .invokevirtual) (List.forall_mem_cons.mpr ⟨(xc_X8_83 hC.1 (sn_X8_refuse hC) (by decide)), List.forall_mem_cons.mpr ⟨(xc_X8_331 hC.1 (sn_X7_findingOfPairs hC) (by decide)), fun _ h => absurd h List.not_mem_nil⟩⟩)⟩
theorem sn_X8_refusedGuess {l : Launch} {E : xi_E} {S : xi_S} {D : va_G} {tys : List (ClassId × FieldType)} (hC : xCx E S tys) : ∀ As m1 r m2, F_X8_refusedGuess S As m1 = some (r, m2) → xi_Sound l E S D vwCl tys xNs xTs yX8_refusedGuess cX8_refusedGuess 4 (some .int) 2 As m1 r m2 := by
  intro As m1 r m2 h
  unfold F_X8_refusedGuess at h
  split at h
  · exact xi_meth (P := P_X8_refusedGuess S) (by decide) hC.1 (po_X8_refusedGuess hC) (Nat.le_of_ble_eq_true rfl) rfl (xe_X8_refusedGuess _ _ _ _ h)
  · exact xi_no h
theorem i_X8_tell_0 : xi_dc cX8_tell 0 = some (.lload_n 1, 1) := by decide +kernel
theorem i_X8_tell_1 : xi_dc cX8_tell 1 = some (.lstore 5, 2) := by decide +kernel
theorem i_X8_tell_3 : xi_dc cX8_tell 3 = some (.lload_n 3, 1) := by decide +kernel
theorem i_X8_tell_4 : xi_dc cX8_tell 4 = some (.lstore 7, 2) := by decide +kernel
theorem i_X8_tell_6 : xi_dc cX8_tell 6 = some (.iconst 0, 1) := by decide +kernel
theorem i_X8_tell_7 : xi_dc cX8_tell 7 = some (.istore 9, 2) := by decide +kernel
theorem i_X8_tell_9 : xi_dc cX8_tell 9 = some (.iload 9, 2) := by decide +kernel
theorem i_X8_tell_11 : xi_dc cX8_tell 11 = some (.sipush 200, 3) := by decide +kernel
theorem i_X8_tell_14 : xi_dc cX8_tell 14 = some (.if_icmp .ge 31, 3) := by decide +kernel
theorem t_X8_tell_14 : ((14 : Nat) : Int) + 31 = ((45 : Nat) : Int) := by decide +kernel
theorem i_X8_tell_17 : xi_dc cX8_tell 17 = some (.lload 7, 2) := by decide +kernel
theorem i_X8_tell_19 : xi_dc cX8_tell 19 = some (.lconst 0, 1) := by decide +kernel
theorem i_X8_tell_20 : xi_dc cX8_tell 20 = some (.lcmp, 1) := by decide +kernel
theorem i_X8_tell_21 : xi_dc cX8_tell 21 = some (.ifCond .eq 24, 3) := by decide +kernel
theorem t_X8_tell_21 : ((21 : Nat) : Int) + 24 = ((45 : Nat) : Int) := by decide +kernel
theorem i_X8_tell_24 : xi_dc cX8_tell 24 = some (.lload 5, 2) := by decide +kernel
theorem i_X8_tell_26 : xi_dc cX8_tell 26 = some (.lload 7, 2) := by decide +kernel
theorem i_X8_tell_28 : xi_dc cX8_tell 28 = some (.lrem, 1) := by decide +kernel
theorem i_X8_tell_29 : xi_dc cX8_tell 29 = some (.lstore 10, 2) := by decide +kernel
theorem i_X8_tell_31 : xi_dc cX8_tell 31 = some (.lload 7, 2) := by decide +kernel
theorem i_X8_tell_33 : xi_dc cX8_tell 33 = some (.lstore 5, 2) := by decide +kernel
theorem i_X8_tell_35 : xi_dc cX8_tell 35 = some (.lload 10, 2) := by decide +kernel
theorem i_X8_tell_37 : xi_dc cX8_tell 37 = some (.lstore 7, 2) := by decide +kernel
theorem i_X8_tell_39 : xi_dc cX8_tell 39 = some (.iinc 9 1, 3) := by decide +kernel
theorem i_X8_tell_42 : xi_dc cX8_tell 42 = some (.goto (-33), 3) := by decide +kernel
theorem t_X8_tell_42 : ((42 : Nat) : Int) + (-33) = ((9 : Nat) : Int) := by decide +kernel
theorem i_X8_tell_45 : xi_dc cX8_tell 45 = some (.lload 5, 2) := by decide +kernel
theorem i_X8_tell_47 : xi_dc cX8_tell 47 = some (.lconst 0, 1) := by decide +kernel
theorem i_X8_tell_48 : xi_dc cX8_tell 48 = some (.lcmp, 1) := by decide +kernel
theorem i_X8_tell_49 : xi_dc cX8_tell 49 = some (.ifCond .le 19, 3) := by decide +kernel
theorem t_X8_tell_49 : ((49 : Nat) : Int) + 19 = ((68 : Nat) : Int) := by decide +kernel
theorem i_X8_tell_52 : xi_dc cX8_tell 52 = some (.aload_n 0, 1) := by decide +kernel
theorem i_X8_tell_53 : xi_dc cX8_tell 53 = some (.lload_n 1, 1) := by decide +kernel
theorem i_X8_tell_54 : xi_dc cX8_tell 54 = some (.lload 5, 2) := by decide +kernel
theorem i_X8_tell_56 : xi_dc cX8_tell 56 = some (.ldiv, 1) := by decide +kernel
theorem i_X8_tell_57 : xi_dc cX8_tell 57 = some (.putfield 301, 3) := by decide +kernel
theorem i_X8_tell_60 : xi_dc cX8_tell 60 = some (.aload_n 0, 1) := by decide +kernel
theorem i_X8_tell_61 : xi_dc cX8_tell 61 = some (.lload_n 3, 1) := by decide +kernel
theorem i_X8_tell_62 : xi_dc cX8_tell 62 = some (.lload 5, 2) := by decide +kernel
theorem i_X8_tell_64 : xi_dc cX8_tell 64 = some (.ldiv, 1) := by decide +kernel
theorem i_X8_tell_65 : xi_dc cX8_tell 65 = some (.putfield 64, 3) := by decide +kernel
theorem i_X8_tell_68 : xi_dc cX8_tell 68 = some (.return_, 1) := by decide +kernel
def P_X8_tell (S : xi_S) : xi_P := (xi_dc cX8_tell, xi_tab xfl_X8, xi_tab xki_X8, xi_tab xkl_X8, xi_tab xcs_X8, xi_tab xcv_X8, xi_calls [], xi_calls [], 0)
def G_X8_tell_9 (S : xi_S) : Nat → Nat → Int64 → Int64 → Int64 → Int64 → Int32 → xi_M → Option xi_R
  | 0, _, _, _, _, _, _, _ => none
  | n + 1, v0, v1, v3, v5, v7, v9, m =>
    if ((Int16.ofInt 200).toInt32) ≤ v9 then
      if (lg_cmp v5 (Int64.ofNat ((0 : Fin 2) : Nat))) ≤ 0 then
        some (none, m)
      else
        if v5 = 0 then none else
        if S.1 v0 = 10 then
          if v5 = 0 then none else
          if S.1 v0 = 10 then
            some (none, (xi_wJ (xi_wJ m v0 12 (v1 / v5)) v0 13 (v3 / v5)))
          else none
        else none
    else
      if (lg_cmp v7 (Int64.ofNat ((0 : Fin 2) : Nat))) = 0 then
        if (lg_cmp v5 (Int64.ofNat ((0 : Fin 2) : Nat))) ≤ 0 then
          some (none, m)
        else
          if v5 = 0 then none else
          if S.1 v0 = 10 then
            if v5 = 0 then none else
            if S.1 v0 = 10 then
              some (none, (xi_wJ (xi_wJ m v0 12 (v1 / v5)) v0 13 (v3 / v5)))
            else none
          else none
      else
        if v7 = 0 then none else
        G_X8_tell_9 S n v0 v1 v3 v7 (v5 - v5 / v7 * v7) (v9 + Int32.ofInt 1) m
set_option maxRecDepth 100000 in
set_option maxHeartbeats 4000000 in
theorem xs_X8_tell_9 {S : xi_S} {res : xi_R} : ∀ (n : Nat) (v0 : Nat) (v1 : Int64) (v3 : Int64) (v5 : Int64) (v7 : Int64) (v9 : Int32) (m : xi_M), G_X8_tell_9 S n v0 v1 v3 v5 v7 v9 m = some res → xi_X S (P_X8_tell S) (9, [some (.ref v0), some (.long v1), none, some (.long v3), none, some (.long v5), none, some (.long v7), none, some (.int v9), none, none], [], m) res := by
  intro n
  induction n with
  | zero => intro v0 v1 v3 v5 v7 v9 m h; exact xi_no h
  | succ n ih =>
    intro v0 v1 v3 v5 v7 v9 m h
    unfold G_X8_tell_9 at h
    refine xr_iload i_X8_tell_9 rfl (q := 11) rfl ?_
    refine xr_sipush i_X8_tell_11 (q := 14) rfl ?_
    by_cases c13 : ((Int16.ofInt 200).toInt32) ≤ v9
    · replace h := (if_pos c13).symm.trans h
      refine xr_if_icmp_ge_p i_X8_tell_14 c13 (q := 45) t_X8_tell_14 (q2 := 17) rfl ?_
      refine xr_lload i_X8_tell_45 rfl (q := 47) rfl ?_
      refine xr_lconst i_X8_tell_47 (q := 48) rfl ?_
      refine xr_lcmp i_X8_tell_48 (q := 49) rfl ?_
      by_cases c5 : (lg_cmp v5 (Int64.ofNat ((0 : Fin 2) : Nat))) ≤ 0
      · replace h := (if_pos c5).symm.trans h
        refine xr_ifCond_le_p i_X8_tell_49 c5 (q := 68) t_X8_tell_49 (q2 := 52) rfl ?_
        exact xr_return i_X8_tell_68 rfl h
      · replace h := (if_neg c5).symm.trans h
        refine xr_ifCond_le_n i_X8_tell_49 c5 (q := 68) t_X8_tell_49 (q2 := 52) rfl ?_
        refine xr_aload_n i_X8_tell_52 rfl (q := 53) rfl ?_
        refine xr_lload_n i_X8_tell_53 rfl (q := 54) rfl ?_
        refine xr_lload i_X8_tell_54 rfl (q := 56) rfl ?_
        obtain ⟨c1, h⟩ := xi_ifn_some h
        refine xr_ldiv i_X8_tell_56 c1 (q := 57) rfl ?_
        obtain ⟨c2, h⟩ := xi_if_some h
        refine xr_putJ i_X8_tell_57 xfe_X8_301 c2 (q := 60) rfl ?_
        refine xr_aload_n i_X8_tell_60 rfl (q := 61) rfl ?_
        refine xr_lload_n i_X8_tell_61 rfl (q := 62) rfl ?_
        refine xr_lload i_X8_tell_62 rfl (q := 64) rfl ?_
        obtain ⟨c3, h⟩ := xi_ifn_some h
        refine xr_ldiv i_X8_tell_64 c3 (q := 65) rfl ?_
        obtain ⟨c4, h⟩ := xi_if_some h
        refine xr_putJ i_X8_tell_65 xfe_X8_64 c4 (q := 68) rfl ?_
        exact xr_return i_X8_tell_68 rfl h
    · replace h := (if_neg c13).symm.trans h
      refine xr_if_icmp_ge_n i_X8_tell_14 c13 (q := 45) t_X8_tell_14 (q2 := 17) rfl ?_
      refine xr_lload i_X8_tell_17 rfl (q := 19) rfl ?_
      refine xr_lconst i_X8_tell_19 (q := 20) rfl ?_
      refine xr_lcmp i_X8_tell_20 (q := 21) rfl ?_
      by_cases c12 : (lg_cmp v7 (Int64.ofNat ((0 : Fin 2) : Nat))) = 0
      · replace h := (if_pos c12).symm.trans h
        refine xr_ifCond_eq_p i_X8_tell_21 c12 (q := 45) t_X8_tell_21 (q2 := 24) rfl ?_
        refine xr_lload i_X8_tell_45 rfl (q := 47) rfl ?_
        refine xr_lconst i_X8_tell_47 (q := 48) rfl ?_
        refine xr_lcmp i_X8_tell_48 (q := 49) rfl ?_
        by_cases c10 : (lg_cmp v5 (Int64.ofNat ((0 : Fin 2) : Nat))) ≤ 0
        · replace h := (if_pos c10).symm.trans h
          refine xr_ifCond_le_p i_X8_tell_49 c10 (q := 68) t_X8_tell_49 (q2 := 52) rfl ?_
          exact xr_return i_X8_tell_68 rfl h
        · replace h := (if_neg c10).symm.trans h
          refine xr_ifCond_le_n i_X8_tell_49 c10 (q := 68) t_X8_tell_49 (q2 := 52) rfl ?_
          refine xr_aload_n i_X8_tell_52 rfl (q := 53) rfl ?_
          refine xr_lload_n i_X8_tell_53 rfl (q := 54) rfl ?_
          refine xr_lload i_X8_tell_54 rfl (q := 56) rfl ?_
          obtain ⟨c6, h⟩ := xi_ifn_some h
          refine xr_ldiv i_X8_tell_56 c6 (q := 57) rfl ?_
          obtain ⟨c7, h⟩ := xi_if_some h
          refine xr_putJ i_X8_tell_57 xfe_X8_301 c7 (q := 60) rfl ?_
          refine xr_aload_n i_X8_tell_60 rfl (q := 61) rfl ?_
          refine xr_lload_n i_X8_tell_61 rfl (q := 62) rfl ?_
          refine xr_lload i_X8_tell_62 rfl (q := 64) rfl ?_
          obtain ⟨c8, h⟩ := xi_ifn_some h
          refine xr_ldiv i_X8_tell_64 c8 (q := 65) rfl ?_
          obtain ⟨c9, h⟩ := xi_if_some h
          refine xr_putJ i_X8_tell_65 xfe_X8_64 c9 (q := 68) rfl ?_
          exact xr_return i_X8_tell_68 rfl h
      · replace h := (if_neg c12).symm.trans h
        refine xr_ifCond_eq_n i_X8_tell_21 c12 (q := 45) t_X8_tell_21 (q2 := 24) rfl ?_
        refine xr_lload i_X8_tell_24 rfl (q := 26) rfl ?_
        refine xr_lload i_X8_tell_26 rfl (q := 28) rfl ?_
        obtain ⟨c11, h⟩ := xi_ifn_some h
        refine xr_lrem i_X8_tell_28 c11 (q := 29) rfl ?_
        refine xr_lstore i_X8_tell_29 rfl (L2 := [some (.ref v0), some (.long v1), none, some (.long v3), none, some (.long v5), none, some (.long v7), none, some (.int v9), some (.long (v5 - v5 / v7 * v7)), none]) rfl (q := 31) rfl ?_
        refine xr_lload i_X8_tell_31 rfl (q := 33) rfl ?_
        refine xr_lstore i_X8_tell_33 rfl (L2 := [some (.ref v0), some (.long v1), none, some (.long v3), none, some (.long v7), none, some (.long v7), none, some (.int v9), some (.long (v5 - v5 / v7 * v7)), none]) rfl (q := 35) rfl ?_
        refine xr_lload i_X8_tell_35 rfl (q := 37) rfl ?_
        refine xr_lstore i_X8_tell_37 rfl (L2 := [some (.ref v0), some (.long v1), none, some (.long v3), none, some (.long v7), none, some (.long (v5 - v5 / v7 * v7)), none, some (.int v9), some (.long (v5 - v5 / v7 * v7)), none]) rfl (q := 39) rfl ?_
        refine xr_iinc i_X8_tell_39 rfl rfl (L2 := [some (.ref v0), some (.long v1), none, some (.long v3), none, some (.long v7), none, some (.long (v5 - v5 / v7 * v7)), none, some (.int (v9 + Int32.ofInt 1)), some (.long (v5 - v5 / v7 * v7)), none]) rfl (q := 42) rfl ?_
        refine xr_goto i_X8_tell_42 (q := 9) t_X8_tell_42 ?_
        exact xi_X_le (xi_le_s (xi_le_s (xi_le_n (xi_le_s (xi_le_n (xi_le_s (xi_le_n (xi_le_s (xi_le_n (xi_le_s (xi_le_n (xi_le_n xi_le_z)))))))))))) (ih _ _ _ _ _ _ _ h)
def E_X8_tell (S : xi_S) (v0 : Nat) (v1 : Int64) (v3 : Int64) (m : xi_M) : Option xi_R :=
  G_X8_tell_9 S 10000 v0 v1 v3 v1 v3 (Int32.ofInt 0) m
def F_X8_tell (S : xi_S) : xi_F := fun As m => match As with
  | [.ref v0, .long v1, .long v3] => E_X8_tell S v0 v1 v3 m
  | _ => none
set_option maxRecDepth 100000 in
set_option maxHeartbeats 4000000 in
theorem xe_X8_tell {S : xi_S} {res : xi_R} (v0 : Nat) (v1 : Int64) (v3 : Int64) (m : xi_M) (h : E_X8_tell S v0 v1 v3 m = some res) : xi_X S (P_X8_tell S) (0, [some (.ref v0), some (.long v1), none, some (.long v3), none, none, none, none, none, none, none, none], [], m) res := by
  unfold E_X8_tell at h
  refine xr_lload_n i_X8_tell_0 rfl (q := 1) rfl ?_
  refine xr_lstore i_X8_tell_1 rfl (L2 := [some (.ref v0), some (.long v1), none, some (.long v3), none, some (.long v1), none, none, none, none, none, none]) rfl (q := 3) rfl ?_
  refine xr_lload_n i_X8_tell_3 rfl (q := 4) rfl ?_
  refine xr_lstore i_X8_tell_4 rfl (L2 := [some (.ref v0), some (.long v1), none, some (.long v3), none, some (.long v1), none, some (.long v3), none, none, none, none]) rfl (q := 6) rfl ?_
  refine xr_iconst i_X8_tell_6 (q := 7) rfl ?_
  refine xr_istore i_X8_tell_7 rfl (L2 := [some (.ref v0), some (.long v1), none, some (.long v3), none, some (.long v1), none, some (.long v3), none, some (.int (Int32.ofInt 0)), none, none]) rfl (q := 9) rfl ?_
  exact xi_X_le (xi_le_s (xi_le_s (xi_le_n (xi_le_s (xi_le_n (xi_le_s (xi_le_n (xi_le_s (xi_le_n (xi_le_s (xi_le_n (xi_le_n xi_le_z)))))))))))) (xs_X8_tell_9 10000 _ _ _ _ _ _ _ h)
set_option maxRecDepth 100000 in
theorem po_X8_tell {l : Launch} {E : xi_E} {S : xi_S} {D : va_G} {tys : List (ClassId × FieldType)} (hC : xCx E S tys) : xi_Pok l E S D vwCl tys xNs RX8 xTs cX8_tell 12 0 (P_X8_tell S) := ⟨xi_dc_ok, by rw [hC.2]; exact xfo_X8, xkio_X8, xklo_X8, xi_calls_ok (ins := .invokestatic) (fun _ h => absurd h List.not_mem_nil), xi_calls_ok (ins := .invokevirtual) (fun _ h => absurd h List.not_mem_nil)⟩
theorem sn_X8_tell {l : Launch} {E : xi_E} {S : xi_S} {D : va_G} {tys : List (ClassId × FieldType)} (hC : xCx E S tys) : ∀ As m1 r m2, F_X8_tell S As m1 = some (r, m2) → xi_Sound l E S D vwCl tys xNs xTs yX8_tell cX8_tell 12 none 0 As m1 r m2 := by
  intro As m1 r m2 h
  unfold F_X8_tell at h
  split at h
  · exact xi_meth (P := P_X8_tell S) (by decide) hC.1 (po_X8_tell hC) (Nat.le_of_ble_eq_true rfl) rfl (xe_X8_tell _ _ _ _ h)
  · exact xi_no h
theorem i_X8_coats_0 : xi_dc cX8_coats 0 = some (.aload_n 0, 1) := by decide +kernel
theorem i_X8_coats_1 : xi_dc cX8_coats 1 = some (.iload_n 1, 1) := by decide +kernel
theorem i_X8_coats_2 : xi_dc cX8_coats 2 = some (.iload_n 2, 1) := by decide +kernel
theorem i_X8_coats_3 : xi_dc cX8_coats 3 = some (.invokevirtual 242, 3) := by decide +kernel
theorem i_X8_coats_6 : xi_dc cX8_coats 6 = some (.istore_n 3, 1) := by decide +kernel
theorem i_X8_coats_7 : xi_dc cX8_coats 7 = some (.iload_n 3, 1) := by decide +kernel
theorem i_X8_coats_8 : xi_dc cX8_coats 8 = some (.ifCond .eq 5, 3) := by decide +kernel
theorem t_X8_coats_8 : ((8 : Nat) : Int) + 5 = ((13 : Nat) : Int) := by decide +kernel
theorem i_X8_coats_11 : xi_dc cX8_coats 11 = some (.iload_n 3, 1) := by decide +kernel
theorem i_X8_coats_12 : xi_dc cX8_coats 12 = some (.ireturn, 1) := by decide +kernel
theorem i_X8_coats_13 : xi_dc cX8_coats 13 = some (.aload_n 0, 1) := by decide +kernel
theorem i_X8_coats_14 : xi_dc cX8_coats 14 = some (.getfield 56, 3) := by decide +kernel
theorem i_X8_coats_17 : xi_dc cX8_coats 17 = some (.aload_n 0, 1) := by decide +kernel
theorem i_X8_coats_18 : xi_dc cX8_coats 18 = some (.getfield 21, 3) := by decide +kernel
theorem i_X8_coats_21 : xi_dc cX8_coats 21 = some (.iload_n 1, 1) := by decide +kernel
theorem i_X8_coats_22 : xi_dc cX8_coats 22 = some (.aload_n 0, 1) := by decide +kernel
theorem i_X8_coats_23 : xi_dc cX8_coats 23 = some (.getfield 11, 3) := by decide +kernel
theorem i_X8_coats_26 : xi_dc cX8_coats 26 = some (.iload_n 2, 1) := by decide +kernel
theorem i_X8_coats_27 : xi_dc cX8_coats 27 = some (.aaload, 1) := by decide +kernel
theorem i_X8_coats_28 : xi_dc cX8_coats 28 = some (.invokevirtual 245, 3) := by decide +kernel
theorem i_X8_coats_31 : xi_dc cX8_coats 31 = some (.aload_n 0, 1) := by decide +kernel
theorem i_X8_coats_32 : xi_dc cX8_coats 32 = some (.aload_n 0, 1) := by decide +kernel
theorem i_X8_coats_33 : xi_dc cX8_coats 33 = some (.getfield 56, 3) := by decide +kernel
theorem i_X8_coats_36 : xi_dc cX8_coats 36 = some (.getfield 248, 3) := by decide +kernel
theorem i_X8_coats_39 : xi_dc cX8_coats 39 = some (.i2l, 1) := by decide +kernel
theorem i_X8_coats_40 : xi_dc cX8_coats 40 = some (.lconst 1, 1) := by decide +kernel
theorem i_X8_coats_41 : xi_dc cX8_coats 41 = some (.invokevirtual 251, 3) := by decide +kernel
theorem i_X8_coats_44 : xi_dc cX8_coats 44 = some (.aload_n 0, 1) := by decide +kernel
theorem i_X8_coats_45 : xi_dc cX8_coats 45 = some (.aload_n 0, 1) := by decide +kernel
theorem i_X8_coats_46 : xi_dc cX8_coats 46 = some (.getfield 56, 3) := by decide +kernel
theorem i_X8_coats_49 : xi_dc cX8_coats 49 = some (.getfield 255, 3) := by decide +kernel
theorem i_X8_coats_52 : xi_dc cX8_coats 52 = some (.invokevirtual 89, 3) := by decide +kernel
theorem i_X8_coats_55 : xi_dc cX8_coats 55 = some (.ireturn, 1) := by decide +kernel
def P_X8_coats (S : xi_S) : xi_P := (xi_dc cX8_coats, xi_tab xfl_X8, xi_tab xki_X8, xi_tab xkl_X8, xi_tab xcs_X8, xi_tab xcv_X8, xi_calls [], xi_calls [(89, xi_wV S 10 1 (F_X8_answer S)), (242, xi_wV S 10 2 (F_X8_refusedGuess S)), (245, xi_wV S 6 3 (F_X3_weigh S)), (251, xi_wV S 10 2 (F_X8_tell S))], 1)
theorem cc_X8_coats_89 (S : xi_S) (a0 : Nat) (a1 : Int32) (m : xi_M) : (P_X8_coats S).2.2.2.2.2.2.2.1 89 [.ref a0, .int a1] m = (if S.1 a0 = 10 then E_X8_answer S a0 a1 m else none) := by
  show xi_calls [(89, xi_wV S 10 1 (F_X8_answer S)), (242, xi_wV S 10 2 (F_X8_refusedGuess S)), (245, xi_wV S 6 3 (F_X3_weigh S)), (251, xi_wV S 10 2 (F_X8_tell S))] 89 [.ref a0, .int a1] m = _
  refine Eq.trans (b := xi_wV S 10 1 (F_X8_answer S) [.ref a0, .int a1] m) (xi_calls_hit rfl) ?_
  exact xi_wV_eq rfl
theorem cc_X8_coats_242 (S : xi_S) (a0 : Nat) (a1 : Int32) (a2 : Int32) (m : xi_M) : (P_X8_coats S).2.2.2.2.2.2.2.1 242 [.ref a0, .int a1, .int a2] m = (if S.1 a0 = 10 then E_X8_refusedGuess S a0 a1 a2 m else none) := by
  show xi_calls [(89, xi_wV S 10 1 (F_X8_answer S)), (242, xi_wV S 10 2 (F_X8_refusedGuess S)), (245, xi_wV S 6 3 (F_X3_weigh S)), (251, xi_wV S 10 2 (F_X8_tell S))] 242 [.ref a0, .int a1, .int a2] m = _
  refine Eq.trans (b := xi_calls [(242, xi_wV S 10 2 (F_X8_refusedGuess S)), (245, xi_wV S 6 3 (F_X3_weigh S)), (251, xi_wV S 10 2 (F_X8_tell S))] 242 [.ref a0, .int a1, .int a2] m) (xi_calls_miss rfl) ?_
  refine Eq.trans (b := xi_wV S 10 2 (F_X8_refusedGuess S) [.ref a0, .int a1, .int a2] m) (xi_calls_hit rfl) ?_
  exact xi_wV_eq rfl
theorem cc_X8_coats_245 (S : xi_S) (a0 : Nat) (a1 : Nat) (a2 : Int32) (a3 : Nat) (m : xi_M) : (P_X8_coats S).2.2.2.2.2.2.2.1 245 [.ref a0, .ref a1, .int a2, .ref a3] m = (if S.1 a0 = 6 then E_X3_weigh S a0 a1 a2 a3 m else none) := by
  show xi_calls [(89, xi_wV S 10 1 (F_X8_answer S)), (242, xi_wV S 10 2 (F_X8_refusedGuess S)), (245, xi_wV S 6 3 (F_X3_weigh S)), (251, xi_wV S 10 2 (F_X8_tell S))] 245 [.ref a0, .ref a1, .int a2, .ref a3] m = _
  refine Eq.trans (b := xi_calls [(242, xi_wV S 10 2 (F_X8_refusedGuess S)), (245, xi_wV S 6 3 (F_X3_weigh S)), (251, xi_wV S 10 2 (F_X8_tell S))] 245 [.ref a0, .ref a1, .int a2, .ref a3] m) (xi_calls_miss rfl) ?_
  refine Eq.trans (b := xi_calls [(245, xi_wV S 6 3 (F_X3_weigh S)), (251, xi_wV S 10 2 (F_X8_tell S))] 245 [.ref a0, .ref a1, .int a2, .ref a3] m) (xi_calls_miss rfl) ?_
  refine Eq.trans (b := xi_wV S 6 3 (F_X3_weigh S) [.ref a0, .ref a1, .int a2, .ref a3] m) (xi_calls_hit rfl) ?_
  exact xi_wV_eq rfl
theorem cc_X8_coats_251 (S : xi_S) (a0 : Nat) (a1 : Int64) (a2 : Int64) (m : xi_M) : (P_X8_coats S).2.2.2.2.2.2.2.1 251 [.ref a0, .long a1, .long a2] m = (if S.1 a0 = 10 then E_X8_tell S a0 a1 a2 m else none) := by
  show xi_calls [(89, xi_wV S 10 1 (F_X8_answer S)), (242, xi_wV S 10 2 (F_X8_refusedGuess S)), (245, xi_wV S 6 3 (F_X3_weigh S)), (251, xi_wV S 10 2 (F_X8_tell S))] 251 [.ref a0, .long a1, .long a2] m = _
  refine Eq.trans (b := xi_calls [(242, xi_wV S 10 2 (F_X8_refusedGuess S)), (245, xi_wV S 6 3 (F_X3_weigh S)), (251, xi_wV S 10 2 (F_X8_tell S))] 251 [.ref a0, .long a1, .long a2] m) (xi_calls_miss rfl) ?_
  refine Eq.trans (b := xi_calls [(245, xi_wV S 6 3 (F_X3_weigh S)), (251, xi_wV S 10 2 (F_X8_tell S))] 251 [.ref a0, .long a1, .long a2] m) (xi_calls_miss rfl) ?_
  refine Eq.trans (b := xi_calls [(251, xi_wV S 10 2 (F_X8_tell S))] 251 [.ref a0, .long a1, .long a2] m) (xi_calls_miss rfl) ?_
  refine Eq.trans (b := xi_wV S 10 2 (F_X8_tell S) [.ref a0, .long a1, .long a2] m) (xi_calls_hit rfl) ?_
  exact xi_wV_eq rfl
def E_X8_coats (S : xi_S) (v0 : Nat) (v1 : Int32) (v2 : Int32) (m : xi_M) : Option xi_R :=
  xi_bI (if S.1 v0 = 10 then E_X8_refusedGuess S v0 v1 v2 m else none) fun x2 m1 =>
  if x2 = 0 then
    if S.1 v0 = 10 then (S.2.2 v0 8).bind fun b4 =>
      if S.1 v0 = 10 then (S.2.2 v0 2).bind fun b6 =>
        if S.1 v0 = 10 then (S.2.2 v0 0).bind fun b8 =>
          if (S.1 b8 = 1 ∨ S.1 b8 = 2) ∧ ¬ (v2 < 0 ∨ S.2.1 b8 ≤ Int32.toNatClampNeg v2) then (S.2.2 b8 (Int32.toNatClampNeg v2)).bind fun b10 =>
            xi_bV (if S.1 b4 = 6 then E_X3_weigh S b4 b6 v1 b10 m1 else none) fun m11 =>
            if S.1 v0 = 10 then (S.2.2 v0 8).bind fun b13 =>
              if S.1 b13 = 6 then
                xi_bV (if S.1 v0 = 10 then E_X8_tell S v0 (Int32.toInt64 (m11.1 b13 0)) (Int64.ofNat ((1 : Fin 2) : Nat)) m11 else none) fun m15 =>
                if S.1 v0 = 10 then (S.2.2 v0 8).bind fun b17 =>
                  if S.1 b17 = 6 then
                    xi_bI (if S.1 v0 = 10 then E_X8_answer S v0 (m15.1 b17 1) m15 else none) fun x20 m19 =>
                    some (some (.int x20), m19)
                  else none
                else none
              else none
            else none
          else none
        else none
      else none
    else none
  else
    some (some (.int x2), m1)
def F_X8_coats (S : xi_S) : xi_F := fun As m => match As with
  | [.ref v0, .int v1, .int v2] => E_X8_coats S v0 v1 v2 m
  | _ => none
set_option maxRecDepth 100000 in
set_option maxHeartbeats 4000000 in
theorem xe_X8_coats {S : xi_S} {res : xi_R} (v0 : Nat) (v1 : Int32) (v2 : Int32) (m : xi_M) (h : E_X8_coats S v0 v1 v2 m = some res) : xi_X S (P_X8_coats S) (0, [some (.ref v0), some (.int v1), some (.int v2), none], [], m) res := by
  unfold E_X8_coats at h
  refine xr_aload_n i_X8_coats_0 rfl (q := 1) rfl ?_
  refine xr_iload_n i_X8_coats_1 rfl (q := 2) rfl ?_
  refine xr_iload_n i_X8_coats_2 rfl (q := 3) rfl ?_
  obtain ⟨x2, m1, em1, h⟩ := xi_bI_some h
  refine xr_VI i_X8_coats_3 xcve_X8_242 rfl (As := [.ref v0, .int v1, .int v2]) rfl (rest := []) rfl ((cc_X8_coats_242 S _ _ _ _).trans em1) (q := 6) rfl ?_
  refine xr_istore_n i_X8_coats_6 rfl (L2 := [some (.ref v0), some (.int v1), some (.int v2), some (.int x2)]) rfl (q := 7) rfl ?_
  refine xr_iload_n i_X8_coats_7 rfl (q := 8) rfl ?_
  by_cases c21 : x2 = 0
  · replace h := (if_pos c21).symm.trans h
    refine xr_ifCond_eq_p i_X8_coats_8 c21 (q := 13) t_X8_coats_8 (q2 := 11) rfl ?_
    refine xr_aload_n i_X8_coats_13 rfl (q := 14) rfl ?_
    obtain ⟨c3, h⟩ := xi_if_some h
    obtain ⟨b4, eb4, h⟩ := xi_bind_some h
    refine xr_getR i_X8_coats_14 xfe_X8_56 c3 eb4 (q := 17) rfl ?_
    refine xr_aload_n i_X8_coats_17 rfl (q := 18) rfl ?_
    obtain ⟨c5, h⟩ := xi_if_some h
    obtain ⟨b6, eb6, h⟩ := xi_bind_some h
    refine xr_getR i_X8_coats_18 xfe_X8_21 c5 eb6 (q := 21) rfl ?_
    refine xr_iload_n i_X8_coats_21 rfl (q := 22) rfl ?_
    refine xr_aload_n i_X8_coats_22 rfl (q := 23) rfl ?_
    obtain ⟨c7, h⟩ := xi_if_some h
    obtain ⟨b8, eb8, h⟩ := xi_bind_some h
    refine xr_getR i_X8_coats_23 xfe_X8_11 c7 eb8 (q := 26) rfl ?_
    refine xr_iload_n i_X8_coats_26 rfl (q := 27) rfl ?_
    obtain ⟨c9, h⟩ := xi_if_some h
    obtain ⟨b10, eb10, h⟩ := xi_bind_some h
    refine xr_aaload i_X8_coats_27 c9 eb10 (q := 28) rfl ?_
    obtain ⟨m11, em11, h⟩ := xi_bV_some h
    refine xr_VV i_X8_coats_28 xcve_X8_245 rfl (As := [.ref b4, .ref b6, .int v1, .ref b10]) rfl (rest := []) rfl ((cc_X8_coats_245 S _ _ _ _ _).trans em11) (q := 31) rfl ?_
    refine xr_aload_n i_X8_coats_31 rfl (q := 32) rfl ?_
    refine xr_aload_n i_X8_coats_32 rfl (q := 33) rfl ?_
    obtain ⟨c12, h⟩ := xi_if_some h
    obtain ⟨b13, eb13, h⟩ := xi_bind_some h
    refine xr_getR i_X8_coats_33 xfe_X8_56 c12 eb13 (q := 36) rfl ?_
    obtain ⟨c14, h⟩ := xi_if_some h
    refine xr_getI i_X8_coats_36 xfe_X8_248 c14 (q := 39) rfl ?_
    refine xr_i2l i_X8_coats_39 (q := 40) rfl ?_
    refine xr_lconst i_X8_coats_40 (q := 41) rfl ?_
    obtain ⟨m15, em15, h⟩ := xi_bV_some h
    refine xr_VV i_X8_coats_41 xcve_X8_251 rfl (As := [.ref v0, .long (Int32.toInt64 (m11.1 b13 0)), .long (Int64.ofNat ((1 : Fin 2) : Nat))]) rfl (rest := []) rfl ((cc_X8_coats_251 S _ _ _ _).trans em15) (q := 44) rfl ?_
    refine xr_aload_n i_X8_coats_44 rfl (q := 45) rfl ?_
    refine xr_aload_n i_X8_coats_45 rfl (q := 46) rfl ?_
    obtain ⟨c16, h⟩ := xi_if_some h
    obtain ⟨b17, eb17, h⟩ := xi_bind_some h
    refine xr_getR i_X8_coats_46 xfe_X8_56 c16 eb17 (q := 49) rfl ?_
    obtain ⟨c18, h⟩ := xi_if_some h
    refine xr_getI i_X8_coats_49 xfe_X8_255 c18 (q := 52) rfl ?_
    obtain ⟨x20, m19, em19, h⟩ := xi_bI_some h
    refine xr_VI i_X8_coats_52 xcve_X8_89 rfl (As := [.ref v0, .int (m15.1 b17 1)]) rfl (rest := []) rfl ((cc_X8_coats_89 S _ _ _).trans em19) (q := 55) rfl ?_
    exact xr_ireturn i_X8_coats_55 rfl h
  · replace h := (if_neg c21).symm.trans h
    refine xr_ifCond_eq_n i_X8_coats_8 c21 (q := 13) t_X8_coats_8 (q2 := 11) rfl ?_
    refine xr_iload_n i_X8_coats_11 rfl (q := 12) rfl ?_
    exact xr_ireturn i_X8_coats_12 rfl h
set_option maxRecDepth 100000 in
theorem po_X8_coats {l : Launch} {E : xi_E} {S : xi_S} {D : va_G} {tys : List (ClassId × FieldType)} (hC : xCx E S tys) : xi_Pok l E S D vwCl tys xNs RX8 xTs cX8_coats 4 4 (P_X8_coats S) := ⟨xi_dc_ok, by rw [hC.2]; exact xfo_X8, xkio_X8, xklo_X8, xi_calls_ok (ins := .invokestatic) (fun _ h => absurd h List.not_mem_nil), xi_calls_ok (ins := .invokevirtual) (List.forall_mem_cons.mpr ⟨(xc_X8_89 hC.1 (sn_X8_answer hC) (by decide)), List.forall_mem_cons.mpr ⟨(xc_X8_242 hC.1 (sn_X8_refusedGuess hC) (by decide)), List.forall_mem_cons.mpr ⟨(xc_X8_245 hC.1 (sn_X3_weigh hC) (by decide)), List.forall_mem_cons.mpr ⟨(xc_X8_251 hC.1 (sn_X8_tell hC) (by decide)), fun _ h => absurd h List.not_mem_nil⟩⟩⟩⟩)⟩
theorem sn_X8_coats {l : Launch} {E : xi_E} {S : xi_S} {D : va_G} {tys : List (ClassId × FieldType)} (hC : xCx E S tys) : ∀ As m1 r m2, F_X8_coats S As m1 = some (r, m2) → xi_Sound l E S D vwCl tys xNs xTs yX8_coats cX8_coats 4 (some .int) 4 As m1 r m2 := by
  intro As m1 r m2 h
  unfold F_X8_coats at h
  split at h
  · exact xi_meth (P := P_X8_coats S) (by decide) hC.1 (po_X8_coats hC) (Nat.le_of_ble_eq_true rfl) rfl (xe_X8_coats _ _ _ _ h)
  · exact xi_no h
theorem i_X8_sure_0 : xi_dc cX8_sure 0 = some (.aload_n 0, 1) := by decide +kernel
theorem i_X8_sure_1 : xi_dc cX8_sure 1 = some (.iload_n 1, 1) := by decide +kernel
theorem i_X8_sure_2 : xi_dc cX8_sure 2 = some (.iload_n 2, 1) := by decide +kernel
theorem i_X8_sure_3 : xi_dc cX8_sure 3 = some (.invokevirtual 242, 3) := by decide +kernel
theorem i_X8_sure_6 : xi_dc cX8_sure 6 = some (.istore_n 3, 1) := by decide +kernel
theorem i_X8_sure_7 : xi_dc cX8_sure 7 = some (.iload_n 3, 1) := by decide +kernel
theorem i_X8_sure_8 : xi_dc cX8_sure 8 = some (.ifCond .eq 5, 3) := by decide +kernel
theorem t_X8_sure_8 : ((8 : Nat) : Int) + 5 = ((13 : Nat) : Int) := by decide +kernel
theorem i_X8_sure_11 : xi_dc cX8_sure 11 = some (.iload_n 3, 1) := by decide +kernel
theorem i_X8_sure_12 : xi_dc cX8_sure 12 = some (.ireturn, 1) := by decide +kernel
theorem i_X8_sure_13 : xi_dc cX8_sure 13 = some (.aload_n 0, 1) := by decide +kernel
theorem i_X8_sure_14 : xi_dc cX8_sure 14 = some (.getfield 56, 3) := by decide +kernel
theorem i_X8_sure_17 : xi_dc cX8_sure 17 = some (.aload_n 0, 1) := by decide +kernel
theorem i_X8_sure_18 : xi_dc cX8_sure 18 = some (.getfield 21, 3) := by decide +kernel
theorem i_X8_sure_21 : xi_dc cX8_sure 21 = some (.iload_n 1, 1) := by decide +kernel
theorem i_X8_sure_22 : xi_dc cX8_sure 22 = some (.aload_n 0, 1) := by decide +kernel
theorem i_X8_sure_23 : xi_dc cX8_sure 23 = some (.getfield 11, 3) := by decide +kernel
theorem i_X8_sure_26 : xi_dc cX8_sure 26 = some (.iload_n 2, 1) := by decide +kernel
theorem i_X8_sure_27 : xi_dc cX8_sure 27 = some (.aaload, 1) := by decide +kernel
theorem i_X8_sure_28 : xi_dc cX8_sure 28 = some (.invokevirtual 245, 3) := by decide +kernel
theorem i_X8_sure_31 : xi_dc cX8_sure 31 = some (.aload_n 0, 1) := by decide +kernel
theorem i_X8_sure_32 : xi_dc cX8_sure 32 = some (.aload_n 0, 1) := by decide +kernel
theorem i_X8_sure_33 : xi_dc cX8_sure 33 = some (.getfield 56, 3) := by decide +kernel
theorem i_X8_sure_36 : xi_dc cX8_sure 36 = some (.iconst 0, 1) := by decide +kernel
theorem i_X8_sure_37 : xi_dc cX8_sure 37 = some (.invokevirtual 258, 3) := by decide +kernel
theorem i_X8_sure_40 : xi_dc cX8_sure 40 = some (.invokevirtual 89, 3) := by decide +kernel
theorem i_X8_sure_43 : xi_dc cX8_sure 43 = some (.pop, 1) := by decide +kernel
theorem i_X8_sure_44 : xi_dc cX8_sure 44 = some (.aload_n 0, 1) := by decide +kernel
theorem i_X8_sure_45 : xi_dc cX8_sure 45 = some (.getfield 56, 3) := by decide +kernel
theorem i_X8_sure_48 : xi_dc cX8_sure 48 = some (.aload_n 0, 1) := by decide +kernel
theorem i_X8_sure_49 : xi_dc cX8_sure 49 = some (.getfield 56, 3) := by decide +kernel
theorem i_X8_sure_52 : xi_dc cX8_sure 52 = some (.getfield 248, 3) := by decide +kernel
theorem i_X8_sure_55 : xi_dc cX8_sure 55 = some (.invokevirtual 258, 3) := by decide +kernel
theorem i_X8_sure_58 : xi_dc cX8_sure 58 = some (.ireturn, 1) := by decide +kernel
def P_X8_sure (S : xi_S) : xi_P := (xi_dc cX8_sure, xi_tab xfl_X8, xi_tab xki_X8, xi_tab xkl_X8, xi_tab xcs_X8, xi_tab xcv_X8, xi_calls [], xi_calls [(89, xi_wV S 10 1 (F_X8_answer S)), (242, xi_wV S 10 2 (F_X8_refusedGuess S)), (245, xi_wV S 6 3 (F_X3_weigh S)), (258, xi_wV S 6 1 (F_X3_placesInWith S))], 1)
theorem cc_X8_sure_89 (S : xi_S) (a0 : Nat) (a1 : Int32) (m : xi_M) : (P_X8_sure S).2.2.2.2.2.2.2.1 89 [.ref a0, .int a1] m = (if S.1 a0 = 10 then E_X8_answer S a0 a1 m else none) := by
  show xi_calls [(89, xi_wV S 10 1 (F_X8_answer S)), (242, xi_wV S 10 2 (F_X8_refusedGuess S)), (245, xi_wV S 6 3 (F_X3_weigh S)), (258, xi_wV S 6 1 (F_X3_placesInWith S))] 89 [.ref a0, .int a1] m = _
  refine Eq.trans (b := xi_wV S 10 1 (F_X8_answer S) [.ref a0, .int a1] m) (xi_calls_hit rfl) ?_
  exact xi_wV_eq rfl
theorem cc_X8_sure_242 (S : xi_S) (a0 : Nat) (a1 : Int32) (a2 : Int32) (m : xi_M) : (P_X8_sure S).2.2.2.2.2.2.2.1 242 [.ref a0, .int a1, .int a2] m = (if S.1 a0 = 10 then E_X8_refusedGuess S a0 a1 a2 m else none) := by
  show xi_calls [(89, xi_wV S 10 1 (F_X8_answer S)), (242, xi_wV S 10 2 (F_X8_refusedGuess S)), (245, xi_wV S 6 3 (F_X3_weigh S)), (258, xi_wV S 6 1 (F_X3_placesInWith S))] 242 [.ref a0, .int a1, .int a2] m = _
  refine Eq.trans (b := xi_calls [(242, xi_wV S 10 2 (F_X8_refusedGuess S)), (245, xi_wV S 6 3 (F_X3_weigh S)), (258, xi_wV S 6 1 (F_X3_placesInWith S))] 242 [.ref a0, .int a1, .int a2] m) (xi_calls_miss rfl) ?_
  refine Eq.trans (b := xi_wV S 10 2 (F_X8_refusedGuess S) [.ref a0, .int a1, .int a2] m) (xi_calls_hit rfl) ?_
  exact xi_wV_eq rfl
theorem cc_X8_sure_245 (S : xi_S) (a0 : Nat) (a1 : Nat) (a2 : Int32) (a3 : Nat) (m : xi_M) : (P_X8_sure S).2.2.2.2.2.2.2.1 245 [.ref a0, .ref a1, .int a2, .ref a3] m = (if S.1 a0 = 6 then E_X3_weigh S a0 a1 a2 a3 m else none) := by
  show xi_calls [(89, xi_wV S 10 1 (F_X8_answer S)), (242, xi_wV S 10 2 (F_X8_refusedGuess S)), (245, xi_wV S 6 3 (F_X3_weigh S)), (258, xi_wV S 6 1 (F_X3_placesInWith S))] 245 [.ref a0, .ref a1, .int a2, .ref a3] m = _
  refine Eq.trans (b := xi_calls [(242, xi_wV S 10 2 (F_X8_refusedGuess S)), (245, xi_wV S 6 3 (F_X3_weigh S)), (258, xi_wV S 6 1 (F_X3_placesInWith S))] 245 [.ref a0, .ref a1, .int a2, .ref a3] m) (xi_calls_miss rfl) ?_
  refine Eq.trans (b := xi_calls [(245, xi_wV S 6 3 (F_X3_weigh S)), (258, xi_wV S 6 1 (F_X3_placesInWith S))] 245 [.ref a0, .ref a1, .int a2, .ref a3] m) (xi_calls_miss rfl) ?_
  refine Eq.trans (b := xi_wV S 6 3 (F_X3_weigh S) [.ref a0, .ref a1, .int a2, .ref a3] m) (xi_calls_hit rfl) ?_
  exact xi_wV_eq rfl
theorem cc_X8_sure_258 (S : xi_S) (a0 : Nat) (a1 : Int32) (m : xi_M) : (P_X8_sure S).2.2.2.2.2.2.2.1 258 [.ref a0, .int a1] m = (if S.1 a0 = 6 then E_X3_placesInWith S a0 a1 m else none) := by
  show xi_calls [(89, xi_wV S 10 1 (F_X8_answer S)), (242, xi_wV S 10 2 (F_X8_refusedGuess S)), (245, xi_wV S 6 3 (F_X3_weigh S)), (258, xi_wV S 6 1 (F_X3_placesInWith S))] 258 [.ref a0, .int a1] m = _
  refine Eq.trans (b := xi_calls [(242, xi_wV S 10 2 (F_X8_refusedGuess S)), (245, xi_wV S 6 3 (F_X3_weigh S)), (258, xi_wV S 6 1 (F_X3_placesInWith S))] 258 [.ref a0, .int a1] m) (xi_calls_miss rfl) ?_
  refine Eq.trans (b := xi_calls [(245, xi_wV S 6 3 (F_X3_weigh S)), (258, xi_wV S 6 1 (F_X3_placesInWith S))] 258 [.ref a0, .int a1] m) (xi_calls_miss rfl) ?_
  refine Eq.trans (b := xi_calls [(258, xi_wV S 6 1 (F_X3_placesInWith S))] 258 [.ref a0, .int a1] m) (xi_calls_miss rfl) ?_
  refine Eq.trans (b := xi_wV S 6 1 (F_X3_placesInWith S) [.ref a0, .int a1] m) (xi_calls_hit rfl) ?_
  exact xi_wV_eq rfl
def E_X8_sure (S : xi_S) (v0 : Nat) (v1 : Int32) (v2 : Int32) (m : xi_M) : Option xi_R :=
  xi_bI (if S.1 v0 = 10 then E_X8_refusedGuess S v0 v1 v2 m else none) fun x2 m1 =>
  if x2 = 0 then
    if S.1 v0 = 10 then (S.2.2 v0 8).bind fun b4 =>
      if S.1 v0 = 10 then (S.2.2 v0 2).bind fun b6 =>
        if S.1 v0 = 10 then (S.2.2 v0 0).bind fun b8 =>
          if (S.1 b8 = 1 ∨ S.1 b8 = 2) ∧ ¬ (v2 < 0 ∨ S.2.1 b8 ≤ Int32.toNatClampNeg v2) then (S.2.2 b8 (Int32.toNatClampNeg v2)).bind fun b10 =>
            xi_bV (if S.1 b4 = 6 then E_X3_weigh S b4 b6 v1 b10 m1 else none) fun m11 =>
            if S.1 v0 = 10 then (S.2.2 v0 8).bind fun b13 =>
              xi_bI (if S.1 b13 = 6 then E_X3_placesInWith S b13 (Int32.ofInt 0) m11 else none) fun x15 m14 =>
              xi_bI (if S.1 v0 = 10 then E_X8_answer S v0 x15 m14 else none) fun x17 m16 =>
              if S.1 v0 = 10 then (S.2.2 v0 8).bind fun b19 =>
                if S.1 v0 = 10 then (S.2.2 v0 8).bind fun b21 =>
                  if S.1 b21 = 6 then
                    xi_bI (if S.1 b19 = 6 then E_X3_placesInWith S b19 (m16.1 b21 0) m16 else none) fun x24 m23 =>
                    some (some (.int x24), m23)
                  else none
                else none
              else none
            else none
          else none
        else none
      else none
    else none
  else
    some (some (.int x2), m1)
def F_X8_sure (S : xi_S) : xi_F := fun As m => match As with
  | [.ref v0, .int v1, .int v2] => E_X8_sure S v0 v1 v2 m
  | _ => none
set_option maxRecDepth 100000 in
set_option maxHeartbeats 4000000 in
theorem xe_X8_sure {S : xi_S} {res : xi_R} (v0 : Nat) (v1 : Int32) (v2 : Int32) (m : xi_M) (h : E_X8_sure S v0 v1 v2 m = some res) : xi_X S (P_X8_sure S) (0, [some (.ref v0), some (.int v1), some (.int v2), none], [], m) res := by
  unfold E_X8_sure at h
  refine xr_aload_n i_X8_sure_0 rfl (q := 1) rfl ?_
  refine xr_iload_n i_X8_sure_1 rfl (q := 2) rfl ?_
  refine xr_iload_n i_X8_sure_2 rfl (q := 3) rfl ?_
  obtain ⟨x2, m1, em1, h⟩ := xi_bI_some h
  refine xr_VI i_X8_sure_3 xcve_X8_242 rfl (As := [.ref v0, .int v1, .int v2]) rfl (rest := []) rfl ((cc_X8_sure_242 S _ _ _ _).trans em1) (q := 6) rfl ?_
  refine xr_istore_n i_X8_sure_6 rfl (L2 := [some (.ref v0), some (.int v1), some (.int v2), some (.int x2)]) rfl (q := 7) rfl ?_
  refine xr_iload_n i_X8_sure_7 rfl (q := 8) rfl ?_
  by_cases c25 : x2 = 0
  · replace h := (if_pos c25).symm.trans h
    refine xr_ifCond_eq_p i_X8_sure_8 c25 (q := 13) t_X8_sure_8 (q2 := 11) rfl ?_
    refine xr_aload_n i_X8_sure_13 rfl (q := 14) rfl ?_
    obtain ⟨c3, h⟩ := xi_if_some h
    obtain ⟨b4, eb4, h⟩ := xi_bind_some h
    refine xr_getR i_X8_sure_14 xfe_X8_56 c3 eb4 (q := 17) rfl ?_
    refine xr_aload_n i_X8_sure_17 rfl (q := 18) rfl ?_
    obtain ⟨c5, h⟩ := xi_if_some h
    obtain ⟨b6, eb6, h⟩ := xi_bind_some h
    refine xr_getR i_X8_sure_18 xfe_X8_21 c5 eb6 (q := 21) rfl ?_
    refine xr_iload_n i_X8_sure_21 rfl (q := 22) rfl ?_
    refine xr_aload_n i_X8_sure_22 rfl (q := 23) rfl ?_
    obtain ⟨c7, h⟩ := xi_if_some h
    obtain ⟨b8, eb8, h⟩ := xi_bind_some h
    refine xr_getR i_X8_sure_23 xfe_X8_11 c7 eb8 (q := 26) rfl ?_
    refine xr_iload_n i_X8_sure_26 rfl (q := 27) rfl ?_
    obtain ⟨c9, h⟩ := xi_if_some h
    obtain ⟨b10, eb10, h⟩ := xi_bind_some h
    refine xr_aaload i_X8_sure_27 c9 eb10 (q := 28) rfl ?_
    obtain ⟨m11, em11, h⟩ := xi_bV_some h
    refine xr_VV i_X8_sure_28 xcve_X8_245 rfl (As := [.ref b4, .ref b6, .int v1, .ref b10]) rfl (rest := []) rfl ((cc_X8_sure_245 S _ _ _ _ _).trans em11) (q := 31) rfl ?_
    refine xr_aload_n i_X8_sure_31 rfl (q := 32) rfl ?_
    refine xr_aload_n i_X8_sure_32 rfl (q := 33) rfl ?_
    obtain ⟨c12, h⟩ := xi_if_some h
    obtain ⟨b13, eb13, h⟩ := xi_bind_some h
    refine xr_getR i_X8_sure_33 xfe_X8_56 c12 eb13 (q := 36) rfl ?_
    refine xr_iconst i_X8_sure_36 (q := 37) rfl ?_
    obtain ⟨x15, m14, em14, h⟩ := xi_bI_some h
    refine xr_VI i_X8_sure_37 xcve_X8_258 rfl (As := [.ref b13, .int (Int32.ofInt 0)]) rfl (rest := [.ref v0]) rfl ((cc_X8_sure_258 S _ _ _).trans em14) (q := 40) rfl ?_
    obtain ⟨x17, m16, em16, h⟩ := xi_bI_some h
    refine xr_VI i_X8_sure_40 xcve_X8_89 rfl (As := [.ref v0, .int x15]) rfl (rest := []) rfl ((cc_X8_sure_89 S _ _ _).trans em16) (q := 43) rfl ?_
    refine xr_pop i_X8_sure_43 (q := 44) rfl ?_
    refine xr_aload_n i_X8_sure_44 rfl (q := 45) rfl ?_
    obtain ⟨c18, h⟩ := xi_if_some h
    obtain ⟨b19, eb19, h⟩ := xi_bind_some h
    refine xr_getR i_X8_sure_45 xfe_X8_56 c18 eb19 (q := 48) rfl ?_
    refine xr_aload_n i_X8_sure_48 rfl (q := 49) rfl ?_
    obtain ⟨c20, h⟩ := xi_if_some h
    obtain ⟨b21, eb21, h⟩ := xi_bind_some h
    refine xr_getR i_X8_sure_49 xfe_X8_56 c20 eb21 (q := 52) rfl ?_
    obtain ⟨c22, h⟩ := xi_if_some h
    refine xr_getI i_X8_sure_52 xfe_X8_248 c22 (q := 55) rfl ?_
    obtain ⟨x24, m23, em23, h⟩ := xi_bI_some h
    refine xr_VI i_X8_sure_55 xcve_X8_258 rfl (As := [.ref b19, .int (m16.1 b21 0)]) rfl (rest := []) rfl ((cc_X8_sure_258 S _ _ _).trans em23) (q := 58) rfl ?_
    exact xr_ireturn i_X8_sure_58 rfl h
  · replace h := (if_neg c25).symm.trans h
    refine xr_ifCond_eq_n i_X8_sure_8 c25 (q := 13) t_X8_sure_8 (q2 := 11) rfl ?_
    refine xr_iload_n i_X8_sure_11 rfl (q := 12) rfl ?_
    exact xr_ireturn i_X8_sure_12 rfl h
set_option maxRecDepth 100000 in
theorem po_X8_sure {l : Launch} {E : xi_E} {S : xi_S} {D : va_G} {tys : List (ClassId × FieldType)} (hC : xCx E S tys) : xi_Pok l E S D vwCl tys xNs RX8 xTs cX8_sure 4 4 (P_X8_sure S) := ⟨xi_dc_ok, by rw [hC.2]; exact xfo_X8, xkio_X8, xklo_X8, xi_calls_ok (ins := .invokestatic) (fun _ h => absurd h List.not_mem_nil), xi_calls_ok (ins := .invokevirtual) (List.forall_mem_cons.mpr ⟨(xc_X8_89 hC.1 (sn_X8_answer hC) (by decide)), List.forall_mem_cons.mpr ⟨(xc_X8_242 hC.1 (sn_X8_refusedGuess hC) (by decide)), List.forall_mem_cons.mpr ⟨(xc_X8_245 hC.1 (sn_X3_weigh hC) (by decide)), List.forall_mem_cons.mpr ⟨(xc_X8_258 hC.1 (sn_X3_placesInWith hC) (by decide)), fun _ h => absurd h List.not_mem_nil⟩⟩⟩⟩)⟩
theorem sn_X8_sure {l : Launch} {E : xi_E} {S : xi_S} {D : va_G} {tys : List (ClassId × FieldType)} (hC : xCx E S tys) : ∀ As m1 r m2, F_X8_sure S As m1 = some (r, m2) → xi_Sound l E S D vwCl tys xNs xTs yX8_sure cX8_sure 4 (some .int) 4 As m1 r m2 := by
  intro As m1 r m2 h
  unfold F_X8_sure at h
  split at h
  · exact xi_meth (P := P_X8_sure S) (by decide) hC.1 (po_X8_sure hC) (Nat.le_of_ble_eq_true rfl) rfl (xe_X8_sure _ _ _ _ h)
  · exact xi_no h
theorem i_X8_next_0 : xi_dc cX8_next 0 = some (.aload_n 0, 1) := by decide +kernel
theorem i_X8_next_1 : xi_dc cX8_next 1 = some (.iload_n 1, 1) := by decide +kernel
theorem i_X8_next_2 : xi_dc cX8_next 2 = some (.iload_n 2, 1) := by decide +kernel
theorem i_X8_next_3 : xi_dc cX8_next 3 = some (.invokevirtual 242, 3) := by decide +kernel
theorem i_X8_next_6 : xi_dc cX8_next 6 = some (.istore_n 3, 1) := by decide +kernel
theorem i_X8_next_7 : xi_dc cX8_next 7 = some (.iload_n 3, 1) := by decide +kernel
theorem i_X8_next_8 : xi_dc cX8_next 8 = some (.ifCond .eq 5, 3) := by decide +kernel
theorem t_X8_next_8 : ((8 : Nat) : Int) + 5 = ((13 : Nat) : Int) := by decide +kernel
theorem i_X8_next_11 : xi_dc cX8_next 11 = some (.iload_n 3, 1) := by decide +kernel
theorem i_X8_next_12 : xi_dc cX8_next 12 = some (.ireturn, 1) := by decide +kernel
theorem i_X8_next_13 : xi_dc cX8_next 13 = some (.aload_n 0, 1) := by decide +kernel
theorem i_X8_next_14 : xi_dc cX8_next 14 = some (.getfield 56, 3) := by decide +kernel
theorem i_X8_next_17 : xi_dc cX8_next 17 = some (.aload_n 0, 1) := by decide +kernel
theorem i_X8_next_18 : xi_dc cX8_next 18 = some (.getfield 21, 3) := by decide +kernel
theorem i_X8_next_21 : xi_dc cX8_next 21 = some (.iload_n 1, 1) := by decide +kernel
theorem i_X8_next_22 : xi_dc cX8_next 22 = some (.aload_n 0, 1) := by decide +kernel
theorem i_X8_next_23 : xi_dc cX8_next 23 = some (.getfield 11, 3) := by decide +kernel
theorem i_X8_next_26 : xi_dc cX8_next 26 = some (.iload_n 2, 1) := by decide +kernel
theorem i_X8_next_27 : xi_dc cX8_next 27 = some (.aaload, 1) := by decide +kernel
theorem i_X8_next_28 : xi_dc cX8_next 28 = some (.invokevirtual 245, 3) := by decide +kernel
theorem i_X8_next_31 : xi_dc cX8_next 31 = some (.aload_n 0, 1) := by decide +kernel
theorem i_X8_next_32 : xi_dc cX8_next 32 = some (.getfield 56, 3) := by decide +kernel
theorem i_X8_next_35 : xi_dc cX8_next 35 = some (.getfield 248, 3) := by decide +kernel
theorem i_X8_next_38 : xi_dc cX8_next 38 = some (.ifCond .ne 6, 3) := by decide +kernel
theorem t_X8_next_38 : ((38 : Nat) : Int) + 6 = ((44 : Nat) : Int) := by decide +kernel
theorem i_X8_next_41 : xi_dc cX8_next 41 = some (.bipush (-9), 2) := by decide +kernel
theorem i_X8_next_43 : xi_dc cX8_next 43 = some (.ireturn, 1) := by decide +kernel
theorem i_X8_next_44 : xi_dc cX8_next 44 = some (.aload_n 0, 1) := by decide +kernel
theorem i_X8_next_45 : xi_dc cX8_next 45 = some (.getfield 56, 3) := by decide +kernel
theorem i_X8_next_48 : xi_dc cX8_next 48 = some (.invokevirtual 261, 3) := by decide +kernel
theorem i_X8_next_51 : xi_dc cX8_next 51 = some (.istore 4, 2) := by decide +kernel
theorem i_X8_next_53 : xi_dc cX8_next 53 = some (.aload_n 0, 1) := by decide +kernel
theorem i_X8_next_54 : xi_dc cX8_next 54 = some (.aload_n 0, 1) := by decide +kernel
theorem i_X8_next_55 : xi_dc cX8_next 55 = some (.getfield 56, 3) := by decide +kernel
theorem i_X8_next_58 : xi_dc cX8_next 58 = some (.iload 4, 2) := by decide +kernel
theorem i_X8_next_60 : xi_dc cX8_next 60 = some (.invokevirtual 265, 3) := by decide +kernel
theorem i_X8_next_63 : xi_dc cX8_next 63 = some (.invokevirtual 89, 3) := by decide +kernel
theorem i_X8_next_66 : xi_dc cX8_next 66 = some (.pop, 1) := by decide +kernel
theorem i_X8_next_67 : xi_dc cX8_next 67 = some (.iload 4, 2) := by decide +kernel
theorem i_X8_next_69 : xi_dc cX8_next 69 = some (.ireturn, 1) := by decide +kernel
def P_X8_next (S : xi_S) : xi_P := (xi_dc cX8_next, xi_tab xfl_X8, xi_tab xki_X8, xi_tab xkl_X8, xi_tab xcs_X8, xi_tab xcv_X8, xi_calls [], xi_calls [(89, xi_wV S 10 1 (F_X8_answer S)), (242, xi_wV S 10 2 (F_X8_refusedGuess S)), (245, xi_wV S 6 3 (F_X3_weigh S)), (261, xi_wV S 6 0 (F_X3_tellingPlace S)), (265, xi_wV S 6 1 (F_X3_greaterPart S))], 1)
theorem cc_X8_next_89 (S : xi_S) (a0 : Nat) (a1 : Int32) (m : xi_M) : (P_X8_next S).2.2.2.2.2.2.2.1 89 [.ref a0, .int a1] m = (if S.1 a0 = 10 then E_X8_answer S a0 a1 m else none) := by
  show xi_calls [(89, xi_wV S 10 1 (F_X8_answer S)), (242, xi_wV S 10 2 (F_X8_refusedGuess S)), (245, xi_wV S 6 3 (F_X3_weigh S)), (261, xi_wV S 6 0 (F_X3_tellingPlace S)), (265, xi_wV S 6 1 (F_X3_greaterPart S))] 89 [.ref a0, .int a1] m = _
  refine Eq.trans (b := xi_wV S 10 1 (F_X8_answer S) [.ref a0, .int a1] m) (xi_calls_hit rfl) ?_
  exact xi_wV_eq rfl
theorem cc_X8_next_242 (S : xi_S) (a0 : Nat) (a1 : Int32) (a2 : Int32) (m : xi_M) : (P_X8_next S).2.2.2.2.2.2.2.1 242 [.ref a0, .int a1, .int a2] m = (if S.1 a0 = 10 then E_X8_refusedGuess S a0 a1 a2 m else none) := by
  show xi_calls [(89, xi_wV S 10 1 (F_X8_answer S)), (242, xi_wV S 10 2 (F_X8_refusedGuess S)), (245, xi_wV S 6 3 (F_X3_weigh S)), (261, xi_wV S 6 0 (F_X3_tellingPlace S)), (265, xi_wV S 6 1 (F_X3_greaterPart S))] 242 [.ref a0, .int a1, .int a2] m = _
  refine Eq.trans (b := xi_calls [(242, xi_wV S 10 2 (F_X8_refusedGuess S)), (245, xi_wV S 6 3 (F_X3_weigh S)), (261, xi_wV S 6 0 (F_X3_tellingPlace S)), (265, xi_wV S 6 1 (F_X3_greaterPart S))] 242 [.ref a0, .int a1, .int a2] m) (xi_calls_miss rfl) ?_
  refine Eq.trans (b := xi_wV S 10 2 (F_X8_refusedGuess S) [.ref a0, .int a1, .int a2] m) (xi_calls_hit rfl) ?_
  exact xi_wV_eq rfl
theorem cc_X8_next_245 (S : xi_S) (a0 : Nat) (a1 : Nat) (a2 : Int32) (a3 : Nat) (m : xi_M) : (P_X8_next S).2.2.2.2.2.2.2.1 245 [.ref a0, .ref a1, .int a2, .ref a3] m = (if S.1 a0 = 6 then E_X3_weigh S a0 a1 a2 a3 m else none) := by
  show xi_calls [(89, xi_wV S 10 1 (F_X8_answer S)), (242, xi_wV S 10 2 (F_X8_refusedGuess S)), (245, xi_wV S 6 3 (F_X3_weigh S)), (261, xi_wV S 6 0 (F_X3_tellingPlace S)), (265, xi_wV S 6 1 (F_X3_greaterPart S))] 245 [.ref a0, .ref a1, .int a2, .ref a3] m = _
  refine Eq.trans (b := xi_calls [(242, xi_wV S 10 2 (F_X8_refusedGuess S)), (245, xi_wV S 6 3 (F_X3_weigh S)), (261, xi_wV S 6 0 (F_X3_tellingPlace S)), (265, xi_wV S 6 1 (F_X3_greaterPart S))] 245 [.ref a0, .ref a1, .int a2, .ref a3] m) (xi_calls_miss rfl) ?_
  refine Eq.trans (b := xi_calls [(245, xi_wV S 6 3 (F_X3_weigh S)), (261, xi_wV S 6 0 (F_X3_tellingPlace S)), (265, xi_wV S 6 1 (F_X3_greaterPart S))] 245 [.ref a0, .ref a1, .int a2, .ref a3] m) (xi_calls_miss rfl) ?_
  refine Eq.trans (b := xi_wV S 6 3 (F_X3_weigh S) [.ref a0, .ref a1, .int a2, .ref a3] m) (xi_calls_hit rfl) ?_
  exact xi_wV_eq rfl
theorem cc_X8_next_261 (S : xi_S) (a0 : Nat) (m : xi_M) : (P_X8_next S).2.2.2.2.2.2.2.1 261 [.ref a0] m = (if S.1 a0 = 6 then E_X3_tellingPlace S a0 m else none) := by
  show xi_calls [(89, xi_wV S 10 1 (F_X8_answer S)), (242, xi_wV S 10 2 (F_X8_refusedGuess S)), (245, xi_wV S 6 3 (F_X3_weigh S)), (261, xi_wV S 6 0 (F_X3_tellingPlace S)), (265, xi_wV S 6 1 (F_X3_greaterPart S))] 261 [.ref a0] m = _
  refine Eq.trans (b := xi_calls [(242, xi_wV S 10 2 (F_X8_refusedGuess S)), (245, xi_wV S 6 3 (F_X3_weigh S)), (261, xi_wV S 6 0 (F_X3_tellingPlace S)), (265, xi_wV S 6 1 (F_X3_greaterPart S))] 261 [.ref a0] m) (xi_calls_miss rfl) ?_
  refine Eq.trans (b := xi_calls [(245, xi_wV S 6 3 (F_X3_weigh S)), (261, xi_wV S 6 0 (F_X3_tellingPlace S)), (265, xi_wV S 6 1 (F_X3_greaterPart S))] 261 [.ref a0] m) (xi_calls_miss rfl) ?_
  refine Eq.trans (b := xi_calls [(261, xi_wV S 6 0 (F_X3_tellingPlace S)), (265, xi_wV S 6 1 (F_X3_greaterPart S))] 261 [.ref a0] m) (xi_calls_miss rfl) ?_
  refine Eq.trans (b := xi_wV S 6 0 (F_X3_tellingPlace S) [.ref a0] m) (xi_calls_hit rfl) ?_
  exact xi_wV_eq rfl
theorem cc_X8_next_265 (S : xi_S) (a0 : Nat) (a1 : Int32) (m : xi_M) : (P_X8_next S).2.2.2.2.2.2.2.1 265 [.ref a0, .int a1] m = (if S.1 a0 = 6 then E_X3_greaterPart S a0 a1 m else none) := by
  show xi_calls [(89, xi_wV S 10 1 (F_X8_answer S)), (242, xi_wV S 10 2 (F_X8_refusedGuess S)), (245, xi_wV S 6 3 (F_X3_weigh S)), (261, xi_wV S 6 0 (F_X3_tellingPlace S)), (265, xi_wV S 6 1 (F_X3_greaterPart S))] 265 [.ref a0, .int a1] m = _
  refine Eq.trans (b := xi_calls [(242, xi_wV S 10 2 (F_X8_refusedGuess S)), (245, xi_wV S 6 3 (F_X3_weigh S)), (261, xi_wV S 6 0 (F_X3_tellingPlace S)), (265, xi_wV S 6 1 (F_X3_greaterPart S))] 265 [.ref a0, .int a1] m) (xi_calls_miss rfl) ?_
  refine Eq.trans (b := xi_calls [(245, xi_wV S 6 3 (F_X3_weigh S)), (261, xi_wV S 6 0 (F_X3_tellingPlace S)), (265, xi_wV S 6 1 (F_X3_greaterPart S))] 265 [.ref a0, .int a1] m) (xi_calls_miss rfl) ?_
  refine Eq.trans (b := xi_calls [(261, xi_wV S 6 0 (F_X3_tellingPlace S)), (265, xi_wV S 6 1 (F_X3_greaterPart S))] 265 [.ref a0, .int a1] m) (xi_calls_miss rfl) ?_
  refine Eq.trans (b := xi_calls [(265, xi_wV S 6 1 (F_X3_greaterPart S))] 265 [.ref a0, .int a1] m) (xi_calls_miss rfl) ?_
  refine Eq.trans (b := xi_wV S 6 1 (F_X3_greaterPart S) [.ref a0, .int a1] m) (xi_calls_hit rfl) ?_
  exact xi_wV_eq rfl
def E_X8_next (S : xi_S) (v0 : Nat) (v1 : Int32) (v2 : Int32) (m : xi_M) : Option xi_R :=
  xi_bI (if S.1 v0 = 10 then E_X8_refusedGuess S v0 v1 v2 m else none) fun x2 m1 =>
  if x2 = 0 then
    if S.1 v0 = 10 then (S.2.2 v0 8).bind fun b4 =>
      if S.1 v0 = 10 then (S.2.2 v0 2).bind fun b6 =>
        if S.1 v0 = 10 then (S.2.2 v0 0).bind fun b8 =>
          if (S.1 b8 = 1 ∨ S.1 b8 = 2) ∧ ¬ (v2 < 0 ∨ S.2.1 b8 ≤ Int32.toNatClampNeg v2) then (S.2.2 b8 (Int32.toNatClampNeg v2)).bind fun b10 =>
            xi_bV (if S.1 b4 = 6 then E_X3_weigh S b4 b6 v1 b10 m1 else none) fun m11 =>
            if S.1 v0 = 10 then (S.2.2 v0 8).bind fun b13 =>
              if S.1 b13 = 6 then
                if (m11.1 b13 0) = 0 then
                  some (some (.int ((Int8.ofInt (-9)).toInt32)), m11)
                else
                  if S.1 v0 = 10 then (S.2.2 v0 8).bind fun b16 =>
                    xi_bI (if S.1 b16 = 6 then E_X3_tellingPlace S b16 m11 else none) fun x18 m17 =>
                    if S.1 v0 = 10 then (S.2.2 v0 8).bind fun b20 =>
                      xi_bI (if S.1 b20 = 6 then E_X3_greaterPart S b20 x18 m17 else none) fun x22 m21 =>
                      xi_bI (if S.1 v0 = 10 then E_X8_answer S v0 x22 m21 else none) fun x24 m23 =>
                      some (some (.int x18), m23)
                    else none
                  else none
              else none
            else none
          else none
        else none
      else none
    else none
  else
    some (some (.int x2), m1)
def F_X8_next (S : xi_S) : xi_F := fun As m => match As with
  | [.ref v0, .int v1, .int v2] => E_X8_next S v0 v1 v2 m
  | _ => none
set_option maxRecDepth 100000 in
set_option maxHeartbeats 4000000 in
theorem xe_X8_next {S : xi_S} {res : xi_R} (v0 : Nat) (v1 : Int32) (v2 : Int32) (m : xi_M) (h : E_X8_next S v0 v1 v2 m = some res) : xi_X S (P_X8_next S) (0, [some (.ref v0), some (.int v1), some (.int v2), none, none], [], m) res := by
  unfold E_X8_next at h
  refine xr_aload_n i_X8_next_0 rfl (q := 1) rfl ?_
  refine xr_iload_n i_X8_next_1 rfl (q := 2) rfl ?_
  refine xr_iload_n i_X8_next_2 rfl (q := 3) rfl ?_
  obtain ⟨x2, m1, em1, h⟩ := xi_bI_some h
  refine xr_VI i_X8_next_3 xcve_X8_242 rfl (As := [.ref v0, .int v1, .int v2]) rfl (rest := []) rfl ((cc_X8_next_242 S _ _ _ _).trans em1) (q := 6) rfl ?_
  refine xr_istore_n i_X8_next_6 rfl (L2 := [some (.ref v0), some (.int v1), some (.int v2), some (.int x2), none]) rfl (q := 7) rfl ?_
  refine xr_iload_n i_X8_next_7 rfl (q := 8) rfl ?_
  by_cases c26 : x2 = 0
  · replace h := (if_pos c26).symm.trans h
    refine xr_ifCond_eq_p i_X8_next_8 c26 (q := 13) t_X8_next_8 (q2 := 11) rfl ?_
    refine xr_aload_n i_X8_next_13 rfl (q := 14) rfl ?_
    obtain ⟨c3, h⟩ := xi_if_some h
    obtain ⟨b4, eb4, h⟩ := xi_bind_some h
    refine xr_getR i_X8_next_14 xfe_X8_56 c3 eb4 (q := 17) rfl ?_
    refine xr_aload_n i_X8_next_17 rfl (q := 18) rfl ?_
    obtain ⟨c5, h⟩ := xi_if_some h
    obtain ⟨b6, eb6, h⟩ := xi_bind_some h
    refine xr_getR i_X8_next_18 xfe_X8_21 c5 eb6 (q := 21) rfl ?_
    refine xr_iload_n i_X8_next_21 rfl (q := 22) rfl ?_
    refine xr_aload_n i_X8_next_22 rfl (q := 23) rfl ?_
    obtain ⟨c7, h⟩ := xi_if_some h
    obtain ⟨b8, eb8, h⟩ := xi_bind_some h
    refine xr_getR i_X8_next_23 xfe_X8_11 c7 eb8 (q := 26) rfl ?_
    refine xr_iload_n i_X8_next_26 rfl (q := 27) rfl ?_
    obtain ⟨c9, h⟩ := xi_if_some h
    obtain ⟨b10, eb10, h⟩ := xi_bind_some h
    refine xr_aaload i_X8_next_27 c9 eb10 (q := 28) rfl ?_
    obtain ⟨m11, em11, h⟩ := xi_bV_some h
    refine xr_VV i_X8_next_28 xcve_X8_245 rfl (As := [.ref b4, .ref b6, .int v1, .ref b10]) rfl (rest := []) rfl ((cc_X8_next_245 S _ _ _ _ _).trans em11) (q := 31) rfl ?_
    refine xr_aload_n i_X8_next_31 rfl (q := 32) rfl ?_
    obtain ⟨c12, h⟩ := xi_if_some h
    obtain ⟨b13, eb13, h⟩ := xi_bind_some h
    refine xr_getR i_X8_next_32 xfe_X8_56 c12 eb13 (q := 35) rfl ?_
    obtain ⟨c14, h⟩ := xi_if_some h
    refine xr_getI i_X8_next_35 xfe_X8_248 c14 (q := 38) rfl ?_
    by_cases c25 : (m11.1 b13 0) = 0
    · replace h := (if_pos c25).symm.trans h
      refine xr_ifCond_ne_p i_X8_next_38 c25 (q := 44) t_X8_next_38 (q2 := 41) rfl ?_
      refine xr_bipush i_X8_next_41 (q := 43) rfl ?_
      exact xr_ireturn i_X8_next_43 rfl h
    · replace h := (if_neg c25).symm.trans h
      refine xr_ifCond_ne_n i_X8_next_38 c25 (q := 44) t_X8_next_38 (q2 := 41) rfl ?_
      refine xr_aload_n i_X8_next_44 rfl (q := 45) rfl ?_
      obtain ⟨c15, h⟩ := xi_if_some h
      obtain ⟨b16, eb16, h⟩ := xi_bind_some h
      refine xr_getR i_X8_next_45 xfe_X8_56 c15 eb16 (q := 48) rfl ?_
      obtain ⟨x18, m17, em17, h⟩ := xi_bI_some h
      refine xr_VI i_X8_next_48 xcve_X8_261 rfl (As := [.ref b16]) rfl (rest := []) rfl ((cc_X8_next_261 S _ _).trans em17) (q := 51) rfl ?_
      refine xr_istore i_X8_next_51 rfl (L2 := [some (.ref v0), some (.int v1), some (.int v2), some (.int x2), some (.int x18)]) rfl (q := 53) rfl ?_
      refine xr_aload_n i_X8_next_53 rfl (q := 54) rfl ?_
      refine xr_aload_n i_X8_next_54 rfl (q := 55) rfl ?_
      obtain ⟨c19, h⟩ := xi_if_some h
      obtain ⟨b20, eb20, h⟩ := xi_bind_some h
      refine xr_getR i_X8_next_55 xfe_X8_56 c19 eb20 (q := 58) rfl ?_
      refine xr_iload i_X8_next_58 rfl (q := 60) rfl ?_
      obtain ⟨x22, m21, em21, h⟩ := xi_bI_some h
      refine xr_VI i_X8_next_60 xcve_X8_265 rfl (As := [.ref b20, .int x18]) rfl (rest := [.ref v0]) rfl ((cc_X8_next_265 S _ _ _).trans em21) (q := 63) rfl ?_
      obtain ⟨x24, m23, em23, h⟩ := xi_bI_some h
      refine xr_VI i_X8_next_63 xcve_X8_89 rfl (As := [.ref v0, .int x22]) rfl (rest := []) rfl ((cc_X8_next_89 S _ _ _).trans em23) (q := 66) rfl ?_
      refine xr_pop i_X8_next_66 (q := 67) rfl ?_
      refine xr_iload i_X8_next_67 rfl (q := 69) rfl ?_
      exact xr_ireturn i_X8_next_69 rfl h
  · replace h := (if_neg c26).symm.trans h
    refine xr_ifCond_eq_n i_X8_next_8 c26 (q := 13) t_X8_next_8 (q2 := 11) rfl ?_
    refine xr_iload_n i_X8_next_11 rfl (q := 12) rfl ?_
    exact xr_ireturn i_X8_next_12 rfl h
set_option maxRecDepth 100000 in
theorem po_X8_next {l : Launch} {E : xi_E} {S : xi_S} {D : va_G} {tys : List (ClassId × FieldType)} (hC : xCx E S tys) : xi_Pok l E S D vwCl tys xNs RX8 xTs cX8_next 5 4 (P_X8_next S) := ⟨xi_dc_ok, by rw [hC.2]; exact xfo_X8, xkio_X8, xklo_X8, xi_calls_ok (ins := .invokestatic) (fun _ h => absurd h List.not_mem_nil), xi_calls_ok (ins := .invokevirtual) (List.forall_mem_cons.mpr ⟨(xc_X8_89 hC.1 (sn_X8_answer hC) (by decide)), List.forall_mem_cons.mpr ⟨(xc_X8_242 hC.1 (sn_X8_refusedGuess hC) (by decide)), List.forall_mem_cons.mpr ⟨(xc_X8_245 hC.1 (sn_X3_weigh hC) (by decide)), List.forall_mem_cons.mpr ⟨(xc_X8_261 hC.1 (sn_X3_tellingPlace hC) (by decide)), List.forall_mem_cons.mpr ⟨(xc_X8_265 hC.1 (sn_X3_greaterPart hC) (by decide)), fun _ h => absurd h List.not_mem_nil⟩⟩⟩⟩⟩)⟩
theorem sn_X8_next {l : Launch} {E : xi_E} {S : xi_S} {D : va_G} {tys : List (ClassId × FieldType)} (hC : xCx E S tys) : ∀ As m1 r m2, F_X8_next S As m1 = some (r, m2) → xi_Sound l E S D vwCl tys xNs xTs yX8_next cX8_next 5 (some .int) 4 As m1 r m2 := by
  intro As m1 r m2 h
  unfold F_X8_next at h
  split at h
  · exact xi_meth (P := P_X8_next S) (by decide) hC.1 (po_X8_next hC) (Nat.le_of_ble_eq_true rfl) rfl (xe_X8_next _ _ _ _ h)
  · exact xi_no h
theorem i_X8_refusedTrace_0 : xi_dc cX8_refusedTrace 0 = some (.aload_n 0, 1) := by decide +kernel
theorem i_X8_refusedTrace_1 : xi_dc cX8_refusedTrace 1 = some (.getfield 21, 3) := by decide +kernel
theorem i_X8_refusedTrace_4 : xi_dc cX8_refusedTrace 4 = some (.iload_n 1, 1) := by decide +kernel
theorem i_X8_refusedTrace_5 : xi_dc cX8_refusedTrace 5 = some (.invokevirtual 132, 3) := by decide +kernel
theorem i_X8_refusedTrace_8 : xi_dc cX8_refusedTrace 8 = some (.ifCond .eq 11, 3) := by decide +kernel
theorem t_X8_refusedTrace_8 : ((8 : Nat) : Int) + 11 = ((19 : Nat) : Int) := by decide +kernel
theorem i_X8_refusedTrace_11 : xi_dc cX8_refusedTrace 11 = some (.iload_n 2, 1) := by decide +kernel
theorem i_X8_refusedTrace_12 : xi_dc cX8_refusedTrace 12 = some (.iconst 5, 1) := by decide +kernel
theorem i_X8_refusedTrace_13 : xi_dc cX8_refusedTrace 13 = some (.invokestatic 71, 3) := by decide +kernel
theorem i_X8_refusedTrace_16 : xi_dc cX8_refusedTrace 16 = some (.ifCond .ne 5, 3) := by decide +kernel
theorem t_X8_refusedTrace_16 : ((16 : Nat) : Int) + 5 = ((21 : Nat) : Int) := by decide +kernel
theorem i_X8_refusedTrace_19 : xi_dc cX8_refusedTrace 19 = some (.iconst (-1), 1) := by decide +kernel
theorem i_X8_refusedTrace_20 : xi_dc cX8_refusedTrace 20 = some (.ireturn, 1) := by decide +kernel
theorem i_X8_refusedTrace_21 : xi_dc cX8_refusedTrace 21 = some (.aload_n 0, 1) := by decide +kernel
theorem i_X8_refusedTrace_22 : xi_dc cX8_refusedTrace 22 = some (.getfield 11, 3) := by decide +kernel
theorem i_X8_refusedTrace_25 : xi_dc cX8_refusedTrace 25 = some (.iload_n 2, 1) := by decide +kernel
theorem i_X8_refusedTrace_26 : xi_dc cX8_refusedTrace 26 = some (.aaload, 1) := by decide +kernel
theorem i_X8_refusedTrace_27 : xi_dc cX8_refusedTrace 27 = some (.iconst 1, 1) := by decide +kernel
theorem i_X8_refusedTrace_28 : xi_dc cX8_refusedTrace 28 = some (.bipush 20, 2) := by decide +kernel
theorem i_X8_refusedTrace_30 : xi_dc cX8_refusedTrace 30 = some (.invokevirtual 331, 3) := by decide +kernel
theorem i_X8_refusedTrace_33 : xi_dc cX8_refusedTrace 33 = some (.istore_n 3, 1) := by decide +kernel
theorem i_X8_refusedTrace_34 : xi_dc cX8_refusedTrace 34 = some (.iload_n 3, 1) := by decide +kernel
theorem i_X8_refusedTrace_35 : xi_dc cX8_refusedTrace 35 = some (.ifCond .ne 7, 3) := by decide +kernel
theorem t_X8_refusedTrace_35 : ((35 : Nat) : Int) + 7 = ((42 : Nat) : Int) := by decide +kernel
theorem i_X8_refusedTrace_38 : xi_dc cX8_refusedTrace 38 = some (.iconst 0, 1) := by decide +kernel
theorem i_X8_refusedTrace_39 : xi_dc cX8_refusedTrace 39 = some (.goto 8, 3) := by decide +kernel
theorem t_X8_refusedTrace_39 : ((39 : Nat) : Int) + 8 = ((47 : Nat) : Int) := by decide +kernel
theorem i_X8_refusedTrace_42 : xi_dc cX8_refusedTrace 42 = some (.aload_n 0, 1) := by decide +kernel
theorem i_X8_refusedTrace_43 : xi_dc cX8_refusedTrace 43 = some (.iload_n 3, 1) := by decide +kernel
theorem i_X8_refusedTrace_44 : xi_dc cX8_refusedTrace 44 = some (.invokevirtual 83, 3) := by decide +kernel
theorem i_X8_refusedTrace_47 : xi_dc cX8_refusedTrace 47 = some (.ireturn, 1) := by decide +kernel
def P_X8_refusedTrace (S : xi_S) : xi_P := (xi_dc cX8_refusedTrace, xi_tab xfl_X8, xi_tab xki_X8, xi_tab xkl_X8, xi_tab xcs_X8, xi_tab xcv_X8, xi_calls [(71, xi_wS 2 (F_X8_within S))], xi_calls [(83, xi_wV S 10 1 (F_X8_refuse S)), (132, xi_wV S 8 1 (F_X6_hasPlayer S)), (331, xi_wV S 9 2 (F_X7_findingOfPairs S))], 1)
theorem cc_X8_refusedTrace_71 (S : xi_S) (a0 : Int32) (a1 : Int32) (m : xi_M) : (P_X8_refusedTrace S).2.2.2.2.2.2.1 71 [.int a0, .int a1] m = (E_X8_within S a0 a1 m) := by
  show xi_calls [(71, xi_wS 2 (F_X8_within S))] 71 [.int a0, .int a1] m = _
  refine Eq.trans (b := xi_wS 2 (F_X8_within S) [.int a0, .int a1] m) (xi_calls_hit rfl) ?_
  exact xi_wS_eq rfl
theorem cc_X8_refusedTrace_83 (S : xi_S) (a0 : Nat) (a1 : Int32) (m : xi_M) : (P_X8_refusedTrace S).2.2.2.2.2.2.2.1 83 [.ref a0, .int a1] m = (if S.1 a0 = 10 then E_X8_refuse S a0 a1 m else none) := by
  show xi_calls [(83, xi_wV S 10 1 (F_X8_refuse S)), (132, xi_wV S 8 1 (F_X6_hasPlayer S)), (331, xi_wV S 9 2 (F_X7_findingOfPairs S))] 83 [.ref a0, .int a1] m = _
  refine Eq.trans (b := xi_wV S 10 1 (F_X8_refuse S) [.ref a0, .int a1] m) (xi_calls_hit rfl) ?_
  exact xi_wV_eq rfl
theorem cc_X8_refusedTrace_132 (S : xi_S) (a0 : Nat) (a1 : Int32) (m : xi_M) : (P_X8_refusedTrace S).2.2.2.2.2.2.2.1 132 [.ref a0, .int a1] m = (if S.1 a0 = 8 then E_X6_hasPlayer S a0 a1 m else none) := by
  show xi_calls [(83, xi_wV S 10 1 (F_X8_refuse S)), (132, xi_wV S 8 1 (F_X6_hasPlayer S)), (331, xi_wV S 9 2 (F_X7_findingOfPairs S))] 132 [.ref a0, .int a1] m = _
  refine Eq.trans (b := xi_calls [(132, xi_wV S 8 1 (F_X6_hasPlayer S)), (331, xi_wV S 9 2 (F_X7_findingOfPairs S))] 132 [.ref a0, .int a1] m) (xi_calls_miss rfl) ?_
  refine Eq.trans (b := xi_wV S 8 1 (F_X6_hasPlayer S) [.ref a0, .int a1] m) (xi_calls_hit rfl) ?_
  exact xi_wV_eq rfl
theorem cc_X8_refusedTrace_331 (S : xi_S) (a0 : Nat) (a1 : Int32) (a2 : Int32) (m : xi_M) : (P_X8_refusedTrace S).2.2.2.2.2.2.2.1 331 [.ref a0, .int a1, .int a2] m = (if S.1 a0 = 9 then E_X7_findingOfPairs S a0 a1 a2 m else none) := by
  show xi_calls [(83, xi_wV S 10 1 (F_X8_refuse S)), (132, xi_wV S 8 1 (F_X6_hasPlayer S)), (331, xi_wV S 9 2 (F_X7_findingOfPairs S))] 331 [.ref a0, .int a1, .int a2] m = _
  refine Eq.trans (b := xi_calls [(132, xi_wV S 8 1 (F_X6_hasPlayer S)), (331, xi_wV S 9 2 (F_X7_findingOfPairs S))] 331 [.ref a0, .int a1, .int a2] m) (xi_calls_miss rfl) ?_
  refine Eq.trans (b := xi_calls [(331, xi_wV S 9 2 (F_X7_findingOfPairs S))] 331 [.ref a0, .int a1, .int a2] m) (xi_calls_miss rfl) ?_
  refine Eq.trans (b := xi_wV S 9 2 (F_X7_findingOfPairs S) [.ref a0, .int a1, .int a2] m) (xi_calls_hit rfl) ?_
  exact xi_wV_eq rfl
def E_X8_refusedTrace (S : xi_S) (v0 : Nat) (v1 : Int32) (v2 : Int32) (m : xi_M) : Option xi_R :=
  if S.1 v0 = 10 then (S.2.2 v0 2).bind fun b2 =>
    xi_bI (if S.1 b2 = 8 then E_X6_hasPlayer S b2 v1 m else none) fun x4 m3 =>
    if x4 = 0 then
      some (some (.int (Int32.ofInt (-1))), m3)
    else
      xi_bI (E_X8_within S v2 (Int32.ofInt 5) m3) fun x6 m5 =>
      if x6 = 0 then
        some (some (.int (Int32.ofInt (-1))), m5)
      else
        if S.1 v0 = 10 then (S.2.2 v0 0).bind fun b8 =>
          if (S.1 b8 = 1 ∨ S.1 b8 = 2) ∧ ¬ (v2 < 0 ∨ S.2.1 b8 ≤ Int32.toNatClampNeg v2) then (S.2.2 b8 (Int32.toNatClampNeg v2)).bind fun b10 =>
            xi_bI (if S.1 b10 = 9 then E_X7_findingOfPairs S b10 (Int32.ofInt 1) ((Int8.ofInt 20).toInt32) m5 else none) fun x12 m11 =>
            if x12 = 0 then
              some (some (.int (Int32.ofInt 0)), m11)
            else
              xi_bI (if S.1 v0 = 10 then E_X8_refuse S v0 x12 m11 else none) fun x14 m13 =>
              some (some (.int x14), m13)
          else none
        else none
  else none
def F_X8_refusedTrace (S : xi_S) : xi_F := fun As m => match As with
  | [.ref v0, .int v1, .int v2] => E_X8_refusedTrace S v0 v1 v2 m
  | _ => none
set_option maxRecDepth 100000 in
set_option maxHeartbeats 4000000 in
theorem xe_X8_refusedTrace {S : xi_S} {res : xi_R} (v0 : Nat) (v1 : Int32) (v2 : Int32) (m : xi_M) (h : E_X8_refusedTrace S v0 v1 v2 m = some res) : xi_X S (P_X8_refusedTrace S) (0, [some (.ref v0), some (.int v1), some (.int v2), none], [], m) res := by
  unfold E_X8_refusedTrace at h
  refine xr_aload_n i_X8_refusedTrace_0 rfl (q := 1) rfl ?_
  obtain ⟨c1, h⟩ := xi_if_some h
  obtain ⟨b2, eb2, h⟩ := xi_bind_some h
  refine xr_getR i_X8_refusedTrace_1 xfe_X8_21 c1 eb2 (q := 4) rfl ?_
  refine xr_iload_n i_X8_refusedTrace_4 rfl (q := 5) rfl ?_
  obtain ⟨x4, m3, em3, h⟩ := xi_bI_some h
  refine xr_VI i_X8_refusedTrace_5 xcve_X8_132 rfl (As := [.ref b2, .int v1]) rfl (rest := []) rfl ((cc_X8_refusedTrace_132 S _ _ _).trans em3) (q := 8) rfl ?_
  by_cases c17 : x4 = 0
  · replace h := (if_pos c17).symm.trans h
    refine xr_ifCond_eq_p i_X8_refusedTrace_8 c17 (q := 19) t_X8_refusedTrace_8 (q2 := 11) rfl ?_
    refine xr_iconst i_X8_refusedTrace_19 (q := 20) rfl ?_
    exact xr_ireturn i_X8_refusedTrace_20 rfl h
  · replace h := (if_neg c17).symm.trans h
    refine xr_ifCond_eq_n i_X8_refusedTrace_8 c17 (q := 19) t_X8_refusedTrace_8 (q2 := 11) rfl ?_
    refine xr_iload_n i_X8_refusedTrace_11 rfl (q := 12) rfl ?_
    refine xr_iconst i_X8_refusedTrace_12 (q := 13) rfl ?_
    obtain ⟨x6, m5, em5, h⟩ := xi_bI_some h
    refine xr_SI i_X8_refusedTrace_13 xcse_X8_71 rfl (As := [.int v2, .int (Int32.ofInt 5)]) rfl (rest := []) rfl ((cc_X8_refusedTrace_71 S _ _ _).trans em5) (q := 16) rfl ?_
    by_cases c16 : x6 = 0
    · replace h := (if_pos c16).symm.trans h
      refine xr_ifCond_ne_p i_X8_refusedTrace_16 c16 (q := 21) t_X8_refusedTrace_16 (q2 := 19) rfl ?_
      refine xr_iconst i_X8_refusedTrace_19 (q := 20) rfl ?_
      exact xr_ireturn i_X8_refusedTrace_20 rfl h
    · replace h := (if_neg c16).symm.trans h
      refine xr_ifCond_ne_n i_X8_refusedTrace_16 c16 (q := 21) t_X8_refusedTrace_16 (q2 := 19) rfl ?_
      refine xr_aload_n i_X8_refusedTrace_21 rfl (q := 22) rfl ?_
      obtain ⟨c7, h⟩ := xi_if_some h
      obtain ⟨b8, eb8, h⟩ := xi_bind_some h
      refine xr_getR i_X8_refusedTrace_22 xfe_X8_11 c7 eb8 (q := 25) rfl ?_
      refine xr_iload_n i_X8_refusedTrace_25 rfl (q := 26) rfl ?_
      obtain ⟨c9, h⟩ := xi_if_some h
      obtain ⟨b10, eb10, h⟩ := xi_bind_some h
      refine xr_aaload i_X8_refusedTrace_26 c9 eb10 (q := 27) rfl ?_
      refine xr_iconst i_X8_refusedTrace_27 (q := 28) rfl ?_
      refine xr_bipush i_X8_refusedTrace_28 (q := 30) rfl ?_
      obtain ⟨x12, m11, em11, h⟩ := xi_bI_some h
      refine xr_VI i_X8_refusedTrace_30 xcve_X8_331 rfl (As := [.ref b10, .int (Int32.ofInt 1), .int ((Int8.ofInt 20).toInt32)]) rfl (rest := []) rfl ((cc_X8_refusedTrace_331 S _ _ _ _).trans em11) (q := 33) rfl ?_
      refine xr_istore_n i_X8_refusedTrace_33 rfl (L2 := [some (.ref v0), some (.int v1), some (.int v2), some (.int x12)]) rfl (q := 34) rfl ?_
      refine xr_iload_n i_X8_refusedTrace_34 rfl (q := 35) rfl ?_
      by_cases c15 : x12 = 0
      · replace h := (if_pos c15).symm.trans h
        refine xr_ifCond_ne_p i_X8_refusedTrace_35 c15 (q := 42) t_X8_refusedTrace_35 (q2 := 38) rfl ?_
        refine xr_iconst i_X8_refusedTrace_38 (q := 39) rfl ?_
        refine xr_goto i_X8_refusedTrace_39 (q := 47) t_X8_refusedTrace_39 ?_
        exact xr_ireturn i_X8_refusedTrace_47 rfl h
      · replace h := (if_neg c15).symm.trans h
        refine xr_ifCond_ne_n i_X8_refusedTrace_35 c15 (q := 42) t_X8_refusedTrace_35 (q2 := 38) rfl ?_
        refine xr_aload_n i_X8_refusedTrace_42 rfl (q := 43) rfl ?_
        refine xr_iload_n i_X8_refusedTrace_43 rfl (q := 44) rfl ?_
        obtain ⟨x14, m13, em13, h⟩ := xi_bI_some h
        refine xr_VI i_X8_refusedTrace_44 xcve_X8_83 rfl (As := [.ref v0, .int x12]) rfl (rest := []) rfl ((cc_X8_refusedTrace_83 S _ _ _).trans em13) (q := 47) rfl ?_
        exact xr_ireturn i_X8_refusedTrace_47 rfl h
set_option maxRecDepth 100000 in
theorem po_X8_refusedTrace {l : Launch} {E : xi_E} {S : xi_S} {D : va_G} {tys : List (ClassId × FieldType)} (hC : xCx E S tys) : xi_Pok l E S D vwCl tys xNs RX8 xTs cX8_refusedTrace 4 2 (P_X8_refusedTrace S) := ⟨xi_dc_ok, by rw [hC.2]; exact xfo_X8, xkio_X8, xklo_X8, xi_calls_ok (ins := .invokestatic) (List.forall_mem_cons.mpr ⟨(xc_X8_71 (sn_X8_within hC) (by decide)), fun _ h => absurd h List.not_mem_nil⟩), xi_calls_ok (ins := .invokevirtual) (List.forall_mem_cons.mpr ⟨(xc_X8_83 hC.1 (sn_X8_refuse hC) (by decide)), List.forall_mem_cons.mpr ⟨(xc_X8_132 hC.1 (sn_X6_hasPlayer hC) (by decide)), List.forall_mem_cons.mpr ⟨(xc_X8_331 hC.1 (sn_X7_findingOfPairs hC) (by decide)), fun _ h => absurd h List.not_mem_nil⟩⟩⟩)⟩
theorem sn_X8_refusedTrace {l : Launch} {E : xi_E} {S : xi_S} {D : va_G} {tys : List (ClassId × FieldType)} (hC : xCx E S tys) : ∀ As m1 r m2, F_X8_refusedTrace S As m1 = some (r, m2) → xi_Sound l E S D vwCl tys xNs xTs yX8_refusedTrace cX8_refusedTrace 4 (some .int) 2 As m1 r m2 := by
  intro As m1 r m2 h
  unfold F_X8_refusedTrace at h
  split at h
  · exact xi_meth (P := P_X8_refusedTrace S) (by decide) hC.1 (po_X8_refusedTrace hC) (Nat.le_of_ble_eq_true rfl) rfl (xe_X8_refusedTrace _ _ _ _ h)
  · exact xi_no h
theorem i_X8_landedSo_0 : xi_dc cX8_landedSo 0 = some (.iconst 0, 1) := by decide +kernel
theorem i_X8_landedSo_1 : xi_dc cX8_landedSo 1 = some (.istore 4, 2) := by decide +kernel
theorem i_X8_landedSo_3 : xi_dc cX8_landedSo 3 = some (.iload 4, 2) := by decide +kernel
theorem i_X8_landedSo_5 : xi_dc cX8_landedSo 5 = some (.iconst 1, 1) := by decide +kernel
theorem i_X8_landedSo_6 : xi_dc cX8_landedSo 6 = some (.iadd, 1) := by decide +kernel
theorem i_X8_landedSo_7 : xi_dc cX8_landedSo 7 = some (.aload_n 0, 1) := by decide +kernel
theorem i_X8_landedSo_8 : xi_dc cX8_landedSo 8 = some (.getfield 105, 3) := by decide +kernel
theorem i_X8_landedSo_11 : xi_dc cX8_landedSo 11 = some (.if_icmp .ge 36, 3) := by decide +kernel
theorem t_X8_landedSo_11 : ((11 : Nat) : Int) + 36 = ((47 : Nat) : Int) := by decide +kernel
theorem i_X8_landedSo_14 : xi_dc cX8_landedSo 14 = some (.iload_n 1, 1) := by decide +kernel
theorem i_X8_landedSo_15 : xi_dc cX8_landedSo 15 = some (.iload_n 2, 1) := by decide +kernel
theorem i_X8_landedSo_16 : xi_dc cX8_landedSo 16 = some (.iload_n 3, 1) := by decide +kernel
theorem i_X8_landedSo_17 : xi_dc cX8_landedSo 17 = some (.aload_n 0, 1) := by decide +kernel
theorem i_X8_landedSo_18 : xi_dc cX8_landedSo 18 = some (.getfield 86, 3) := by decide +kernel
theorem i_X8_landedSo_21 : xi_dc cX8_landedSo 21 = some (.iload 4, 2) := by decide +kernel
theorem i_X8_landedSo_23 : xi_dc cX8_landedSo 23 = some (.iaload, 1) := by decide +kernel
theorem i_X8_landedSo_24 : xi_dc cX8_landedSo 24 = some (.invokestatic 334, 3) := by decide +kernel
theorem i_X8_landedSo_27 : xi_dc cX8_landedSo 27 = some (.aload_n 0, 1) := by decide +kernel
theorem i_X8_landedSo_28 : xi_dc cX8_landedSo 28 = some (.getfield 86, 3) := by decide +kernel
theorem i_X8_landedSo_31 : xi_dc cX8_landedSo 31 = some (.iload 4, 2) := by decide +kernel
theorem i_X8_landedSo_33 : xi_dc cX8_landedSo 33 = some (.iconst 1, 1) := by decide +kernel
theorem i_X8_landedSo_34 : xi_dc cX8_landedSo 34 = some (.iadd, 1) := by decide +kernel
theorem i_X8_landedSo_35 : xi_dc cX8_landedSo 35 = some (.iaload, 1) := by decide +kernel
theorem i_X8_landedSo_36 : xi_dc cX8_landedSo 36 = some (.if_icmp .eq 5, 3) := by decide +kernel
theorem t_X8_landedSo_36 : ((36 : Nat) : Int) + 5 = ((41 : Nat) : Int) := by decide +kernel
theorem i_X8_landedSo_39 : xi_dc cX8_landedSo 39 = some (.iconst 0, 1) := by decide +kernel
theorem i_X8_landedSo_40 : xi_dc cX8_landedSo 40 = some (.ireturn, 1) := by decide +kernel
theorem i_X8_landedSo_41 : xi_dc cX8_landedSo 41 = some (.iinc 4 2, 3) := by decide +kernel
theorem i_X8_landedSo_44 : xi_dc cX8_landedSo 44 = some (.goto (-41), 3) := by decide +kernel
theorem t_X8_landedSo_44 : ((44 : Nat) : Int) + (-41) = ((3 : Nat) : Int) := by decide +kernel
theorem i_X8_landedSo_47 : xi_dc cX8_landedSo 47 = some (.iconst 1, 1) := by decide +kernel
theorem i_X8_landedSo_48 : xi_dc cX8_landedSo 48 = some (.ireturn, 1) := by decide +kernel
def P_X8_landedSo (S : xi_S) : xi_P := (xi_dc cX8_landedSo, xi_tab xfl_X8, xi_tab xki_X8, xi_tab xkl_X8, xi_tab xcs_X8, xi_tab xcv_X8, xi_calls [(334, xi_wS 4 (F_X4_landing S))], xi_calls [], 2)
theorem cc_X8_landedSo_334 (S : xi_S) (a0 : Int32) (a1 : Int32) (a2 : Int32) (a3 : Int32) (m : xi_M) : (P_X8_landedSo S).2.2.2.2.2.2.1 334 [.int a0, .int a1, .int a2, .int a3] m = (E_X4_landing S a0 a1 a2 a3 m) := by
  show xi_calls [(334, xi_wS 4 (F_X4_landing S))] 334 [.int a0, .int a1, .int a2, .int a3] m = _
  refine Eq.trans (b := xi_wS 4 (F_X4_landing S) [.int a0, .int a1, .int a2, .int a3] m) (xi_calls_hit rfl) ?_
  exact xi_wS_eq rfl
def G_X8_landedSo_3 (S : xi_S) : Nat → Nat → Int32 → Int32 → Int32 → Int32 → xi_M → Option xi_R
  | 0, _, _, _, _, _, _ => none
  | n + 1, v0, v1, v2, v3, v4, m =>
    if S.1 v0 = 9 then
      if (m.1 v0 1) ≤ (v4 + (Int32.ofInt 1)) then
        if (Int32.ofInt 1) = 0 ∨ (Int32.ofInt 1) = 1 then some (some (.int (Int32.ofInt 1)), m) else none
      else
        if S.1 v0 = 9 then (S.2.2 v0 2).bind fun b3 =>
          if S.1 b3 = 0 ∧ ¬ (v4 < 0 ∨ S.2.1 b3 ≤ Int32.toNatClampNeg v4) then
            xi_bI (E_X4_landing S v1 v2 v3 (m.1 b3 (Int32.toNatClampNeg v4)) m) fun x6 m5 =>
            if S.1 v0 = 9 then (S.2.2 v0 2).bind fun b8 =>
              if S.1 b8 = 0 ∧ ¬ ((v4 + (Int32.ofInt 1)) < 0 ∨ S.2.1 b8 ≤ Int32.toNatClampNeg (v4 + (Int32.ofInt 1))) then
                if x6 = (m5.1 b8 (Int32.toNatClampNeg (v4 + (Int32.ofInt 1)))) then
                  G_X8_landedSo_3 S n v0 v1 v2 v3 (v4 + Int32.ofInt 2) m5
                else
                  if (Int32.ofInt 0) = 0 ∨ (Int32.ofInt 0) = 1 then some (some (.int (Int32.ofInt 0)), m5) else none
              else none
            else none
          else none
        else none
    else none
set_option maxRecDepth 100000 in
set_option maxHeartbeats 4000000 in
theorem xs_X8_landedSo_3 {S : xi_S} {res : xi_R} : ∀ (n : Nat) (v0 : Nat) (v1 : Int32) (v2 : Int32) (v3 : Int32) (v4 : Int32) (m : xi_M), G_X8_landedSo_3 S n v0 v1 v2 v3 v4 m = some res → xi_X S (P_X8_landedSo S) (3, [some (.ref v0), some (.int v1), some (.int v2), some (.int v3), some (.int v4)], [], m) res := by
  intro n
  induction n with
  | zero => intro v0 v1 v2 v3 v4 m h; exact xi_no h
  | succ n ih =>
    intro v0 v1 v2 v3 v4 m h
    unfold G_X8_landedSo_3 at h
    refine xr_iload i_X8_landedSo_3 rfl (q := 5) rfl ?_
    refine xr_iconst i_X8_landedSo_5 (q := 6) rfl ?_
    refine xr_iadd i_X8_landedSo_6 (q := 7) rfl ?_
    refine xr_aload_n i_X8_landedSo_7 rfl (q := 8) rfl ?_
    obtain ⟨c1, h⟩ := xi_if_some h
    refine xr_getI i_X8_landedSo_8 xfe_X8_105 c1 (q := 11) rfl ?_
    by_cases c11 : (m.1 v0 1) ≤ (v4 + (Int32.ofInt 1))
    · replace h := (if_pos c11).symm.trans h
      refine xr_if_icmp_ge_p i_X8_landedSo_11 c11 (q := 47) t_X8_landedSo_11 (q2 := 14) rfl ?_
      refine xr_iconst i_X8_landedSo_47 (q := 48) rfl ?_
      exact xr_zreturn i_X8_landedSo_48 rfl h
    · replace h := (if_neg c11).symm.trans h
      refine xr_if_icmp_ge_n i_X8_landedSo_11 c11 (q := 47) t_X8_landedSo_11 (q2 := 14) rfl ?_
      refine xr_iload_n i_X8_landedSo_14 rfl (q := 15) rfl ?_
      refine xr_iload_n i_X8_landedSo_15 rfl (q := 16) rfl ?_
      refine xr_iload_n i_X8_landedSo_16 rfl (q := 17) rfl ?_
      refine xr_aload_n i_X8_landedSo_17 rfl (q := 18) rfl ?_
      obtain ⟨c2, h⟩ := xi_if_some h
      obtain ⟨b3, eb3, h⟩ := xi_bind_some h
      refine xr_getR i_X8_landedSo_18 xfe_X8_86 c2 eb3 (q := 21) rfl ?_
      refine xr_iload i_X8_landedSo_21 rfl (q := 23) rfl ?_
      obtain ⟨c4, h⟩ := xi_if_some h
      refine xr_iaload i_X8_landedSo_23 c4 (q := 24) rfl ?_
      obtain ⟨x6, m5, em5, h⟩ := xi_bI_some h
      refine xr_SI i_X8_landedSo_24 xcse_X8_334 rfl (As := [.int v1, .int v2, .int v3, .int (m.1 b3 (Int32.toNatClampNeg v4))]) rfl (rest := []) rfl ((cc_X8_landedSo_334 S _ _ _ _ _).trans em5) (q := 27) rfl ?_
      refine xr_aload_n i_X8_landedSo_27 rfl (q := 28) rfl ?_
      obtain ⟨c7, h⟩ := xi_if_some h
      obtain ⟨b8, eb8, h⟩ := xi_bind_some h
      refine xr_getR i_X8_landedSo_28 xfe_X8_86 c7 eb8 (q := 31) rfl ?_
      refine xr_iload i_X8_landedSo_31 rfl (q := 33) rfl ?_
      refine xr_iconst i_X8_landedSo_33 (q := 34) rfl ?_
      refine xr_iadd i_X8_landedSo_34 (q := 35) rfl ?_
      obtain ⟨c9, h⟩ := xi_if_some h
      refine xr_iaload i_X8_landedSo_35 c9 (q := 36) rfl ?_
      by_cases c10 : x6 = (m5.1 b8 (Int32.toNatClampNeg (v4 + (Int32.ofInt 1))))
      · replace h := (if_pos c10).symm.trans h
        refine xr_if_icmp_eq_p i_X8_landedSo_36 c10 (q := 41) t_X8_landedSo_36 (q2 := 39) rfl ?_
        refine xr_iinc i_X8_landedSo_41 rfl rfl (L2 := [some (.ref v0), some (.int v1), some (.int v2), some (.int v3), some (.int (v4 + Int32.ofInt 2))]) rfl (q := 44) rfl ?_
        refine xr_goto i_X8_landedSo_44 (q := 3) t_X8_landedSo_44 ?_
        exact xi_X_le (xi_le_s (xi_le_s (xi_le_s (xi_le_s (xi_le_s xi_le_z))))) (ih _ _ _ _ _ _ h)
      · replace h := (if_neg c10).symm.trans h
        refine xr_if_icmp_eq_n i_X8_landedSo_36 c10 (q := 41) t_X8_landedSo_36 (q2 := 39) rfl ?_
        refine xr_iconst i_X8_landedSo_39 (q := 40) rfl ?_
        exact xr_zreturn i_X8_landedSo_40 rfl h
def E_X8_landedSo (S : xi_S) (v0 : Nat) (v1 : Int32) (v2 : Int32) (v3 : Int32) (m : xi_M) : Option xi_R :=
  G_X8_landedSo_3 S 10000 v0 v1 v2 v3 (Int32.ofInt 0) m
def F_X8_landedSo (S : xi_S) : xi_F := fun As m => match As with
  | [.ref v0, .int v1, .int v2, .int v3] => E_X8_landedSo S v0 v1 v2 v3 m
  | _ => none
set_option maxRecDepth 100000 in
set_option maxHeartbeats 4000000 in
theorem xe_X8_landedSo {S : xi_S} {res : xi_R} (v0 : Nat) (v1 : Int32) (v2 : Int32) (v3 : Int32) (m : xi_M) (h : E_X8_landedSo S v0 v1 v2 v3 m = some res) : xi_X S (P_X8_landedSo S) (0, [some (.ref v0), some (.int v1), some (.int v2), some (.int v3), none], [], m) res := by
  unfold E_X8_landedSo at h
  refine xr_iconst i_X8_landedSo_0 (q := 1) rfl ?_
  refine xr_istore i_X8_landedSo_1 rfl (L2 := [some (.ref v0), some (.int v1), some (.int v2), some (.int v3), some (.int (Int32.ofInt 0))]) rfl (q := 3) rfl ?_
  exact xi_X_le (xi_le_s (xi_le_s (xi_le_s (xi_le_s (xi_le_s xi_le_z))))) (xs_X8_landedSo_3 10000 _ _ _ _ _ _ h)
set_option maxRecDepth 100000 in
theorem po_X8_landedSo {l : Launch} {E : xi_E} {S : xi_S} {D : va_G} {tys : List (ClassId × FieldType)} (hC : xCx E S tys) : xi_Pok l E S D vwCl tys xNs RX8 xTs cX8_landedSo 5 2 (P_X8_landedSo S) := ⟨xi_dc_ok, by rw [hC.2]; exact xfo_X8, xkio_X8, xklo_X8, xi_calls_ok (ins := .invokestatic) (List.forall_mem_cons.mpr ⟨(xc_X8_334 (sn_X4_landing hC) (by decide)), fun _ h => absurd h List.not_mem_nil⟩), xi_calls_ok (ins := .invokevirtual) (fun _ h => absurd h List.not_mem_nil)⟩
theorem sn_X8_landedSo {l : Launch} {E : xi_E} {S : xi_S} {D : va_G} {tys : List (ClassId × FieldType)} (hC : xCx E S tys) : ∀ As m1 r m2, F_X8_landedSo S As m1 = some (r, m2) → xi_Sound l E S D vwCl tys xNs xTs yX8_landedSo cX8_landedSo 5 (some .boolean) 2 As m1 r m2 := by
  intro As m1 r m2 h
  unfold F_X8_landedSo at h
  split at h
  · exact xi_meth (P := P_X8_landedSo S) (by decide) hC.1 (po_X8_landedSo hC) (Nat.le_of_ble_eq_true rfl) rfl (xe_X8_landedSo _ _ _ _ _ h)
  · exact xi_no h
theorem i_X8_stood_0 : xi_dc cX8_stood 0 = some (.aload_n 0, 1) := by decide +kernel
theorem i_X8_stood_1 : xi_dc cX8_stood 1 = some (.iload_n 1, 1) := by decide +kernel
theorem i_X8_stood_2 : xi_dc cX8_stood 2 = some (.iload_n 2, 1) := by decide +kernel
theorem i_X8_stood_3 : xi_dc cX8_stood 3 = some (.invokevirtual 268, 3) := by decide +kernel
theorem i_X8_stood_6 : xi_dc cX8_stood 6 = some (.istore_n 3, 1) := by decide +kernel
theorem i_X8_stood_7 : xi_dc cX8_stood 7 = some (.iload_n 3, 1) := by decide +kernel
theorem i_X8_stood_8 : xi_dc cX8_stood 8 = some (.ifCond .eq 5, 3) := by decide +kernel
theorem t_X8_stood_8 : ((8 : Nat) : Int) + 5 = ((13 : Nat) : Int) := by decide +kernel
theorem i_X8_stood_11 : xi_dc cX8_stood 11 = some (.iload_n 3, 1) := by decide +kernel
theorem i_X8_stood_12 : xi_dc cX8_stood 12 = some (.ireturn, 1) := by decide +kernel
theorem i_X8_stood_13 : xi_dc cX8_stood 13 = some (.iconst 0, 1) := by decide +kernel
theorem i_X8_stood_14 : xi_dc cX8_stood 14 = some (.istore 4, 2) := by decide +kernel
theorem i_X8_stood_16 : xi_dc cX8_stood 16 = some (.iconst 0, 1) := by decide +kernel
theorem i_X8_stood_17 : xi_dc cX8_stood 17 = some (.istore 5, 2) := by decide +kernel
theorem i_X8_stood_19 : xi_dc cX8_stood 19 = some (.iload 5, 2) := by decide +kernel
theorem i_X8_stood_21 : xi_dc cX8_stood 21 = some (.bipush 20, 2) := by decide +kernel
theorem i_X8_stood_23 : xi_dc cX8_stood 23 = some (.if_icmp .gt 50, 3) := by decide +kernel
theorem t_X8_stood_23 : ((23 : Nat) : Int) + 50 = ((73 : Nat) : Int) := by decide +kernel
theorem i_X8_stood_26 : xi_dc cX8_stood 26 = some (.aload_n 0, 1) := by decide +kernel
theorem i_X8_stood_27 : xi_dc cX8_stood 27 = some (.getfield 11, 3) := by decide +kernel
theorem i_X8_stood_30 : xi_dc cX8_stood 30 = some (.iload_n 2, 1) := by decide +kernel
theorem i_X8_stood_31 : xi_dc cX8_stood 31 = some (.aaload, 1) := by decide +kernel
theorem i_X8_stood_32 : xi_dc cX8_stood 32 = some (.aload_n 0, 1) := by decide +kernel
theorem i_X8_stood_33 : xi_dc cX8_stood 33 = some (.getfield 21, 3) := by decide +kernel
theorem i_X8_stood_36 : xi_dc cX8_stood 36 = some (.getfield 142, 3) := by decide +kernel
theorem i_X8_stood_39 : xi_dc cX8_stood 39 = some (.iload_n 1, 1) := by decide +kernel
theorem i_X8_stood_40 : xi_dc cX8_stood 40 = some (.iaload, 1) := by decide +kernel
theorem i_X8_stood_41 : xi_dc cX8_stood 41 = some (.iload 5, 2) := by decide +kernel
theorem i_X8_stood_43 : xi_dc cX8_stood 43 = some (.aload_n 0, 1) := by decide +kernel
theorem i_X8_stood_44 : xi_dc cX8_stood 44 = some (.getfield 21, 3) := by decide +kernel
theorem i_X8_stood_47 : xi_dc cX8_stood 47 = some (.getfield 271, 3) := by decide +kernel
theorem i_X8_stood_50 : xi_dc cX8_stood 50 = some (.iload_n 1, 1) := by decide +kernel
theorem i_X8_stood_51 : xi_dc cX8_stood 51 = some (.iaload, 1) := by decide +kernel
theorem i_X8_stood_52 : xi_dc cX8_stood 52 = some (.invokestatic 274, 3) := by decide +kernel
theorem i_X8_stood_55 : xi_dc cX8_stood 55 = some (.ifCond .eq 12, 3) := by decide +kernel
theorem t_X8_stood_55 : ((55 : Nat) : Int) + 12 = ((67 : Nat) : Int) := by decide +kernel
theorem i_X8_stood_58 : xi_dc cX8_stood 58 = some (.iload 4, 2) := by decide +kernel
theorem i_X8_stood_60 : xi_dc cX8_stood 60 = some (.iconst 1, 1) := by decide +kernel
theorem i_X8_stood_61 : xi_dc cX8_stood 61 = some (.iload 5, 2) := by decide +kernel
theorem i_X8_stood_63 : xi_dc cX8_stood 63 = some (.ishl, 1) := by decide +kernel
theorem i_X8_stood_64 : xi_dc cX8_stood 64 = some (.ior, 1) := by decide +kernel
theorem i_X8_stood_65 : xi_dc cX8_stood 65 = some (.istore 4, 2) := by decide +kernel
theorem i_X8_stood_67 : xi_dc cX8_stood 67 = some (.iinc 5 1, 3) := by decide +kernel
theorem i_X8_stood_70 : xi_dc cX8_stood 70 = some (.goto (-51), 3) := by decide +kernel
theorem t_X8_stood_70 : ((70 : Nat) : Int) + (-51) = ((19 : Nat) : Int) := by decide +kernel
theorem i_X8_stood_73 : xi_dc cX8_stood 73 = some (.iload 4, 2) := by decide +kernel
theorem i_X8_stood_75 : xi_dc cX8_stood 75 = some (.ireturn, 1) := by decide +kernel
def P_X8_stood (S : xi_S) : xi_P := (xi_dc cX8_stood, xi_tab xfl_X8, xi_tab xki_X8, xi_tab xkl_X8, xi_tab xcs_X8, xi_tab xcv_X8, xi_calls [(274, xi_wS 4 (F_X8_landedSo S))], xi_calls [(268, xi_wV S 10 2 (F_X8_refusedTrace S))], 1)
theorem cc_X8_stood_274 (S : xi_S) (a0 : Nat) (a1 : Int32) (a2 : Int32) (a3 : Int32) (m : xi_M) : (P_X8_stood S).2.2.2.2.2.2.1 274 [.ref a0, .int a1, .int a2, .int a3] m = (E_X8_landedSo S a0 a1 a2 a3 m) := by
  show xi_calls [(274, xi_wS 4 (F_X8_landedSo S))] 274 [.ref a0, .int a1, .int a2, .int a3] m = _
  refine Eq.trans (b := xi_wS 4 (F_X8_landedSo S) [.ref a0, .int a1, .int a2, .int a3] m) (xi_calls_hit rfl) ?_
  exact xi_wS_eq rfl
theorem cc_X8_stood_268 (S : xi_S) (a0 : Nat) (a1 : Int32) (a2 : Int32) (m : xi_M) : (P_X8_stood S).2.2.2.2.2.2.2.1 268 [.ref a0, .int a1, .int a2] m = (if S.1 a0 = 10 then E_X8_refusedTrace S a0 a1 a2 m else none) := by
  show xi_calls [(268, xi_wV S 10 2 (F_X8_refusedTrace S))] 268 [.ref a0, .int a1, .int a2] m = _
  refine Eq.trans (b := xi_wV S 10 2 (F_X8_refusedTrace S) [.ref a0, .int a1, .int a2] m) (xi_calls_hit rfl) ?_
  exact xi_wV_eq rfl
def G_X8_stood_19 (S : xi_S) : Nat → Nat → Int32 → Int32 → Int32 → Int32 → xi_M → Option xi_R
  | 0, _, _, _, _, _, _ => none
  | n + 1, v0, v1, v2, v4, v5, m =>
    if ((Int8.ofInt 20).toInt32) < v5 then
      some (some (.int v4), m)
    else
      if S.1 v0 = 10 then (S.2.2 v0 0).bind fun b2 =>
        if (S.1 b2 = 1 ∨ S.1 b2 = 2) ∧ ¬ (v2 < 0 ∨ S.2.1 b2 ≤ Int32.toNatClampNeg v2) then (S.2.2 b2 (Int32.toNatClampNeg v2)).bind fun b4 =>
          if S.1 v0 = 10 then (S.2.2 v0 2).bind fun b6 =>
            if S.1 b6 = 8 then (S.2.2 b6 7).bind fun b8 =>
              if S.1 b8 = 0 ∧ ¬ (v1 < 0 ∨ S.2.1 b8 ≤ Int32.toNatClampNeg v1) then
                if S.1 v0 = 10 then (S.2.2 v0 2).bind fun b11 =>
                  if S.1 b11 = 8 then (S.2.2 b11 10).bind fun b13 =>
                    if S.1 b13 = 0 ∧ ¬ (v1 < 0 ∨ S.2.1 b13 ≤ Int32.toNatClampNeg v1) then
                      xi_bI (E_X8_landedSo S b4 (m.1 b8 (Int32.toNatClampNeg v1)) v5 (m.1 b13 (Int32.toNatClampNeg v1)) m) fun x16 m15 =>
                      if x16 = 0 then
                        G_X8_stood_19 S n v0 v1 v2 v4 (v5 + Int32.ofInt 1) m15
                      else
                        G_X8_stood_19 S n v0 v1 v2 (v4 ||| ((Int32.ofInt 1) <<< (v5 &&& 31))) (v5 + Int32.ofInt 1) m15
                    else none
                  else none
                else none
              else none
            else none
          else none
        else none
      else none
set_option maxRecDepth 100000 in
set_option maxHeartbeats 4000000 in
theorem xs_X8_stood_19 {S : xi_S} {res : xi_R} : ∀ (n : Nat) (v0 : Nat) (v1 : Int32) (v2 : Int32) (v4 : Int32) (v5 : Int32) (m : xi_M), G_X8_stood_19 S n v0 v1 v2 v4 v5 m = some res → xi_X S (P_X8_stood S) (19, [some (.ref v0), some (.int v1), some (.int v2), none, some (.int v4), some (.int v5)], [], m) res := by
  intro n
  induction n with
  | zero => intro v0 v1 v2 v4 v5 m h; exact xi_no h
  | succ n ih =>
    intro v0 v1 v2 v4 v5 m h
    unfold G_X8_stood_19 at h
    refine xr_iload i_X8_stood_19 rfl (q := 21) rfl ?_
    refine xr_bipush i_X8_stood_21 (q := 23) rfl ?_
    by_cases c18 : ((Int8.ofInt 20).toInt32) < v5
    · replace h := (if_pos c18).symm.trans h
      refine xr_if_icmp_gt_p i_X8_stood_23 c18 (q := 73) t_X8_stood_23 (q2 := 26) rfl ?_
      refine xr_iload i_X8_stood_73 rfl (q := 75) rfl ?_
      exact xr_ireturn i_X8_stood_75 rfl h
    · replace h := (if_neg c18).symm.trans h
      refine xr_if_icmp_gt_n i_X8_stood_23 c18 (q := 73) t_X8_stood_23 (q2 := 26) rfl ?_
      refine xr_aload_n i_X8_stood_26 rfl (q := 27) rfl ?_
      obtain ⟨c1, h⟩ := xi_if_some h
      obtain ⟨b2, eb2, h⟩ := xi_bind_some h
      refine xr_getR i_X8_stood_27 xfe_X8_11 c1 eb2 (q := 30) rfl ?_
      refine xr_iload_n i_X8_stood_30 rfl (q := 31) rfl ?_
      obtain ⟨c3, h⟩ := xi_if_some h
      obtain ⟨b4, eb4, h⟩ := xi_bind_some h
      refine xr_aaload i_X8_stood_31 c3 eb4 (q := 32) rfl ?_
      refine xr_aload_n i_X8_stood_32 rfl (q := 33) rfl ?_
      obtain ⟨c5, h⟩ := xi_if_some h
      obtain ⟨b6, eb6, h⟩ := xi_bind_some h
      refine xr_getR i_X8_stood_33 xfe_X8_21 c5 eb6 (q := 36) rfl ?_
      obtain ⟨c7, h⟩ := xi_if_some h
      obtain ⟨b8, eb8, h⟩ := xi_bind_some h
      refine xr_getR i_X8_stood_36 xfe_X8_142 c7 eb8 (q := 39) rfl ?_
      refine xr_iload_n i_X8_stood_39 rfl (q := 40) rfl ?_
      obtain ⟨c9, h⟩ := xi_if_some h
      refine xr_iaload i_X8_stood_40 c9 (q := 41) rfl ?_
      refine xr_iload i_X8_stood_41 rfl (q := 43) rfl ?_
      refine xr_aload_n i_X8_stood_43 rfl (q := 44) rfl ?_
      obtain ⟨c10, h⟩ := xi_if_some h
      obtain ⟨b11, eb11, h⟩ := xi_bind_some h
      refine xr_getR i_X8_stood_44 xfe_X8_21 c10 eb11 (q := 47) rfl ?_
      obtain ⟨c12, h⟩ := xi_if_some h
      obtain ⟨b13, eb13, h⟩ := xi_bind_some h
      refine xr_getR i_X8_stood_47 xfe_X8_271 c12 eb13 (q := 50) rfl ?_
      refine xr_iload_n i_X8_stood_50 rfl (q := 51) rfl ?_
      obtain ⟨c14, h⟩ := xi_if_some h
      refine xr_iaload i_X8_stood_51 c14 (q := 52) rfl ?_
      obtain ⟨x16, m15, em15, h⟩ := xi_bI_some h
      refine xr_SI i_X8_stood_52 xcse_X8_274 rfl (As := [.ref b4, .int (m.1 b8 (Int32.toNatClampNeg v1)), .int v5, .int (m.1 b13 (Int32.toNatClampNeg v1))]) rfl (rest := []) rfl ((cc_X8_stood_274 S _ _ _ _ _).trans em15) (q := 55) rfl ?_
      by_cases c17 : x16 = 0
      · replace h := (if_pos c17).symm.trans h
        refine xr_ifCond_eq_p i_X8_stood_55 c17 (q := 67) t_X8_stood_55 (q2 := 58) rfl ?_
        refine xr_iinc i_X8_stood_67 rfl rfl (L2 := [some (.ref v0), some (.int v1), some (.int v2), none, some (.int v4), some (.int (v5 + Int32.ofInt 1))]) rfl (q := 70) rfl ?_
        refine xr_goto i_X8_stood_70 (q := 19) t_X8_stood_70 ?_
        exact xi_X_le (xi_le_s (xi_le_s (xi_le_s (xi_le_n (xi_le_s (xi_le_s xi_le_z)))))) (ih _ _ _ _ _ _ h)
      · replace h := (if_neg c17).symm.trans h
        refine xr_ifCond_eq_n i_X8_stood_55 c17 (q := 67) t_X8_stood_55 (q2 := 58) rfl ?_
        refine xr_iload i_X8_stood_58 rfl (q := 60) rfl ?_
        refine xr_iconst i_X8_stood_60 (q := 61) rfl ?_
        refine xr_iload i_X8_stood_61 rfl (q := 63) rfl ?_
        refine xr_ishl i_X8_stood_63 (q := 64) rfl ?_
        refine xr_ior i_X8_stood_64 (q := 65) rfl ?_
        refine xr_istore i_X8_stood_65 rfl (L2 := [some (.ref v0), some (.int v1), some (.int v2), none, some (.int (v4 ||| ((Int32.ofInt 1) <<< (v5 &&& 31)))), some (.int v5)]) rfl (q := 67) rfl ?_
        refine xr_iinc i_X8_stood_67 rfl rfl (L2 := [some (.ref v0), some (.int v1), some (.int v2), none, some (.int (v4 ||| ((Int32.ofInt 1) <<< (v5 &&& 31)))), some (.int (v5 + Int32.ofInt 1))]) rfl (q := 70) rfl ?_
        refine xr_goto i_X8_stood_70 (q := 19) t_X8_stood_70 ?_
        exact xi_X_le (xi_le_s (xi_le_s (xi_le_s (xi_le_n (xi_le_s (xi_le_s xi_le_z)))))) (ih _ _ _ _ _ _ h)
def E_X8_stood (S : xi_S) (v0 : Nat) (v1 : Int32) (v2 : Int32) (m : xi_M) : Option xi_R :=
  xi_bI (if S.1 v0 = 10 then E_X8_refusedTrace S v0 v1 v2 m else none) fun x2 m1 =>
  if x2 = 0 then
    G_X8_stood_19 S 10000 v0 v1 v2 (Int32.ofInt 0) (Int32.ofInt 0) m1
  else
    some (some (.int x2), m1)
def F_X8_stood (S : xi_S) : xi_F := fun As m => match As with
  | [.ref v0, .int v1, .int v2] => E_X8_stood S v0 v1 v2 m
  | _ => none
set_option maxRecDepth 100000 in
set_option maxHeartbeats 4000000 in
theorem xe_X8_stood {S : xi_S} {res : xi_R} (v0 : Nat) (v1 : Int32) (v2 : Int32) (m : xi_M) (h : E_X8_stood S v0 v1 v2 m = some res) : xi_X S (P_X8_stood S) (0, [some (.ref v0), some (.int v1), some (.int v2), none, none, none], [], m) res := by
  unfold E_X8_stood at h
  refine xr_aload_n i_X8_stood_0 rfl (q := 1) rfl ?_
  refine xr_iload_n i_X8_stood_1 rfl (q := 2) rfl ?_
  refine xr_iload_n i_X8_stood_2 rfl (q := 3) rfl ?_
  obtain ⟨x2, m1, em1, h⟩ := xi_bI_some h
  refine xr_VI i_X8_stood_3 xcve_X8_268 rfl (As := [.ref v0, .int v1, .int v2]) rfl (rest := []) rfl ((cc_X8_stood_268 S _ _ _ _).trans em1) (q := 6) rfl ?_
  refine xr_istore_n i_X8_stood_6 rfl (L2 := [some (.ref v0), some (.int v1), some (.int v2), some (.int x2), none, none]) rfl (q := 7) rfl ?_
  refine xr_iload_n i_X8_stood_7 rfl (q := 8) rfl ?_
  by_cases c3 : x2 = 0
  · replace h := (if_pos c3).symm.trans h
    refine xr_ifCond_eq_p i_X8_stood_8 c3 (q := 13) t_X8_stood_8 (q2 := 11) rfl ?_
    refine xr_iconst i_X8_stood_13 (q := 14) rfl ?_
    refine xr_istore i_X8_stood_14 rfl (L2 := [some (.ref v0), some (.int v1), some (.int v2), some (.int x2), some (.int (Int32.ofInt 0)), none]) rfl (q := 16) rfl ?_
    refine xr_iconst i_X8_stood_16 (q := 17) rfl ?_
    refine xr_istore i_X8_stood_17 rfl (L2 := [some (.ref v0), some (.int v1), some (.int v2), some (.int x2), some (.int (Int32.ofInt 0)), some (.int (Int32.ofInt 0))]) rfl (q := 19) rfl ?_
    exact xi_X_le (xi_le_s (xi_le_s (xi_le_s (xi_le_n (xi_le_s (xi_le_s xi_le_z)))))) (xs_X8_stood_19 10000 _ _ _ _ _ _ h)
  · replace h := (if_neg c3).symm.trans h
    refine xr_ifCond_eq_n i_X8_stood_8 c3 (q := 13) t_X8_stood_8 (q2 := 11) rfl ?_
    refine xr_iload_n i_X8_stood_11 rfl (q := 12) rfl ?_
    exact xr_ireturn i_X8_stood_12 rfl h
set_option maxRecDepth 100000 in
theorem po_X8_stood {l : Launch} {E : xi_E} {S : xi_S} {D : va_G} {tys : List (ClassId × FieldType)} (hC : xCx E S tys) : xi_Pok l E S D vwCl tys xNs RX8 xTs cX8_stood 6 3 (P_X8_stood S) := ⟨xi_dc_ok, by rw [hC.2]; exact xfo_X8, xkio_X8, xklo_X8, xi_calls_ok (ins := .invokestatic) (List.forall_mem_cons.mpr ⟨(xc_X8_274 (sn_X8_landedSo hC) (by decide)), fun _ h => absurd h List.not_mem_nil⟩), xi_calls_ok (ins := .invokevirtual) (List.forall_mem_cons.mpr ⟨(xc_X8_268 hC.1 (sn_X8_refusedTrace hC) (by decide)), fun _ h => absurd h List.not_mem_nil⟩)⟩
theorem sn_X8_stood {l : Launch} {E : xi_E} {S : xi_S} {D : va_G} {tys : List (ClassId × FieldType)} (hC : xCx E S tys) : ∀ As m1 r m2, F_X8_stood S As m1 = some (r, m2) → xi_Sound l E S D vwCl tys xNs xTs yX8_stood cX8_stood 6 (some .int) 3 As m1 r m2 := by
  intro As m1 r m2 h
  unfold F_X8_stood at h
  split at h
  · exact xi_meth (P := P_X8_stood S) (by decide) hC.1 (po_X8_stood hC) (Nat.le_of_ble_eq_true rfl) rfl (xe_X8_stood _ _ _ _ h)
  · exact xi_no h
theorem i_X8_kinds_0 : xi_dc cX8_kinds 0 = some (.aload_n 0, 1) := by decide +kernel
theorem i_X8_kinds_1 : xi_dc cX8_kinds 1 = some (.iload_n 1, 1) := by decide +kernel
theorem i_X8_kinds_2 : xi_dc cX8_kinds 2 = some (.iload_n 2, 1) := by decide +kernel
theorem i_X8_kinds_3 : xi_dc cX8_kinds 3 = some (.invokevirtual 268, 3) := by decide +kernel
theorem i_X8_kinds_6 : xi_dc cX8_kinds 6 = some (.istore_n 3, 1) := by decide +kernel
theorem i_X8_kinds_7 : xi_dc cX8_kinds 7 = some (.iload_n 3, 1) := by decide +kernel
theorem i_X8_kinds_8 : xi_dc cX8_kinds 8 = some (.ifCond .eq 5, 3) := by decide +kernel
theorem t_X8_kinds_8 : ((8 : Nat) : Int) + 5 = ((13 : Nat) : Int) := by decide +kernel
theorem i_X8_kinds_11 : xi_dc cX8_kinds 11 = some (.iload_n 3, 1) := by decide +kernel
theorem i_X8_kinds_12 : xi_dc cX8_kinds 12 = some (.ireturn, 1) := by decide +kernel
theorem i_X8_kinds_13 : xi_dc cX8_kinds 13 = some (.iconst 0, 1) := by decide +kernel
theorem i_X8_kinds_14 : xi_dc cX8_kinds 14 = some (.istore 4, 2) := by decide +kernel
theorem i_X8_kinds_16 : xi_dc cX8_kinds 16 = some (.iconst 0, 1) := by decide +kernel
theorem i_X8_kinds_17 : xi_dc cX8_kinds 17 = some (.istore 5, 2) := by decide +kernel
theorem i_X8_kinds_19 : xi_dc cX8_kinds 19 = some (.iload 5, 2) := by decide +kernel
theorem i_X8_kinds_21 : xi_dc cX8_kinds 21 = some (.iconst 5, 1) := by decide +kernel
theorem i_X8_kinds_22 : xi_dc cX8_kinds 22 = some (.if_icmp .gt 50, 3) := by decide +kernel
theorem t_X8_kinds_22 : ((22 : Nat) : Int) + 50 = ((72 : Nat) : Int) := by decide +kernel
theorem i_X8_kinds_25 : xi_dc cX8_kinds 25 = some (.aload_n 0, 1) := by decide +kernel
theorem i_X8_kinds_26 : xi_dc cX8_kinds 26 = some (.getfield 11, 3) := by decide +kernel
theorem i_X8_kinds_29 : xi_dc cX8_kinds 29 = some (.iload_n 2, 1) := by decide +kernel
theorem i_X8_kinds_30 : xi_dc cX8_kinds 30 = some (.aaload, 1) := by decide +kernel
theorem i_X8_kinds_31 : xi_dc cX8_kinds 31 = some (.iload 5, 2) := by decide +kernel
theorem i_X8_kinds_33 : xi_dc cX8_kinds 33 = some (.aload_n 0, 1) := by decide +kernel
theorem i_X8_kinds_34 : xi_dc cX8_kinds 34 = some (.getfield 21, 3) := by decide +kernel
theorem i_X8_kinds_37 : xi_dc cX8_kinds 37 = some (.getfield 151, 3) := by decide +kernel
theorem i_X8_kinds_40 : xi_dc cX8_kinds 40 = some (.iload_n 1, 1) := by decide +kernel
theorem i_X8_kinds_41 : xi_dc cX8_kinds 41 = some (.iaload, 1) := by decide +kernel
theorem i_X8_kinds_42 : xi_dc cX8_kinds 42 = some (.aload_n 0, 1) := by decide +kernel
theorem i_X8_kinds_43 : xi_dc cX8_kinds 43 = some (.getfield 21, 3) := by decide +kernel
theorem i_X8_kinds_46 : xi_dc cX8_kinds 46 = some (.getfield 271, 3) := by decide +kernel
theorem i_X8_kinds_49 : xi_dc cX8_kinds 49 = some (.iload_n 1, 1) := by decide +kernel
theorem i_X8_kinds_50 : xi_dc cX8_kinds 50 = some (.iaload, 1) := by decide +kernel
theorem i_X8_kinds_51 : xi_dc cX8_kinds 51 = some (.invokestatic 274, 3) := by decide +kernel
theorem i_X8_kinds_54 : xi_dc cX8_kinds 54 = some (.ifCond .eq 12, 3) := by decide +kernel
theorem t_X8_kinds_54 : ((54 : Nat) : Int) + 12 = ((66 : Nat) : Int) := by decide +kernel
theorem i_X8_kinds_57 : xi_dc cX8_kinds 57 = some (.iload 4, 2) := by decide +kernel
theorem i_X8_kinds_59 : xi_dc cX8_kinds 59 = some (.iconst 1, 1) := by decide +kernel
theorem i_X8_kinds_60 : xi_dc cX8_kinds 60 = some (.iload 5, 2) := by decide +kernel
theorem i_X8_kinds_62 : xi_dc cX8_kinds 62 = some (.ishl, 1) := by decide +kernel
theorem i_X8_kinds_63 : xi_dc cX8_kinds 63 = some (.ior, 1) := by decide +kernel
theorem i_X8_kinds_64 : xi_dc cX8_kinds 64 = some (.istore 4, 2) := by decide +kernel
theorem i_X8_kinds_66 : xi_dc cX8_kinds 66 = some (.iinc 5 1, 3) := by decide +kernel
theorem i_X8_kinds_69 : xi_dc cX8_kinds 69 = some (.goto (-50), 3) := by decide +kernel
theorem t_X8_kinds_69 : ((69 : Nat) : Int) + (-50) = ((19 : Nat) : Int) := by decide +kernel
theorem i_X8_kinds_72 : xi_dc cX8_kinds 72 = some (.iload 4, 2) := by decide +kernel
theorem i_X8_kinds_74 : xi_dc cX8_kinds 74 = some (.ireturn, 1) := by decide +kernel
def P_X8_kinds (S : xi_S) : xi_P := (xi_dc cX8_kinds, xi_tab xfl_X8, xi_tab xki_X8, xi_tab xkl_X8, xi_tab xcs_X8, xi_tab xcv_X8, xi_calls [(274, xi_wS 4 (F_X8_landedSo S))], xi_calls [(268, xi_wV S 10 2 (F_X8_refusedTrace S))], 1)
theorem cc_X8_kinds_274 (S : xi_S) (a0 : Nat) (a1 : Int32) (a2 : Int32) (a3 : Int32) (m : xi_M) : (P_X8_kinds S).2.2.2.2.2.2.1 274 [.ref a0, .int a1, .int a2, .int a3] m = (E_X8_landedSo S a0 a1 a2 a3 m) := by
  show xi_calls [(274, xi_wS 4 (F_X8_landedSo S))] 274 [.ref a0, .int a1, .int a2, .int a3] m = _
  refine Eq.trans (b := xi_wS 4 (F_X8_landedSo S) [.ref a0, .int a1, .int a2, .int a3] m) (xi_calls_hit rfl) ?_
  exact xi_wS_eq rfl
theorem cc_X8_kinds_268 (S : xi_S) (a0 : Nat) (a1 : Int32) (a2 : Int32) (m : xi_M) : (P_X8_kinds S).2.2.2.2.2.2.2.1 268 [.ref a0, .int a1, .int a2] m = (if S.1 a0 = 10 then E_X8_refusedTrace S a0 a1 a2 m else none) := by
  show xi_calls [(268, xi_wV S 10 2 (F_X8_refusedTrace S))] 268 [.ref a0, .int a1, .int a2] m = _
  refine Eq.trans (b := xi_wV S 10 2 (F_X8_refusedTrace S) [.ref a0, .int a1, .int a2] m) (xi_calls_hit rfl) ?_
  exact xi_wV_eq rfl
def G_X8_kinds_19 (S : xi_S) : Nat → Nat → Int32 → Int32 → Int32 → Int32 → xi_M → Option xi_R
  | 0, _, _, _, _, _, _ => none
  | n + 1, v0, v1, v2, v4, v5, m =>
    if (Int32.ofInt 5) < v5 then
      some (some (.int v4), m)
    else
      if S.1 v0 = 10 then (S.2.2 v0 0).bind fun b2 =>
        if (S.1 b2 = 1 ∨ S.1 b2 = 2) ∧ ¬ (v2 < 0 ∨ S.2.1 b2 ≤ Int32.toNatClampNeg v2) then (S.2.2 b2 (Int32.toNatClampNeg v2)).bind fun b4 =>
          if S.1 v0 = 10 then (S.2.2 v0 2).bind fun b6 =>
            if S.1 b6 = 8 then (S.2.2 b6 9).bind fun b8 =>
              if S.1 b8 = 0 ∧ ¬ (v1 < 0 ∨ S.2.1 b8 ≤ Int32.toNatClampNeg v1) then
                if S.1 v0 = 10 then (S.2.2 v0 2).bind fun b11 =>
                  if S.1 b11 = 8 then (S.2.2 b11 10).bind fun b13 =>
                    if S.1 b13 = 0 ∧ ¬ (v1 < 0 ∨ S.2.1 b13 ≤ Int32.toNatClampNeg v1) then
                      xi_bI (E_X8_landedSo S b4 v5 (m.1 b8 (Int32.toNatClampNeg v1)) (m.1 b13 (Int32.toNatClampNeg v1)) m) fun x16 m15 =>
                      if x16 = 0 then
                        G_X8_kinds_19 S n v0 v1 v2 v4 (v5 + Int32.ofInt 1) m15
                      else
                        G_X8_kinds_19 S n v0 v1 v2 (v4 ||| ((Int32.ofInt 1) <<< (v5 &&& 31))) (v5 + Int32.ofInt 1) m15
                    else none
                  else none
                else none
              else none
            else none
          else none
        else none
      else none
set_option maxRecDepth 100000 in
set_option maxHeartbeats 4000000 in
theorem xs_X8_kinds_19 {S : xi_S} {res : xi_R} : ∀ (n : Nat) (v0 : Nat) (v1 : Int32) (v2 : Int32) (v4 : Int32) (v5 : Int32) (m : xi_M), G_X8_kinds_19 S n v0 v1 v2 v4 v5 m = some res → xi_X S (P_X8_kinds S) (19, [some (.ref v0), some (.int v1), some (.int v2), none, some (.int v4), some (.int v5)], [], m) res := by
  intro n
  induction n with
  | zero => intro v0 v1 v2 v4 v5 m h; exact xi_no h
  | succ n ih =>
    intro v0 v1 v2 v4 v5 m h
    unfold G_X8_kinds_19 at h
    refine xr_iload i_X8_kinds_19 rfl (q := 21) rfl ?_
    refine xr_iconst i_X8_kinds_21 (q := 22) rfl ?_
    by_cases c18 : (Int32.ofInt 5) < v5
    · replace h := (if_pos c18).symm.trans h
      refine xr_if_icmp_gt_p i_X8_kinds_22 c18 (q := 72) t_X8_kinds_22 (q2 := 25) rfl ?_
      refine xr_iload i_X8_kinds_72 rfl (q := 74) rfl ?_
      exact xr_ireturn i_X8_kinds_74 rfl h
    · replace h := (if_neg c18).symm.trans h
      refine xr_if_icmp_gt_n i_X8_kinds_22 c18 (q := 72) t_X8_kinds_22 (q2 := 25) rfl ?_
      refine xr_aload_n i_X8_kinds_25 rfl (q := 26) rfl ?_
      obtain ⟨c1, h⟩ := xi_if_some h
      obtain ⟨b2, eb2, h⟩ := xi_bind_some h
      refine xr_getR i_X8_kinds_26 xfe_X8_11 c1 eb2 (q := 29) rfl ?_
      refine xr_iload_n i_X8_kinds_29 rfl (q := 30) rfl ?_
      obtain ⟨c3, h⟩ := xi_if_some h
      obtain ⟨b4, eb4, h⟩ := xi_bind_some h
      refine xr_aaload i_X8_kinds_30 c3 eb4 (q := 31) rfl ?_
      refine xr_iload i_X8_kinds_31 rfl (q := 33) rfl ?_
      refine xr_aload_n i_X8_kinds_33 rfl (q := 34) rfl ?_
      obtain ⟨c5, h⟩ := xi_if_some h
      obtain ⟨b6, eb6, h⟩ := xi_bind_some h
      refine xr_getR i_X8_kinds_34 xfe_X8_21 c5 eb6 (q := 37) rfl ?_
      obtain ⟨c7, h⟩ := xi_if_some h
      obtain ⟨b8, eb8, h⟩ := xi_bind_some h
      refine xr_getR i_X8_kinds_37 xfe_X8_151 c7 eb8 (q := 40) rfl ?_
      refine xr_iload_n i_X8_kinds_40 rfl (q := 41) rfl ?_
      obtain ⟨c9, h⟩ := xi_if_some h
      refine xr_iaload i_X8_kinds_41 c9 (q := 42) rfl ?_
      refine xr_aload_n i_X8_kinds_42 rfl (q := 43) rfl ?_
      obtain ⟨c10, h⟩ := xi_if_some h
      obtain ⟨b11, eb11, h⟩ := xi_bind_some h
      refine xr_getR i_X8_kinds_43 xfe_X8_21 c10 eb11 (q := 46) rfl ?_
      obtain ⟨c12, h⟩ := xi_if_some h
      obtain ⟨b13, eb13, h⟩ := xi_bind_some h
      refine xr_getR i_X8_kinds_46 xfe_X8_271 c12 eb13 (q := 49) rfl ?_
      refine xr_iload_n i_X8_kinds_49 rfl (q := 50) rfl ?_
      obtain ⟨c14, h⟩ := xi_if_some h
      refine xr_iaload i_X8_kinds_50 c14 (q := 51) rfl ?_
      obtain ⟨x16, m15, em15, h⟩ := xi_bI_some h
      refine xr_SI i_X8_kinds_51 xcse_X8_274 rfl (As := [.ref b4, .int v5, .int (m.1 b8 (Int32.toNatClampNeg v1)), .int (m.1 b13 (Int32.toNatClampNeg v1))]) rfl (rest := []) rfl ((cc_X8_kinds_274 S _ _ _ _ _).trans em15) (q := 54) rfl ?_
      by_cases c17 : x16 = 0
      · replace h := (if_pos c17).symm.trans h
        refine xr_ifCond_eq_p i_X8_kinds_54 c17 (q := 66) t_X8_kinds_54 (q2 := 57) rfl ?_
        refine xr_iinc i_X8_kinds_66 rfl rfl (L2 := [some (.ref v0), some (.int v1), some (.int v2), none, some (.int v4), some (.int (v5 + Int32.ofInt 1))]) rfl (q := 69) rfl ?_
        refine xr_goto i_X8_kinds_69 (q := 19) t_X8_kinds_69 ?_
        exact xi_X_le (xi_le_s (xi_le_s (xi_le_s (xi_le_n (xi_le_s (xi_le_s xi_le_z)))))) (ih _ _ _ _ _ _ h)
      · replace h := (if_neg c17).symm.trans h
        refine xr_ifCond_eq_n i_X8_kinds_54 c17 (q := 66) t_X8_kinds_54 (q2 := 57) rfl ?_
        refine xr_iload i_X8_kinds_57 rfl (q := 59) rfl ?_
        refine xr_iconst i_X8_kinds_59 (q := 60) rfl ?_
        refine xr_iload i_X8_kinds_60 rfl (q := 62) rfl ?_
        refine xr_ishl i_X8_kinds_62 (q := 63) rfl ?_
        refine xr_ior i_X8_kinds_63 (q := 64) rfl ?_
        refine xr_istore i_X8_kinds_64 rfl (L2 := [some (.ref v0), some (.int v1), some (.int v2), none, some (.int (v4 ||| ((Int32.ofInt 1) <<< (v5 &&& 31)))), some (.int v5)]) rfl (q := 66) rfl ?_
        refine xr_iinc i_X8_kinds_66 rfl rfl (L2 := [some (.ref v0), some (.int v1), some (.int v2), none, some (.int (v4 ||| ((Int32.ofInt 1) <<< (v5 &&& 31)))), some (.int (v5 + Int32.ofInt 1))]) rfl (q := 69) rfl ?_
        refine xr_goto i_X8_kinds_69 (q := 19) t_X8_kinds_69 ?_
        exact xi_X_le (xi_le_s (xi_le_s (xi_le_s (xi_le_n (xi_le_s (xi_le_s xi_le_z)))))) (ih _ _ _ _ _ _ h)
def E_X8_kinds (S : xi_S) (v0 : Nat) (v1 : Int32) (v2 : Int32) (m : xi_M) : Option xi_R :=
  xi_bI (if S.1 v0 = 10 then E_X8_refusedTrace S v0 v1 v2 m else none) fun x2 m1 =>
  if x2 = 0 then
    G_X8_kinds_19 S 10000 v0 v1 v2 (Int32.ofInt 0) (Int32.ofInt 0) m1
  else
    some (some (.int x2), m1)
def F_X8_kinds (S : xi_S) : xi_F := fun As m => match As with
  | [.ref v0, .int v1, .int v2] => E_X8_kinds S v0 v1 v2 m
  | _ => none
set_option maxRecDepth 100000 in
set_option maxHeartbeats 4000000 in
theorem xe_X8_kinds {S : xi_S} {res : xi_R} (v0 : Nat) (v1 : Int32) (v2 : Int32) (m : xi_M) (h : E_X8_kinds S v0 v1 v2 m = some res) : xi_X S (P_X8_kinds S) (0, [some (.ref v0), some (.int v1), some (.int v2), none, none, none], [], m) res := by
  unfold E_X8_kinds at h
  refine xr_aload_n i_X8_kinds_0 rfl (q := 1) rfl ?_
  refine xr_iload_n i_X8_kinds_1 rfl (q := 2) rfl ?_
  refine xr_iload_n i_X8_kinds_2 rfl (q := 3) rfl ?_
  obtain ⟨x2, m1, em1, h⟩ := xi_bI_some h
  refine xr_VI i_X8_kinds_3 xcve_X8_268 rfl (As := [.ref v0, .int v1, .int v2]) rfl (rest := []) rfl ((cc_X8_kinds_268 S _ _ _ _).trans em1) (q := 6) rfl ?_
  refine xr_istore_n i_X8_kinds_6 rfl (L2 := [some (.ref v0), some (.int v1), some (.int v2), some (.int x2), none, none]) rfl (q := 7) rfl ?_
  refine xr_iload_n i_X8_kinds_7 rfl (q := 8) rfl ?_
  by_cases c3 : x2 = 0
  · replace h := (if_pos c3).symm.trans h
    refine xr_ifCond_eq_p i_X8_kinds_8 c3 (q := 13) t_X8_kinds_8 (q2 := 11) rfl ?_
    refine xr_iconst i_X8_kinds_13 (q := 14) rfl ?_
    refine xr_istore i_X8_kinds_14 rfl (L2 := [some (.ref v0), some (.int v1), some (.int v2), some (.int x2), some (.int (Int32.ofInt 0)), none]) rfl (q := 16) rfl ?_
    refine xr_iconst i_X8_kinds_16 (q := 17) rfl ?_
    refine xr_istore i_X8_kinds_17 rfl (L2 := [some (.ref v0), some (.int v1), some (.int v2), some (.int x2), some (.int (Int32.ofInt 0)), some (.int (Int32.ofInt 0))]) rfl (q := 19) rfl ?_
    exact xi_X_le (xi_le_s (xi_le_s (xi_le_s (xi_le_n (xi_le_s (xi_le_s xi_le_z)))))) (xs_X8_kinds_19 10000 _ _ _ _ _ _ h)
  · replace h := (if_neg c3).symm.trans h
    refine xr_ifCond_eq_n i_X8_kinds_8 c3 (q := 13) t_X8_kinds_8 (q2 := 11) rfl ?_
    refine xr_iload_n i_X8_kinds_11 rfl (q := 12) rfl ?_
    exact xr_ireturn i_X8_kinds_12 rfl h
set_option maxRecDepth 100000 in
theorem po_X8_kinds {l : Launch} {E : xi_E} {S : xi_S} {D : va_G} {tys : List (ClassId × FieldType)} (hC : xCx E S tys) : xi_Pok l E S D vwCl tys xNs RX8 xTs cX8_kinds 6 3 (P_X8_kinds S) := ⟨xi_dc_ok, by rw [hC.2]; exact xfo_X8, xkio_X8, xklo_X8, xi_calls_ok (ins := .invokestatic) (List.forall_mem_cons.mpr ⟨(xc_X8_274 (sn_X8_landedSo hC) (by decide)), fun _ h => absurd h List.not_mem_nil⟩), xi_calls_ok (ins := .invokevirtual) (List.forall_mem_cons.mpr ⟨(xc_X8_268 hC.1 (sn_X8_refusedTrace hC) (by decide)), fun _ h => absurd h List.not_mem_nil⟩)⟩
theorem sn_X8_kinds {l : Launch} {E : xi_E} {S : xi_S} {D : va_G} {tys : List (ClassId × FieldType)} (hC : xCx E S tys) : ∀ As m1 r m2, F_X8_kinds S As m1 = some (r, m2) → xi_Sound l E S D vwCl tys xNs xTs yX8_kinds cX8_kinds 6 (some .int) 3 As m1 r m2 := by
  intro As m1 r m2 h
  unfold F_X8_kinds at h
  split at h
  · exact xi_meth (P := P_X8_kinds S) (by decide) hC.1 (po_X8_kinds hC) (Nat.le_of_ble_eq_true rfl) rfl (xe_X8_kinds _ _ _ _ h)
  · exact xi_no h
theorem i_X8_sets_0 : xi_dc cX8_sets 0 = some (.iload_n 1, 1) := by decide +kernel
theorem i_X8_sets_1 : xi_dc cX8_sets 1 = some (.bipush 54, 2) := by decide +kernel
theorem i_X8_sets_3 : xi_dc cX8_sets 3 = some (.invokestatic 71, 3) := by decide +kernel
theorem i_X8_sets_6 : xi_dc cX8_sets 6 = some (.ifCond .ne 5, 3) := by decide +kernel
theorem t_X8_sets_6 : ((6 : Nat) : Int) + 5 = ((11 : Nat) : Int) := by decide +kernel
theorem i_X8_sets_9 : xi_dc cX8_sets 9 = some (.iconst (-1), 1) := by decide +kernel
theorem i_X8_sets_10 : xi_dc cX8_sets 10 = some (.ireturn, 1) := by decide +kernel
theorem i_X8_sets_11 : xi_dc cX8_sets 11 = some (.aload_n 0, 1) := by decide +kernel
theorem i_X8_sets_12 : xi_dc cX8_sets 12 = some (.getfield 21, 3) := by decide +kernel
theorem i_X8_sets_15 : xi_dc cX8_sets 15 = some (.getfield 129, 3) := by decide +kernel
theorem i_X8_sets_18 : xi_dc cX8_sets 18 = some (.ifCond .ne 6, 3) := by decide +kernel
theorem t_X8_sets_18 : ((18 : Nat) : Int) + 6 = ((24 : Nat) : Int) := by decide +kernel
theorem i_X8_sets_21 : xi_dc cX8_sets 21 = some (.bipush (-4), 2) := by decide +kernel
theorem i_X8_sets_23 : xi_dc cX8_sets 23 = some (.ireturn, 1) := by decide +kernel
theorem i_X8_sets_24 : xi_dc cX8_sets 24 = some (.iconst 0, 1) := by decide +kernel
theorem i_X8_sets_25 : xi_dc cX8_sets 25 = some (.istore_n 2, 1) := by decide +kernel
theorem i_X8_sets_26 : xi_dc cX8_sets 26 = some (.bipush (-9), 2) := by decide +kernel
theorem i_X8_sets_28 : xi_dc cX8_sets 28 = some (.istore_n 3, 1) := by decide +kernel
theorem i_X8_sets_29 : xi_dc cX8_sets 29 = some (.iconst 1, 1) := by decide +kernel
theorem i_X8_sets_30 : xi_dc cX8_sets 30 = some (.aload_n 0, 1) := by decide +kernel
theorem i_X8_sets_31 : xi_dc cX8_sets 31 = some (.getfield 21, 3) := by decide +kernel
theorem i_X8_sets_34 : xi_dc cX8_sets 34 = some (.getfield 129, 3) := by decide +kernel
theorem i_X8_sets_37 : xi_dc cX8_sets 37 = some (.ishl, 1) := by decide +kernel
theorem i_X8_sets_38 : xi_dc cX8_sets 38 = some (.iconst 1, 1) := by decide +kernel
theorem i_X8_sets_39 : xi_dc cX8_sets 39 = some (.isub, 1) := by decide +kernel
theorem i_X8_sets_40 : xi_dc cX8_sets 40 = some (.istore 4, 2) := by decide +kernel
theorem i_X8_sets_42 : xi_dc cX8_sets 42 = some (.iload 4, 2) := by decide +kernel
theorem i_X8_sets_44 : xi_dc cX8_sets 44 = some (.ifCond .lt 28, 3) := by decide +kernel
theorem t_X8_sets_44 : ((44 : Nat) : Int) + 28 = ((72 : Nat) : Int) := by decide +kernel
theorem i_X8_sets_47 : xi_dc cX8_sets 47 = some (.aload_n 0, 1) := by decide +kernel
theorem i_X8_sets_48 : xi_dc cX8_sets 48 = some (.getfield 21, 3) := by decide +kernel
theorem i_X8_sets_51 : xi_dc cX8_sets 51 = some (.iload 4, 2) := by decide +kernel
theorem i_X8_sets_53 : xi_dc cX8_sets 53 = some (.invokevirtual 278, 3) := by decide +kernel
theorem i_X8_sets_56 : xi_dc cX8_sets 56 = some (.iload_n 1, 1) := by decide +kernel
theorem i_X8_sets_57 : xi_dc cX8_sets 57 = some (.if_icmp .ne 9, 3) := by decide +kernel
theorem t_X8_sets_57 : ((57 : Nat) : Int) + 9 = ((66 : Nat) : Int) := by decide +kernel
theorem i_X8_sets_60 : xi_dc cX8_sets 60 = some (.iinc 2 1, 3) := by decide +kernel
theorem i_X8_sets_63 : xi_dc cX8_sets 63 = some (.iload 4, 2) := by decide +kernel
theorem i_X8_sets_65 : xi_dc cX8_sets 65 = some (.istore_n 3, 1) := by decide +kernel
theorem i_X8_sets_66 : xi_dc cX8_sets 66 = some (.iinc 4 (-1), 3) := by decide +kernel
theorem i_X8_sets_69 : xi_dc cX8_sets 69 = some (.goto (-27), 3) := by decide +kernel
theorem t_X8_sets_69 : ((69 : Nat) : Int) + (-27) = ((42 : Nat) : Int) := by decide +kernel
theorem i_X8_sets_72 : xi_dc cX8_sets 72 = some (.aload_n 0, 1) := by decide +kernel
theorem i_X8_sets_73 : xi_dc cX8_sets 73 = some (.iload_n 2, 1) := by decide +kernel
theorem i_X8_sets_74 : xi_dc cX8_sets 74 = some (.i2l, 1) := by decide +kernel
theorem i_X8_sets_75 : xi_dc cX8_sets 75 = some (.lconst 1, 1) := by decide +kernel
theorem i_X8_sets_76 : xi_dc cX8_sets 76 = some (.invokevirtual 251, 3) := by decide +kernel
theorem i_X8_sets_79 : xi_dc cX8_sets 79 = some (.aload_n 0, 1) := by decide +kernel
theorem i_X8_sets_80 : xi_dc cX8_sets 80 = some (.iload_n 3, 1) := by decide +kernel
theorem i_X8_sets_81 : xi_dc cX8_sets 81 = some (.invokevirtual 89, 3) := by decide +kernel
theorem i_X8_sets_84 : xi_dc cX8_sets 84 = some (.ireturn, 1) := by decide +kernel
def P_X8_sets (S : xi_S) : xi_P := (xi_dc cX8_sets, xi_tab xfl_X8, xi_tab xki_X8, xi_tab xkl_X8, xi_tab xcs_X8, xi_tab xcv_X8, xi_calls [(71, xi_wS 2 (F_X8_within S))], xi_calls [(89, xi_wV S 10 1 (F_X8_answer S)), (251, xi_wV S 10 2 (F_X8_tell S)), (278, xi_wV S 8 1 (F_X6_strengthOf S))], 1)
theorem cc_X8_sets_71 (S : xi_S) (a0 : Int32) (a1 : Int32) (m : xi_M) : (P_X8_sets S).2.2.2.2.2.2.1 71 [.int a0, .int a1] m = (E_X8_within S a0 a1 m) := by
  show xi_calls [(71, xi_wS 2 (F_X8_within S))] 71 [.int a0, .int a1] m = _
  refine Eq.trans (b := xi_wS 2 (F_X8_within S) [.int a0, .int a1] m) (xi_calls_hit rfl) ?_
  exact xi_wS_eq rfl
theorem cc_X8_sets_89 (S : xi_S) (a0 : Nat) (a1 : Int32) (m : xi_M) : (P_X8_sets S).2.2.2.2.2.2.2.1 89 [.ref a0, .int a1] m = (if S.1 a0 = 10 then E_X8_answer S a0 a1 m else none) := by
  show xi_calls [(89, xi_wV S 10 1 (F_X8_answer S)), (251, xi_wV S 10 2 (F_X8_tell S)), (278, xi_wV S 8 1 (F_X6_strengthOf S))] 89 [.ref a0, .int a1] m = _
  refine Eq.trans (b := xi_wV S 10 1 (F_X8_answer S) [.ref a0, .int a1] m) (xi_calls_hit rfl) ?_
  exact xi_wV_eq rfl
theorem cc_X8_sets_251 (S : xi_S) (a0 : Nat) (a1 : Int64) (a2 : Int64) (m : xi_M) : (P_X8_sets S).2.2.2.2.2.2.2.1 251 [.ref a0, .long a1, .long a2] m = (if S.1 a0 = 10 then E_X8_tell S a0 a1 a2 m else none) := by
  show xi_calls [(89, xi_wV S 10 1 (F_X8_answer S)), (251, xi_wV S 10 2 (F_X8_tell S)), (278, xi_wV S 8 1 (F_X6_strengthOf S))] 251 [.ref a0, .long a1, .long a2] m = _
  refine Eq.trans (b := xi_calls [(251, xi_wV S 10 2 (F_X8_tell S)), (278, xi_wV S 8 1 (F_X6_strengthOf S))] 251 [.ref a0, .long a1, .long a2] m) (xi_calls_miss rfl) ?_
  refine Eq.trans (b := xi_wV S 10 2 (F_X8_tell S) [.ref a0, .long a1, .long a2] m) (xi_calls_hit rfl) ?_
  exact xi_wV_eq rfl
theorem cc_X8_sets_278 (S : xi_S) (a0 : Nat) (a1 : Int32) (m : xi_M) : (P_X8_sets S).2.2.2.2.2.2.2.1 278 [.ref a0, .int a1] m = (if S.1 a0 = 8 then E_X6_strengthOf S a0 a1 m else none) := by
  show xi_calls [(89, xi_wV S 10 1 (F_X8_answer S)), (251, xi_wV S 10 2 (F_X8_tell S)), (278, xi_wV S 8 1 (F_X6_strengthOf S))] 278 [.ref a0, .int a1] m = _
  refine Eq.trans (b := xi_calls [(251, xi_wV S 10 2 (F_X8_tell S)), (278, xi_wV S 8 1 (F_X6_strengthOf S))] 278 [.ref a0, .int a1] m) (xi_calls_miss rfl) ?_
  refine Eq.trans (b := xi_calls [(278, xi_wV S 8 1 (F_X6_strengthOf S))] 278 [.ref a0, .int a1] m) (xi_calls_miss rfl) ?_
  refine Eq.trans (b := xi_wV S 8 1 (F_X6_strengthOf S) [.ref a0, .int a1] m) (xi_calls_hit rfl) ?_
  exact xi_wV_eq rfl
def G_X8_sets_42 (S : xi_S) : Nat → Nat → Int32 → Int32 → Int32 → Int32 → xi_M → Option xi_R
  | 0, _, _, _, _, _, _ => none
  | n + 1, v0, v1, v2, v3, v4, m =>
    if v4 < 0 then
      xi_bV (if S.1 v0 = 10 then E_X8_tell S v0 (Int32.toInt64 v2) (Int64.ofNat ((1 : Fin 2) : Nat)) m else none) fun m1 =>
      xi_bI (if S.1 v0 = 10 then E_X8_answer S v0 v3 m1 else none) fun x3 m2 =>
      some (some (.int x3), m2)
    else
      if S.1 v0 = 10 then (S.2.2 v0 2).bind fun b5 =>
        xi_bI (if S.1 b5 = 8 then E_X6_strengthOf S b5 v4 m else none) fun x7 m6 =>
        if x7 = v1 then
          G_X8_sets_42 S n v0 v1 (v2 + Int32.ofInt 1) v4 (v4 + Int32.ofInt (-1)) m6
        else
          G_X8_sets_42 S n v0 v1 v2 v3 (v4 + Int32.ofInt (-1)) m6
      else none
set_option maxRecDepth 100000 in
set_option maxHeartbeats 4000000 in
theorem xs_X8_sets_42 {S : xi_S} {res : xi_R} : ∀ (n : Nat) (v0 : Nat) (v1 : Int32) (v2 : Int32) (v3 : Int32) (v4 : Int32) (m : xi_M), G_X8_sets_42 S n v0 v1 v2 v3 v4 m = some res → xi_X S (P_X8_sets S) (42, [some (.ref v0), some (.int v1), some (.int v2), some (.int v3), some (.int v4)], [], m) res := by
  intro n
  induction n with
  | zero => intro v0 v1 v2 v3 v4 m h; exact xi_no h
  | succ n ih =>
    intro v0 v1 v2 v3 v4 m h
    unfold G_X8_sets_42 at h
    refine xr_iload i_X8_sets_42 rfl (q := 44) rfl ?_
    by_cases c9 : v4 < 0
    · replace h := (if_pos c9).symm.trans h
      refine xr_ifCond_lt_p i_X8_sets_44 c9 (q := 72) t_X8_sets_44 (q2 := 47) rfl ?_
      refine xr_aload_n i_X8_sets_72 rfl (q := 73) rfl ?_
      refine xr_iload_n i_X8_sets_73 rfl (q := 74) rfl ?_
      refine xr_i2l i_X8_sets_74 (q := 75) rfl ?_
      refine xr_lconst i_X8_sets_75 (q := 76) rfl ?_
      obtain ⟨m1, em1, h⟩ := xi_bV_some h
      refine xr_VV i_X8_sets_76 xcve_X8_251 rfl (As := [.ref v0, .long (Int32.toInt64 v2), .long (Int64.ofNat ((1 : Fin 2) : Nat))]) rfl (rest := []) rfl ((cc_X8_sets_251 S _ _ _ _).trans em1) (q := 79) rfl ?_
      refine xr_aload_n i_X8_sets_79 rfl (q := 80) rfl ?_
      refine xr_iload_n i_X8_sets_80 rfl (q := 81) rfl ?_
      obtain ⟨x3, m2, em2, h⟩ := xi_bI_some h
      refine xr_VI i_X8_sets_81 xcve_X8_89 rfl (As := [.ref v0, .int v3]) rfl (rest := []) rfl ((cc_X8_sets_89 S _ _ _).trans em2) (q := 84) rfl ?_
      exact xr_ireturn i_X8_sets_84 rfl h
    · replace h := (if_neg c9).symm.trans h
      refine xr_ifCond_lt_n i_X8_sets_44 c9 (q := 72) t_X8_sets_44 (q2 := 47) rfl ?_
      refine xr_aload_n i_X8_sets_47 rfl (q := 48) rfl ?_
      obtain ⟨c4, h⟩ := xi_if_some h
      obtain ⟨b5, eb5, h⟩ := xi_bind_some h
      refine xr_getR i_X8_sets_48 xfe_X8_21 c4 eb5 (q := 51) rfl ?_
      refine xr_iload i_X8_sets_51 rfl (q := 53) rfl ?_
      obtain ⟨x7, m6, em6, h⟩ := xi_bI_some h
      refine xr_VI i_X8_sets_53 xcve_X8_278 rfl (As := [.ref b5, .int v4]) rfl (rest := []) rfl ((cc_X8_sets_278 S _ _ _).trans em6) (q := 56) rfl ?_
      refine xr_iload_n i_X8_sets_56 rfl (q := 57) rfl ?_
      by_cases c8 : x7 = v1
      · replace h := (if_pos c8).symm.trans h
        refine xr_if_icmp_ne_p i_X8_sets_57 c8 (q := 66) t_X8_sets_57 (q2 := 60) rfl ?_
        refine xr_iinc i_X8_sets_60 rfl rfl (L2 := [some (.ref v0), some (.int v1), some (.int (v2 + Int32.ofInt 1)), some (.int v3), some (.int v4)]) rfl (q := 63) rfl ?_
        refine xr_iload i_X8_sets_63 rfl (q := 65) rfl ?_
        refine xr_istore_n i_X8_sets_65 rfl (L2 := [some (.ref v0), some (.int v1), some (.int (v2 + Int32.ofInt 1)), some (.int v4), some (.int v4)]) rfl (q := 66) rfl ?_
        refine xr_iinc i_X8_sets_66 rfl rfl (L2 := [some (.ref v0), some (.int v1), some (.int (v2 + Int32.ofInt 1)), some (.int v4), some (.int (v4 + Int32.ofInt (-1)))]) rfl (q := 69) rfl ?_
        refine xr_goto i_X8_sets_69 (q := 42) t_X8_sets_69 ?_
        exact xi_X_le (xi_le_s (xi_le_s (xi_le_s (xi_le_s (xi_le_s xi_le_z))))) (ih _ _ _ _ _ _ h)
      · replace h := (if_neg c8).symm.trans h
        refine xr_if_icmp_ne_n i_X8_sets_57 c8 (q := 66) t_X8_sets_57 (q2 := 60) rfl ?_
        refine xr_iinc i_X8_sets_66 rfl rfl (L2 := [some (.ref v0), some (.int v1), some (.int v2), some (.int v3), some (.int (v4 + Int32.ofInt (-1)))]) rfl (q := 69) rfl ?_
        refine xr_goto i_X8_sets_69 (q := 42) t_X8_sets_69 ?_
        exact xi_X_le (xi_le_s (xi_le_s (xi_le_s (xi_le_s (xi_le_s xi_le_z))))) (ih _ _ _ _ _ _ h)
def E_X8_sets (S : xi_S) (v0 : Nat) (v1 : Int32) (m : xi_M) : Option xi_R :=
  xi_bI (E_X8_within S v1 ((Int8.ofInt 54).toInt32) m) fun x2 m1 =>
  if x2 = 0 then
    some (some (.int (Int32.ofInt (-1))), m1)
  else
    if S.1 v0 = 10 then (S.2.2 v0 2).bind fun b4 =>
      if S.1 b4 = 8 then
        if (m1.1 b4 1) = 0 then
          some (some (.int ((Int8.ofInt (-4)).toInt32)), m1)
        else
          if S.1 v0 = 10 then (S.2.2 v0 2).bind fun b7 =>
            if S.1 b7 = 8 then
              G_X8_sets_42 S 10000 v0 v1 (Int32.ofInt 0) ((Int8.ofInt (-9)).toInt32) (((Int32.ofInt 1) <<< ((m1.1 b7 1) &&& 31)) - (Int32.ofInt 1)) m1
            else none
          else none
      else none
    else none
def F_X8_sets (S : xi_S) : xi_F := fun As m => match As with
  | [.ref v0, .int v1] => E_X8_sets S v0 v1 m
  | _ => none
set_option maxRecDepth 100000 in
set_option maxHeartbeats 4000000 in
theorem xe_X8_sets {S : xi_S} {res : xi_R} (v0 : Nat) (v1 : Int32) (m : xi_M) (h : E_X8_sets S v0 v1 m = some res) : xi_X S (P_X8_sets S) (0, [some (.ref v0), some (.int v1), none, none, none], [], m) res := by
  unfold E_X8_sets at h
  refine xr_iload_n i_X8_sets_0 rfl (q := 1) rfl ?_
  refine xr_bipush i_X8_sets_1 (q := 3) rfl ?_
  obtain ⟨x2, m1, em1, h⟩ := xi_bI_some h
  refine xr_SI i_X8_sets_3 xcse_X8_71 rfl (As := [.int v1, .int ((Int8.ofInt 54).toInt32)]) rfl (rest := []) rfl ((cc_X8_sets_71 S _ _ _).trans em1) (q := 6) rfl ?_
  by_cases c10 : x2 = 0
  · replace h := (if_pos c10).symm.trans h
    refine xr_ifCond_ne_p i_X8_sets_6 c10 (q := 11) t_X8_sets_6 (q2 := 9) rfl ?_
    refine xr_iconst i_X8_sets_9 (q := 10) rfl ?_
    exact xr_ireturn i_X8_sets_10 rfl h
  · replace h := (if_neg c10).symm.trans h
    refine xr_ifCond_ne_n i_X8_sets_6 c10 (q := 11) t_X8_sets_6 (q2 := 9) rfl ?_
    refine xr_aload_n i_X8_sets_11 rfl (q := 12) rfl ?_
    obtain ⟨c3, h⟩ := xi_if_some h
    obtain ⟨b4, eb4, h⟩ := xi_bind_some h
    refine xr_getR i_X8_sets_12 xfe_X8_21 c3 eb4 (q := 15) rfl ?_
    obtain ⟨c5, h⟩ := xi_if_some h
    refine xr_getI i_X8_sets_15 xfe_X8_129 c5 (q := 18) rfl ?_
    by_cases c9 : (m1.1 b4 1) = 0
    · replace h := (if_pos c9).symm.trans h
      refine xr_ifCond_ne_p i_X8_sets_18 c9 (q := 24) t_X8_sets_18 (q2 := 21) rfl ?_
      refine xr_bipush i_X8_sets_21 (q := 23) rfl ?_
      exact xr_ireturn i_X8_sets_23 rfl h
    · replace h := (if_neg c9).symm.trans h
      refine xr_ifCond_ne_n i_X8_sets_18 c9 (q := 24) t_X8_sets_18 (q2 := 21) rfl ?_
      refine xr_iconst i_X8_sets_24 (q := 25) rfl ?_
      refine xr_istore_n i_X8_sets_25 rfl (L2 := [some (.ref v0), some (.int v1), some (.int (Int32.ofInt 0)), none, none]) rfl (q := 26) rfl ?_
      refine xr_bipush i_X8_sets_26 (q := 28) rfl ?_
      refine xr_istore_n i_X8_sets_28 rfl (L2 := [some (.ref v0), some (.int v1), some (.int (Int32.ofInt 0)), some (.int ((Int8.ofInt (-9)).toInt32)), none]) rfl (q := 29) rfl ?_
      refine xr_iconst i_X8_sets_29 (q := 30) rfl ?_
      refine xr_aload_n i_X8_sets_30 rfl (q := 31) rfl ?_
      obtain ⟨c6, h⟩ := xi_if_some h
      obtain ⟨b7, eb7, h⟩ := xi_bind_some h
      refine xr_getR i_X8_sets_31 xfe_X8_21 c6 eb7 (q := 34) rfl ?_
      obtain ⟨c8, h⟩ := xi_if_some h
      refine xr_getI i_X8_sets_34 xfe_X8_129 c8 (q := 37) rfl ?_
      refine xr_ishl i_X8_sets_37 (q := 38) rfl ?_
      refine xr_iconst i_X8_sets_38 (q := 39) rfl ?_
      refine xr_isub i_X8_sets_39 (q := 40) rfl ?_
      refine xr_istore i_X8_sets_40 rfl (L2 := [some (.ref v0), some (.int v1), some (.int (Int32.ofInt 0)), some (.int ((Int8.ofInt (-9)).toInt32)), some (.int (((Int32.ofInt 1) <<< ((m1.1 b7 1) &&& 31)) - (Int32.ofInt 1)))]) rfl (q := 42) rfl ?_
      exact xi_X_le (xi_le_s (xi_le_s (xi_le_s (xi_le_s (xi_le_s xi_le_z))))) (xs_X8_sets_42 10000 _ _ _ _ _ _ h)
set_option maxRecDepth 100000 in
theorem po_X8_sets {l : Launch} {E : xi_E} {S : xi_S} {D : va_G} {tys : List (ClassId × FieldType)} (hC : xCx E S tys) : xi_Pok l E S D vwCl tys xNs RX8 xTs cX8_sets 5 1 (P_X8_sets S) := ⟨xi_dc_ok, by rw [hC.2]; exact xfo_X8, xkio_X8, xklo_X8, xi_calls_ok (ins := .invokestatic) (List.forall_mem_cons.mpr ⟨(xc_X8_71 (sn_X8_within hC) (by decide)), fun _ h => absurd h List.not_mem_nil⟩), xi_calls_ok (ins := .invokevirtual) (List.forall_mem_cons.mpr ⟨(xc_X8_89 hC.1 (sn_X8_answer hC) (by decide)), List.forall_mem_cons.mpr ⟨(xc_X8_251 hC.1 (sn_X8_tell hC) (by decide)), List.forall_mem_cons.mpr ⟨(xc_X8_278 hC.1 (sn_X6_strengthOf hC) (by decide)), fun _ h => absurd h List.not_mem_nil⟩⟩⟩)⟩
theorem sn_X8_sets {l : Launch} {E : xi_E} {S : xi_S} {D : va_G} {tys : List (ClassId × FieldType)} (hC : xCx E S tys) : ∀ As m1 r m2, F_X8_sets S As m1 = some (r, m2) → xi_Sound l E S D vwCl tys xNs xTs yX8_sets cX8_sets 5 (some .int) 1 As m1 r m2 := by
  intro As m1 r m2 h
  unfold F_X8_sets at h
  split at h
  · exact xi_meth (P := P_X8_sets S) (by decide) hC.1 (po_X8_sets hC) (Nat.le_of_ble_eq_true rfl) rfl (xe_X8_sets _ _ _ h)
  · exact xi_no h
theorem i_X8_surely_0 : xi_dc cX8_surely 0 = some (.iload_n 1, 1) := by decide +kernel
theorem i_X8_surely_1 : xi_dc cX8_surely 1 = some (.bipush 54, 2) := by decide +kernel
theorem i_X8_surely_3 : xi_dc cX8_surely 3 = some (.invokestatic 71, 3) := by decide +kernel
theorem i_X8_surely_6 : xi_dc cX8_surely 6 = some (.ifCond .ne 5, 3) := by decide +kernel
theorem t_X8_surely_6 : ((6 : Nat) : Int) + 5 = ((11 : Nat) : Int) := by decide +kernel
theorem i_X8_surely_9 : xi_dc cX8_surely 9 = some (.iconst (-1), 1) := by decide +kernel
theorem i_X8_surely_10 : xi_dc cX8_surely 10 = some (.ireturn, 1) := by decide +kernel
theorem i_X8_surely_11 : xi_dc cX8_surely 11 = some (.aload_n 0, 1) := by decide +kernel
theorem i_X8_surely_12 : xi_dc cX8_surely 12 = some (.getfield 21, 3) := by decide +kernel
theorem i_X8_surely_15 : xi_dc cX8_surely 15 = some (.getfield 129, 3) := by decide +kernel
theorem i_X8_surely_18 : xi_dc cX8_surely 18 = some (.ifCond .ne 6, 3) := by decide +kernel
theorem t_X8_surely_18 : ((18 : Nat) : Int) + 6 = ((24 : Nat) : Int) := by decide +kernel
theorem i_X8_surely_21 : xi_dc cX8_surely 21 = some (.bipush (-4), 2) := by decide +kernel
theorem i_X8_surely_23 : xi_dc cX8_surely 23 = some (.ireturn, 1) := by decide +kernel
theorem i_X8_surely_24 : xi_dc cX8_surely 24 = some (.iconst 1, 1) := by decide +kernel
theorem i_X8_surely_25 : xi_dc cX8_surely 25 = some (.aload_n 0, 1) := by decide +kernel
theorem i_X8_surely_26 : xi_dc cX8_surely 26 = some (.getfield 21, 3) := by decide +kernel
theorem i_X8_surely_29 : xi_dc cX8_surely 29 = some (.getfield 129, 3) := by decide +kernel
theorem i_X8_surely_32 : xi_dc cX8_surely 32 = some (.ishl, 1) := by decide +kernel
theorem i_X8_surely_33 : xi_dc cX8_surely 33 = some (.iconst 1, 1) := by decide +kernel
theorem i_X8_surely_34 : xi_dc cX8_surely 34 = some (.isub, 1) := by decide +kernel
theorem i_X8_surely_35 : xi_dc cX8_surely 35 = some (.istore_n 2, 1) := by decide +kernel
theorem i_X8_surely_36 : xi_dc cX8_surely 36 = some (.iload_n 2, 1) := by decide +kernel
theorem i_X8_surely_37 : xi_dc cX8_surely 37 = some (.istore_n 3, 1) := by decide +kernel
theorem i_X8_surely_38 : xi_dc cX8_surely 38 = some (.iconst 0, 1) := by decide +kernel
theorem i_X8_surely_39 : xi_dc cX8_surely 39 = some (.istore 4, 2) := by decide +kernel
theorem i_X8_surely_41 : xi_dc cX8_surely 41 = some (.iconst 0, 1) := by decide +kernel
theorem i_X8_surely_42 : xi_dc cX8_surely 42 = some (.istore 5, 2) := by decide +kernel
theorem i_X8_surely_44 : xi_dc cX8_surely 44 = some (.iconst 0, 1) := by decide +kernel
theorem i_X8_surely_45 : xi_dc cX8_surely 45 = some (.istore 6, 2) := by decide +kernel
theorem i_X8_surely_47 : xi_dc cX8_surely 47 = some (.iload 6, 2) := by decide +kernel
theorem i_X8_surely_49 : xi_dc cX8_surely 49 = some (.iload_n 2, 1) := by decide +kernel
theorem i_X8_surely_50 : xi_dc cX8_surely 50 = some (.if_icmp .gt 37, 3) := by decide +kernel
theorem t_X8_surely_50 : ((50 : Nat) : Int) + 37 = ((87 : Nat) : Int) := by decide +kernel
theorem i_X8_surely_53 : xi_dc cX8_surely 53 = some (.aload_n 0, 1) := by decide +kernel
theorem i_X8_surely_54 : xi_dc cX8_surely 54 = some (.getfield 21, 3) := by decide +kernel
theorem i_X8_surely_57 : xi_dc cX8_surely 57 = some (.iload 6, 2) := by decide +kernel
theorem i_X8_surely_59 : xi_dc cX8_surely 59 = some (.invokevirtual 278, 3) := by decide +kernel
theorem i_X8_surely_62 : xi_dc cX8_surely 62 = some (.iload_n 1, 1) := by decide +kernel
theorem i_X8_surely_63 : xi_dc cX8_surely 63 = some (.if_icmp .ne 18, 3) := by decide +kernel
theorem t_X8_surely_63 : ((63 : Nat) : Int) + 18 = ((81 : Nat) : Int) := by decide +kernel
theorem i_X8_surely_66 : xi_dc cX8_surely 66 = some (.iconst 1, 1) := by decide +kernel
theorem i_X8_surely_67 : xi_dc cX8_surely 67 = some (.istore 5, 2) := by decide +kernel
theorem i_X8_surely_69 : xi_dc cX8_surely 69 = some (.iload_n 3, 1) := by decide +kernel
theorem i_X8_surely_70 : xi_dc cX8_surely 70 = some (.iload 6, 2) := by decide +kernel
theorem i_X8_surely_72 : xi_dc cX8_surely 72 = some (.iand, 1) := by decide +kernel
theorem i_X8_surely_73 : xi_dc cX8_surely 73 = some (.istore_n 3, 1) := by decide +kernel
theorem i_X8_surely_74 : xi_dc cX8_surely 74 = some (.iload 4, 2) := by decide +kernel
theorem i_X8_surely_76 : xi_dc cX8_surely 76 = some (.iload 6, 2) := by decide +kernel
theorem i_X8_surely_78 : xi_dc cX8_surely 78 = some (.ior, 1) := by decide +kernel
theorem i_X8_surely_79 : xi_dc cX8_surely 79 = some (.istore 4, 2) := by decide +kernel
theorem i_X8_surely_81 : xi_dc cX8_surely 81 = some (.iinc 6 1, 3) := by decide +kernel
theorem i_X8_surely_84 : xi_dc cX8_surely 84 = some (.goto (-37), 3) := by decide +kernel
theorem t_X8_surely_84 : ((84 : Nat) : Int) + (-37) = ((47 : Nat) : Int) := by decide +kernel
theorem i_X8_surely_87 : xi_dc cX8_surely 87 = some (.iload 5, 2) := by decide +kernel
theorem i_X8_surely_89 : xi_dc cX8_surely 89 = some (.ifCond .ne 9, 3) := by decide +kernel
theorem t_X8_surely_89 : ((89 : Nat) : Int) + 9 = ((98 : Nat) : Int) := by decide +kernel
theorem i_X8_surely_92 : xi_dc cX8_surely 92 = some (.aload_n 0, 1) := by decide +kernel
theorem i_X8_surely_93 : xi_dc cX8_surely 93 = some (.iconst 4, 1) := by decide +kernel
theorem i_X8_surely_94 : xi_dc cX8_surely 94 = some (.invokevirtual 83, 3) := by decide +kernel
theorem i_X8_surely_97 : xi_dc cX8_surely 97 = some (.ireturn, 1) := by decide +kernel
theorem i_X8_surely_98 : xi_dc cX8_surely 98 = some (.aload_n 0, 1) := by decide +kernel
theorem i_X8_surely_99 : xi_dc cX8_surely 99 = some (.iload_n 2, 1) := by decide +kernel
theorem i_X8_surely_100 : xi_dc cX8_surely 100 = some (.iload 4, 2) := by decide +kernel
theorem i_X8_surely_102 : xi_dc cX8_surely 102 = some (.iconst (-1), 1) := by decide +kernel
theorem i_X8_surely_103 : xi_dc cX8_surely 103 = some (.ixor, 1) := by decide +kernel
theorem i_X8_surely_104 : xi_dc cX8_surely 104 = some (.iand, 1) := by decide +kernel
theorem i_X8_surely_105 : xi_dc cX8_surely 105 = some (.invokevirtual 89, 3) := by decide +kernel
theorem i_X8_surely_108 : xi_dc cX8_surely 108 = some (.pop, 1) := by decide +kernel
theorem i_X8_surely_109 : xi_dc cX8_surely 109 = some (.iload_n 3, 1) := by decide +kernel
theorem i_X8_surely_110 : xi_dc cX8_surely 110 = some (.ireturn, 1) := by decide +kernel
def P_X8_surely (S : xi_S) : xi_P := (xi_dc cX8_surely, xi_tab xfl_X8, xi_tab xki_X8, xi_tab xkl_X8, xi_tab xcs_X8, xi_tab xcv_X8, xi_calls [(71, xi_wS 2 (F_X8_within S))], xi_calls [(83, xi_wV S 10 1 (F_X8_refuse S)), (89, xi_wV S 10 1 (F_X8_answer S)), (278, xi_wV S 8 1 (F_X6_strengthOf S))], 1)
theorem cc_X8_surely_71 (S : xi_S) (a0 : Int32) (a1 : Int32) (m : xi_M) : (P_X8_surely S).2.2.2.2.2.2.1 71 [.int a0, .int a1] m = (E_X8_within S a0 a1 m) := by
  show xi_calls [(71, xi_wS 2 (F_X8_within S))] 71 [.int a0, .int a1] m = _
  refine Eq.trans (b := xi_wS 2 (F_X8_within S) [.int a0, .int a1] m) (xi_calls_hit rfl) ?_
  exact xi_wS_eq rfl
theorem cc_X8_surely_83 (S : xi_S) (a0 : Nat) (a1 : Int32) (m : xi_M) : (P_X8_surely S).2.2.2.2.2.2.2.1 83 [.ref a0, .int a1] m = (if S.1 a0 = 10 then E_X8_refuse S a0 a1 m else none) := by
  show xi_calls [(83, xi_wV S 10 1 (F_X8_refuse S)), (89, xi_wV S 10 1 (F_X8_answer S)), (278, xi_wV S 8 1 (F_X6_strengthOf S))] 83 [.ref a0, .int a1] m = _
  refine Eq.trans (b := xi_wV S 10 1 (F_X8_refuse S) [.ref a0, .int a1] m) (xi_calls_hit rfl) ?_
  exact xi_wV_eq rfl
theorem cc_X8_surely_89 (S : xi_S) (a0 : Nat) (a1 : Int32) (m : xi_M) : (P_X8_surely S).2.2.2.2.2.2.2.1 89 [.ref a0, .int a1] m = (if S.1 a0 = 10 then E_X8_answer S a0 a1 m else none) := by
  show xi_calls [(83, xi_wV S 10 1 (F_X8_refuse S)), (89, xi_wV S 10 1 (F_X8_answer S)), (278, xi_wV S 8 1 (F_X6_strengthOf S))] 89 [.ref a0, .int a1] m = _
  refine Eq.trans (b := xi_calls [(89, xi_wV S 10 1 (F_X8_answer S)), (278, xi_wV S 8 1 (F_X6_strengthOf S))] 89 [.ref a0, .int a1] m) (xi_calls_miss rfl) ?_
  refine Eq.trans (b := xi_wV S 10 1 (F_X8_answer S) [.ref a0, .int a1] m) (xi_calls_hit rfl) ?_
  exact xi_wV_eq rfl
theorem cc_X8_surely_278 (S : xi_S) (a0 : Nat) (a1 : Int32) (m : xi_M) : (P_X8_surely S).2.2.2.2.2.2.2.1 278 [.ref a0, .int a1] m = (if S.1 a0 = 8 then E_X6_strengthOf S a0 a1 m else none) := by
  show xi_calls [(83, xi_wV S 10 1 (F_X8_refuse S)), (89, xi_wV S 10 1 (F_X8_answer S)), (278, xi_wV S 8 1 (F_X6_strengthOf S))] 278 [.ref a0, .int a1] m = _
  refine Eq.trans (b := xi_calls [(89, xi_wV S 10 1 (F_X8_answer S)), (278, xi_wV S 8 1 (F_X6_strengthOf S))] 278 [.ref a0, .int a1] m) (xi_calls_miss rfl) ?_
  refine Eq.trans (b := xi_calls [(278, xi_wV S 8 1 (F_X6_strengthOf S))] 278 [.ref a0, .int a1] m) (xi_calls_miss rfl) ?_
  refine Eq.trans (b := xi_wV S 8 1 (F_X6_strengthOf S) [.ref a0, .int a1] m) (xi_calls_hit rfl) ?_
  exact xi_wV_eq rfl
def G_X8_surely_47 (S : xi_S) : Nat → Nat → Int32 → Int32 → Int32 → Int32 → Int32 → Int32 → xi_M → Option xi_R
  | 0, _, _, _, _, _, _, _, _ => none
  | n + 1, v0, v1, v2, v3, v4, v5, v6, m =>
    if v2 < v6 then
      if v5 = 0 then
        xi_bI (if S.1 v0 = 10 then E_X8_refuse S v0 (Int32.ofInt 4) m else none) fun x4 m3 =>
        some (some (.int x4), m3)
      else
        xi_bI (if S.1 v0 = 10 then E_X8_answer S v0 (v2 &&& (v4 ^^^ (Int32.ofInt (-1)))) m else none) fun x2 m1 =>
        some (some (.int v3), m1)
    else
      if S.1 v0 = 10 then (S.2.2 v0 2).bind fun b7 =>
        xi_bI (if S.1 b7 = 8 then E_X6_strengthOf S b7 v6 m else none) fun x9 m8 =>
        if x9 = v1 then
          G_X8_surely_47 S n v0 v1 v2 (v3 &&& v6) (v4 ||| v6) (Int32.ofInt 1) (v6 + Int32.ofInt 1) m8
        else
          G_X8_surely_47 S n v0 v1 v2 v3 v4 v5 (v6 + Int32.ofInt 1) m8
      else none
set_option maxRecDepth 100000 in
set_option maxHeartbeats 4000000 in
theorem xs_X8_surely_47 {S : xi_S} {res : xi_R} : ∀ (n : Nat) (v0 : Nat) (v1 : Int32) (v2 : Int32) (v3 : Int32) (v4 : Int32) (v5 : Int32) (v6 : Int32) (m : xi_M), G_X8_surely_47 S n v0 v1 v2 v3 v4 v5 v6 m = some res → xi_X S (P_X8_surely S) (47, [some (.ref v0), some (.int v1), some (.int v2), some (.int v3), some (.int v4), some (.int v5), some (.int v6)], [], m) res := by
  intro n
  induction n with
  | zero => intro v0 v1 v2 v3 v4 v5 v6 m h; exact xi_no h
  | succ n ih =>
    intro v0 v1 v2 v3 v4 v5 v6 m h
    unfold G_X8_surely_47 at h
    refine xr_iload i_X8_surely_47 rfl (q := 49) rfl ?_
    refine xr_iload_n i_X8_surely_49 rfl (q := 50) rfl ?_
    by_cases c11 : v2 < v6
    · replace h := (if_pos c11).symm.trans h
      refine xr_if_icmp_gt_p i_X8_surely_50 c11 (q := 87) t_X8_surely_50 (q2 := 53) rfl ?_
      refine xr_iload i_X8_surely_87 rfl (q := 89) rfl ?_
      by_cases c5 : v5 = 0
      · replace h := (if_pos c5).symm.trans h
        refine xr_ifCond_ne_p i_X8_surely_89 c5 (q := 98) t_X8_surely_89 (q2 := 92) rfl ?_
        refine xr_aload_n i_X8_surely_92 rfl (q := 93) rfl ?_
        refine xr_iconst i_X8_surely_93 (q := 94) rfl ?_
        obtain ⟨x4, m3, em3, h⟩ := xi_bI_some h
        refine xr_VI i_X8_surely_94 xcve_X8_83 rfl (As := [.ref v0, .int (Int32.ofInt 4)]) rfl (rest := []) rfl ((cc_X8_surely_83 S _ _ _).trans em3) (q := 97) rfl ?_
        exact xr_ireturn i_X8_surely_97 rfl h
      · replace h := (if_neg c5).symm.trans h
        refine xr_ifCond_ne_n i_X8_surely_89 c5 (q := 98) t_X8_surely_89 (q2 := 92) rfl ?_
        refine xr_aload_n i_X8_surely_98 rfl (q := 99) rfl ?_
        refine xr_iload_n i_X8_surely_99 rfl (q := 100) rfl ?_
        refine xr_iload i_X8_surely_100 rfl (q := 102) rfl ?_
        refine xr_iconst i_X8_surely_102 (q := 103) rfl ?_
        refine xr_ixor i_X8_surely_103 (q := 104) rfl ?_
        refine xr_iand i_X8_surely_104 (q := 105) rfl ?_
        obtain ⟨x2, m1, em1, h⟩ := xi_bI_some h
        refine xr_VI i_X8_surely_105 xcve_X8_89 rfl (As := [.ref v0, .int (v2 &&& (v4 ^^^ (Int32.ofInt (-1))))]) rfl (rest := []) rfl ((cc_X8_surely_89 S _ _ _).trans em1) (q := 108) rfl ?_
        refine xr_pop i_X8_surely_108 (q := 109) rfl ?_
        refine xr_iload_n i_X8_surely_109 rfl (q := 110) rfl ?_
        exact xr_ireturn i_X8_surely_110 rfl h
    · replace h := (if_neg c11).symm.trans h
      refine xr_if_icmp_gt_n i_X8_surely_50 c11 (q := 87) t_X8_surely_50 (q2 := 53) rfl ?_
      refine xr_aload_n i_X8_surely_53 rfl (q := 54) rfl ?_
      obtain ⟨c6, h⟩ := xi_if_some h
      obtain ⟨b7, eb7, h⟩ := xi_bind_some h
      refine xr_getR i_X8_surely_54 xfe_X8_21 c6 eb7 (q := 57) rfl ?_
      refine xr_iload i_X8_surely_57 rfl (q := 59) rfl ?_
      obtain ⟨x9, m8, em8, h⟩ := xi_bI_some h
      refine xr_VI i_X8_surely_59 xcve_X8_278 rfl (As := [.ref b7, .int v6]) rfl (rest := []) rfl ((cc_X8_surely_278 S _ _ _).trans em8) (q := 62) rfl ?_
      refine xr_iload_n i_X8_surely_62 rfl (q := 63) rfl ?_
      by_cases c10 : x9 = v1
      · replace h := (if_pos c10).symm.trans h
        refine xr_if_icmp_ne_p i_X8_surely_63 c10 (q := 81) t_X8_surely_63 (q2 := 66) rfl ?_
        refine xr_iconst i_X8_surely_66 (q := 67) rfl ?_
        refine xr_istore i_X8_surely_67 rfl (L2 := [some (.ref v0), some (.int v1), some (.int v2), some (.int v3), some (.int v4), some (.int (Int32.ofInt 1)), some (.int v6)]) rfl (q := 69) rfl ?_
        refine xr_iload_n i_X8_surely_69 rfl (q := 70) rfl ?_
        refine xr_iload i_X8_surely_70 rfl (q := 72) rfl ?_
        refine xr_iand i_X8_surely_72 (q := 73) rfl ?_
        refine xr_istore_n i_X8_surely_73 rfl (L2 := [some (.ref v0), some (.int v1), some (.int v2), some (.int (v3 &&& v6)), some (.int v4), some (.int (Int32.ofInt 1)), some (.int v6)]) rfl (q := 74) rfl ?_
        refine xr_iload i_X8_surely_74 rfl (q := 76) rfl ?_
        refine xr_iload i_X8_surely_76 rfl (q := 78) rfl ?_
        refine xr_ior i_X8_surely_78 (q := 79) rfl ?_
        refine xr_istore i_X8_surely_79 rfl (L2 := [some (.ref v0), some (.int v1), some (.int v2), some (.int (v3 &&& v6)), some (.int (v4 ||| v6)), some (.int (Int32.ofInt 1)), some (.int v6)]) rfl (q := 81) rfl ?_
        refine xr_iinc i_X8_surely_81 rfl rfl (L2 := [some (.ref v0), some (.int v1), some (.int v2), some (.int (v3 &&& v6)), some (.int (v4 ||| v6)), some (.int (Int32.ofInt 1)), some (.int (v6 + Int32.ofInt 1))]) rfl (q := 84) rfl ?_
        refine xr_goto i_X8_surely_84 (q := 47) t_X8_surely_84 ?_
        exact xi_X_le (xi_le_s (xi_le_s (xi_le_s (xi_le_s (xi_le_s (xi_le_s (xi_le_s xi_le_z))))))) (ih _ _ _ _ _ _ _ _ h)
      · replace h := (if_neg c10).symm.trans h
        refine xr_if_icmp_ne_n i_X8_surely_63 c10 (q := 81) t_X8_surely_63 (q2 := 66) rfl ?_
        refine xr_iinc i_X8_surely_81 rfl rfl (L2 := [some (.ref v0), some (.int v1), some (.int v2), some (.int v3), some (.int v4), some (.int v5), some (.int (v6 + Int32.ofInt 1))]) rfl (q := 84) rfl ?_
        refine xr_goto i_X8_surely_84 (q := 47) t_X8_surely_84 ?_
        exact xi_X_le (xi_le_s (xi_le_s (xi_le_s (xi_le_s (xi_le_s (xi_le_s (xi_le_s xi_le_z))))))) (ih _ _ _ _ _ _ _ _ h)
def E_X8_surely (S : xi_S) (v0 : Nat) (v1 : Int32) (m : xi_M) : Option xi_R :=
  xi_bI (E_X8_within S v1 ((Int8.ofInt 54).toInt32) m) fun x2 m1 =>
  if x2 = 0 then
    some (some (.int (Int32.ofInt (-1))), m1)
  else
    if S.1 v0 = 10 then (S.2.2 v0 2).bind fun b4 =>
      if S.1 b4 = 8 then
        if (m1.1 b4 1) = 0 then
          some (some (.int ((Int8.ofInt (-4)).toInt32)), m1)
        else
          if S.1 v0 = 10 then (S.2.2 v0 2).bind fun b7 =>
            if S.1 b7 = 8 then
              G_X8_surely_47 S 10000 v0 v1 (((Int32.ofInt 1) <<< ((m1.1 b7 1) &&& 31)) - (Int32.ofInt 1)) (((Int32.ofInt 1) <<< ((m1.1 b7 1) &&& 31)) - (Int32.ofInt 1)) (Int32.ofInt 0) (Int32.ofInt 0) (Int32.ofInt 0) m1
            else none
          else none
      else none
    else none
def F_X8_surely (S : xi_S) : xi_F := fun As m => match As with
  | [.ref v0, .int v1] => E_X8_surely S v0 v1 m
  | _ => none
set_option maxRecDepth 100000 in
set_option maxHeartbeats 4000000 in
theorem xe_X8_surely {S : xi_S} {res : xi_R} (v0 : Nat) (v1 : Int32) (m : xi_M) (h : E_X8_surely S v0 v1 m = some res) : xi_X S (P_X8_surely S) (0, [some (.ref v0), some (.int v1), none, none, none, none, none], [], m) res := by
  unfold E_X8_surely at h
  refine xr_iload_n i_X8_surely_0 rfl (q := 1) rfl ?_
  refine xr_bipush i_X8_surely_1 (q := 3) rfl ?_
  obtain ⟨x2, m1, em1, h⟩ := xi_bI_some h
  refine xr_SI i_X8_surely_3 xcse_X8_71 rfl (As := [.int v1, .int ((Int8.ofInt 54).toInt32)]) rfl (rest := []) rfl ((cc_X8_surely_71 S _ _ _).trans em1) (q := 6) rfl ?_
  by_cases c10 : x2 = 0
  · replace h := (if_pos c10).symm.trans h
    refine xr_ifCond_ne_p i_X8_surely_6 c10 (q := 11) t_X8_surely_6 (q2 := 9) rfl ?_
    refine xr_iconst i_X8_surely_9 (q := 10) rfl ?_
    exact xr_ireturn i_X8_surely_10 rfl h
  · replace h := (if_neg c10).symm.trans h
    refine xr_ifCond_ne_n i_X8_surely_6 c10 (q := 11) t_X8_surely_6 (q2 := 9) rfl ?_
    refine xr_aload_n i_X8_surely_11 rfl (q := 12) rfl ?_
    obtain ⟨c3, h⟩ := xi_if_some h
    obtain ⟨b4, eb4, h⟩ := xi_bind_some h
    refine xr_getR i_X8_surely_12 xfe_X8_21 c3 eb4 (q := 15) rfl ?_
    obtain ⟨c5, h⟩ := xi_if_some h
    refine xr_getI i_X8_surely_15 xfe_X8_129 c5 (q := 18) rfl ?_
    by_cases c9 : (m1.1 b4 1) = 0
    · replace h := (if_pos c9).symm.trans h
      refine xr_ifCond_ne_p i_X8_surely_18 c9 (q := 24) t_X8_surely_18 (q2 := 21) rfl ?_
      refine xr_bipush i_X8_surely_21 (q := 23) rfl ?_
      exact xr_ireturn i_X8_surely_23 rfl h
    · replace h := (if_neg c9).symm.trans h
      refine xr_ifCond_ne_n i_X8_surely_18 c9 (q := 24) t_X8_surely_18 (q2 := 21) rfl ?_
      refine xr_iconst i_X8_surely_24 (q := 25) rfl ?_
      refine xr_aload_n i_X8_surely_25 rfl (q := 26) rfl ?_
      obtain ⟨c6, h⟩ := xi_if_some h
      obtain ⟨b7, eb7, h⟩ := xi_bind_some h
      refine xr_getR i_X8_surely_26 xfe_X8_21 c6 eb7 (q := 29) rfl ?_
      obtain ⟨c8, h⟩ := xi_if_some h
      refine xr_getI i_X8_surely_29 xfe_X8_129 c8 (q := 32) rfl ?_
      refine xr_ishl i_X8_surely_32 (q := 33) rfl ?_
      refine xr_iconst i_X8_surely_33 (q := 34) rfl ?_
      refine xr_isub i_X8_surely_34 (q := 35) rfl ?_
      refine xr_istore_n i_X8_surely_35 rfl (L2 := [some (.ref v0), some (.int v1), some (.int (((Int32.ofInt 1) <<< ((m1.1 b7 1) &&& 31)) - (Int32.ofInt 1))), none, none, none, none]) rfl (q := 36) rfl ?_
      refine xr_iload_n i_X8_surely_36 rfl (q := 37) rfl ?_
      refine xr_istore_n i_X8_surely_37 rfl (L2 := [some (.ref v0), some (.int v1), some (.int (((Int32.ofInt 1) <<< ((m1.1 b7 1) &&& 31)) - (Int32.ofInt 1))), some (.int (((Int32.ofInt 1) <<< ((m1.1 b7 1) &&& 31)) - (Int32.ofInt 1))), none, none, none]) rfl (q := 38) rfl ?_
      refine xr_iconst i_X8_surely_38 (q := 39) rfl ?_
      refine xr_istore i_X8_surely_39 rfl (L2 := [some (.ref v0), some (.int v1), some (.int (((Int32.ofInt 1) <<< ((m1.1 b7 1) &&& 31)) - (Int32.ofInt 1))), some (.int (((Int32.ofInt 1) <<< ((m1.1 b7 1) &&& 31)) - (Int32.ofInt 1))), some (.int (Int32.ofInt 0)), none, none]) rfl (q := 41) rfl ?_
      refine xr_iconst i_X8_surely_41 (q := 42) rfl ?_
      refine xr_istore i_X8_surely_42 rfl (L2 := [some (.ref v0), some (.int v1), some (.int (((Int32.ofInt 1) <<< ((m1.1 b7 1) &&& 31)) - (Int32.ofInt 1))), some (.int (((Int32.ofInt 1) <<< ((m1.1 b7 1) &&& 31)) - (Int32.ofInt 1))), some (.int (Int32.ofInt 0)), some (.int (Int32.ofInt 0)), none]) rfl (q := 44) rfl ?_
      refine xr_iconst i_X8_surely_44 (q := 45) rfl ?_
      refine xr_istore i_X8_surely_45 rfl (L2 := [some (.ref v0), some (.int v1), some (.int (((Int32.ofInt 1) <<< ((m1.1 b7 1) &&& 31)) - (Int32.ofInt 1))), some (.int (((Int32.ofInt 1) <<< ((m1.1 b7 1) &&& 31)) - (Int32.ofInt 1))), some (.int (Int32.ofInt 0)), some (.int (Int32.ofInt 0)), some (.int (Int32.ofInt 0))]) rfl (q := 47) rfl ?_
      exact xi_X_le (xi_le_s (xi_le_s (xi_le_s (xi_le_s (xi_le_s (xi_le_s (xi_le_s xi_le_z))))))) (xs_X8_surely_47 10000 _ _ _ _ _ _ _ _ h)
set_option maxRecDepth 100000 in
theorem po_X8_surely {l : Launch} {E : xi_E} {S : xi_S} {D : va_G} {tys : List (ClassId × FieldType)} (hC : xCx E S tys) : xi_Pok l E S D vwCl tys xNs RX8 xTs cX8_surely 7 1 (P_X8_surely S) := ⟨xi_dc_ok, by rw [hC.2]; exact xfo_X8, xkio_X8, xklo_X8, xi_calls_ok (ins := .invokestatic) (List.forall_mem_cons.mpr ⟨(xc_X8_71 (sn_X8_within hC) (by decide)), fun _ h => absurd h List.not_mem_nil⟩), xi_calls_ok (ins := .invokevirtual) (List.forall_mem_cons.mpr ⟨(xc_X8_83 hC.1 (sn_X8_refuse hC) (by decide)), List.forall_mem_cons.mpr ⟨(xc_X8_89 hC.1 (sn_X8_answer hC) (by decide)), List.forall_mem_cons.mpr ⟨(xc_X8_278 hC.1 (sn_X6_strengthOf hC) (by decide)), fun _ h => absurd h List.not_mem_nil⟩⟩⟩)⟩
theorem sn_X8_surely {l : Launch} {E : xi_E} {S : xi_S} {D : va_G} {tys : List (ClassId × FieldType)} (hC : xCx E S tys) : ∀ As m1 r m2, F_X8_surely S As m1 = some (r, m2) → xi_Sound l E S D vwCl tys xNs xTs yX8_surely cX8_surely 7 (some .int) 1 As m1 r m2 := by
  intro As m1 r m2 h
  unfold F_X8_surely at h
  split at h
  · exact xi_meth (P := P_X8_surely S) (by decide) hC.1 (po_X8_surely hC) (Nat.le_of_ble_eq_true rfl) rfl (xe_X8_surely _ _ _ h)
  · exact xi_no h
theorem i_X8_duel_0 : xi_dc cX8_duel 0 = some (.iload_n 1, 1) := by decide +kernel
theorem i_X8_duel_1 : xi_dc cX8_duel 1 = some (.iconst 2, 1) := by decide +kernel
theorem i_X8_duel_2 : xi_dc cX8_duel 2 = some (.invokestatic 71, 3) := by decide +kernel
theorem i_X8_duel_5 : xi_dc cX8_duel 5 = some (.ifCond .ne 5, 3) := by decide +kernel
theorem t_X8_duel_5 : ((5 : Nat) : Int) + 5 = ((10 : Nat) : Int) := by decide +kernel
theorem i_X8_duel_8 : xi_dc cX8_duel 8 = some (.iconst (-1), 1) := by decide +kernel
theorem i_X8_duel_9 : xi_dc cX8_duel 9 = some (.ireturn, 1) := by decide +kernel
theorem i_X8_duel_10 : xi_dc cX8_duel 10 = some (.aload_n 0, 1) := by decide +kernel
theorem i_X8_duel_11 : xi_dc cX8_duel 11 = some (.getfield 21, 3) := by decide +kernel
theorem i_X8_duel_14 : xi_dc cX8_duel 14 = some (.getfield 129, 3) := by decide +kernel
theorem i_X8_duel_17 : xi_dc cX8_duel 17 = some (.ifCond .ne 6, 3) := by decide +kernel
theorem t_X8_duel_17 : ((17 : Nat) : Int) + 6 = ((23 : Nat) : Int) := by decide +kernel
theorem i_X8_duel_20 : xi_dc cX8_duel 20 = some (.bipush (-4), 2) := by decide +kernel
theorem i_X8_duel_22 : xi_dc cX8_duel 22 = some (.ireturn, 1) := by decide +kernel
theorem i_X8_duel_23 : xi_dc cX8_duel 23 = some (.aload_n 0, 1) := by decide +kernel
theorem i_X8_duel_24 : xi_dc cX8_duel 24 = some (.getfield 35, 3) := by decide +kernel
theorem i_X8_duel_27 : xi_dc cX8_duel 27 = some (.aload_n 0, 1) := by decide +kernel
theorem i_X8_duel_28 : xi_dc cX8_duel 28 = some (.getfield 21, 3) := by decide +kernel
theorem i_X8_duel_31 : xi_dc cX8_duel 31 = some (.invokevirtual 227, 3) := by decide +kernel
theorem i_X8_duel_34 : xi_dc cX8_duel 34 = some (.aload_n 0, 1) := by decide +kernel
theorem i_X8_duel_35 : xi_dc cX8_duel 35 = some (.aload_n 0, 1) := by decide +kernel
theorem i_X8_duel_36 : xi_dc cX8_duel 36 = some (.getfield 49, 3) := by decide +kernel
theorem i_X8_duel_39 : xi_dc cX8_duel 39 = some (.aload_n 0, 1) := by decide +kernel
theorem i_X8_duel_40 : xi_dc cX8_duel 40 = some (.getfield 21, 3) := by decide +kernel
theorem i_X8_duel_43 : xi_dc cX8_duel 43 = some (.aload_n 0, 1) := by decide +kernel
theorem i_X8_duel_44 : xi_dc cX8_duel 44 = some (.getfield 35, 3) := by decide +kernel
theorem i_X8_duel_47 : xi_dc cX8_duel 47 = some (.iconst 2, 1) := by decide +kernel
theorem i_X8_duel_48 : xi_dc cX8_duel 48 = some (.iload_n 1, 1) := by decide +kernel
theorem i_X8_duel_49 : xi_dc cX8_duel 49 = some (.imul, 1) := by decide +kernel
theorem i_X8_duel_50 : xi_dc cX8_duel 50 = some (.invokevirtual 281, 3) := by decide +kernel
theorem i_X8_duel_53 : xi_dc cX8_duel 53 = some (.invokevirtual 89, 3) := by decide +kernel
theorem i_X8_duel_56 : xi_dc cX8_duel 56 = some (.ireturn, 1) := by decide +kernel
def P_X8_duel (S : xi_S) : xi_P := (xi_dc cX8_duel, xi_tab xfl_X8, xi_tab xki_X8, xi_tab xkl_X8, xi_tab xcs_X8, xi_tab xcv_X8, xi_calls [(71, xi_wS 2 (F_X8_within S))], xi_calls [(89, xi_wV S 10 1 (F_X8_answer S)), (227, xi_wV S 4 1 (F_X1_take S)), (281, xi_wV S 5 3 (F_X2_outcome S))], 1)
theorem cc_X8_duel_71 (S : xi_S) (a0 : Int32) (a1 : Int32) (m : xi_M) : (P_X8_duel S).2.2.2.2.2.2.1 71 [.int a0, .int a1] m = (E_X8_within S a0 a1 m) := by
  show xi_calls [(71, xi_wS 2 (F_X8_within S))] 71 [.int a0, .int a1] m = _
  refine Eq.trans (b := xi_wS 2 (F_X8_within S) [.int a0, .int a1] m) (xi_calls_hit rfl) ?_
  exact xi_wS_eq rfl
theorem cc_X8_duel_89 (S : xi_S) (a0 : Nat) (a1 : Int32) (m : xi_M) : (P_X8_duel S).2.2.2.2.2.2.2.1 89 [.ref a0, .int a1] m = (if S.1 a0 = 10 then E_X8_answer S a0 a1 m else none) := by
  show xi_calls [(89, xi_wV S 10 1 (F_X8_answer S)), (227, xi_wV S 4 1 (F_X1_take S)), (281, xi_wV S 5 3 (F_X2_outcome S))] 89 [.ref a0, .int a1] m = _
  refine Eq.trans (b := xi_wV S 10 1 (F_X8_answer S) [.ref a0, .int a1] m) (xi_calls_hit rfl) ?_
  exact xi_wV_eq rfl
theorem cc_X8_duel_227 (S : xi_S) (a0 : Nat) (a1 : Nat) (m : xi_M) : (P_X8_duel S).2.2.2.2.2.2.2.1 227 [.ref a0, .ref a1] m = (if S.1 a0 = 4 then E_X1_take S a0 a1 m else none) := by
  show xi_calls [(89, xi_wV S 10 1 (F_X8_answer S)), (227, xi_wV S 4 1 (F_X1_take S)), (281, xi_wV S 5 3 (F_X2_outcome S))] 227 [.ref a0, .ref a1] m = _
  refine Eq.trans (b := xi_calls [(227, xi_wV S 4 1 (F_X1_take S)), (281, xi_wV S 5 3 (F_X2_outcome S))] 227 [.ref a0, .ref a1] m) (xi_calls_miss rfl) ?_
  refine Eq.trans (b := xi_wV S 4 1 (F_X1_take S) [.ref a0, .ref a1] m) (xi_calls_hit rfl) ?_
  exact xi_wV_eq rfl
theorem cc_X8_duel_281 (S : xi_S) (a0 : Nat) (a1 : Nat) (a2 : Nat) (a3 : Int32) (m : xi_M) : (P_X8_duel S).2.2.2.2.2.2.2.1 281 [.ref a0, .ref a1, .ref a2, .int a3] m = (if S.1 a0 = 5 then E_X2_outcome S a0 a1 a2 a3 m else none) := by
  show xi_calls [(89, xi_wV S 10 1 (F_X8_answer S)), (227, xi_wV S 4 1 (F_X1_take S)), (281, xi_wV S 5 3 (F_X2_outcome S))] 281 [.ref a0, .ref a1, .ref a2, .int a3] m = _
  refine Eq.trans (b := xi_calls [(227, xi_wV S 4 1 (F_X1_take S)), (281, xi_wV S 5 3 (F_X2_outcome S))] 281 [.ref a0, .ref a1, .ref a2, .int a3] m) (xi_calls_miss rfl) ?_
  refine Eq.trans (b := xi_calls [(281, xi_wV S 5 3 (F_X2_outcome S))] 281 [.ref a0, .ref a1, .ref a2, .int a3] m) (xi_calls_miss rfl) ?_
  refine Eq.trans (b := xi_wV S 5 3 (F_X2_outcome S) [.ref a0, .ref a1, .ref a2, .int a3] m) (xi_calls_hit rfl) ?_
  exact xi_wV_eq rfl
def E_X8_duel (S : xi_S) (v0 : Nat) (v1 : Int32) (m : xi_M) : Option xi_R :=
  xi_bI (E_X8_within S v1 (Int32.ofInt 2) m) fun x2 m1 =>
  if x2 = 0 then
    some (some (.int (Int32.ofInt (-1))), m1)
  else
    if S.1 v0 = 10 then (S.2.2 v0 2).bind fun b4 =>
      if S.1 b4 = 8 then
        if (m1.1 b4 1) = 0 then
          some (some (.int ((Int8.ofInt (-4)).toInt32)), m1)
        else
          if S.1 v0 = 10 then (S.2.2 v0 5).bind fun b7 =>
            if S.1 v0 = 10 then (S.2.2 v0 2).bind fun b9 =>
              xi_bV (if S.1 b7 = 4 then E_X1_take S b7 b9 m1 else none) fun m10 =>
              if S.1 v0 = 10 then (S.2.2 v0 7).bind fun b12 =>
                if S.1 v0 = 10 then (S.2.2 v0 2).bind fun b14 =>
                  if S.1 v0 = 10 then (S.2.2 v0 5).bind fun b16 =>
                    xi_bI (if S.1 b12 = 5 then E_X2_outcome S b12 b14 b16 ((Int32.ofInt 2) * v1) m10 else none) fun x18 m17 =>
                    xi_bI (if S.1 v0 = 10 then E_X8_answer S v0 x18 m17 else none) fun x20 m19 =>
                    some (some (.int x20), m19)
                  else none
                else none
              else none
            else none
          else none
      else none
    else none
def F_X8_duel (S : xi_S) : xi_F := fun As m => match As with
  | [.ref v0, .int v1] => E_X8_duel S v0 v1 m
  | _ => none
set_option maxRecDepth 100000 in
set_option maxHeartbeats 4000000 in
theorem xe_X8_duel {S : xi_S} {res : xi_R} (v0 : Nat) (v1 : Int32) (m : xi_M) (h : E_X8_duel S v0 v1 m = some res) : xi_X S (P_X8_duel S) (0, [some (.ref v0), some (.int v1)], [], m) res := by
  unfold E_X8_duel at h
  refine xr_iload_n i_X8_duel_0 rfl (q := 1) rfl ?_
  refine xr_iconst i_X8_duel_1 (q := 2) rfl ?_
  obtain ⟨x2, m1, em1, h⟩ := xi_bI_some h
  refine xr_SI i_X8_duel_2 xcse_X8_71 rfl (As := [.int v1, .int (Int32.ofInt 2)]) rfl (rest := []) rfl ((cc_X8_duel_71 S _ _ _).trans em1) (q := 5) rfl ?_
  by_cases c22 : x2 = 0
  · replace h := (if_pos c22).symm.trans h
    refine xr_ifCond_ne_p i_X8_duel_5 c22 (q := 10) t_X8_duel_5 (q2 := 8) rfl ?_
    refine xr_iconst i_X8_duel_8 (q := 9) rfl ?_
    exact xr_ireturn i_X8_duel_9 rfl h
  · replace h := (if_neg c22).symm.trans h
    refine xr_ifCond_ne_n i_X8_duel_5 c22 (q := 10) t_X8_duel_5 (q2 := 8) rfl ?_
    refine xr_aload_n i_X8_duel_10 rfl (q := 11) rfl ?_
    obtain ⟨c3, h⟩ := xi_if_some h
    obtain ⟨b4, eb4, h⟩ := xi_bind_some h
    refine xr_getR i_X8_duel_11 xfe_X8_21 c3 eb4 (q := 14) rfl ?_
    obtain ⟨c5, h⟩ := xi_if_some h
    refine xr_getI i_X8_duel_14 xfe_X8_129 c5 (q := 17) rfl ?_
    by_cases c21 : (m1.1 b4 1) = 0
    · replace h := (if_pos c21).symm.trans h
      refine xr_ifCond_ne_p i_X8_duel_17 c21 (q := 23) t_X8_duel_17 (q2 := 20) rfl ?_
      refine xr_bipush i_X8_duel_20 (q := 22) rfl ?_
      exact xr_ireturn i_X8_duel_22 rfl h
    · replace h := (if_neg c21).symm.trans h
      refine xr_ifCond_ne_n i_X8_duel_17 c21 (q := 23) t_X8_duel_17 (q2 := 20) rfl ?_
      refine xr_aload_n i_X8_duel_23 rfl (q := 24) rfl ?_
      obtain ⟨c6, h⟩ := xi_if_some h
      obtain ⟨b7, eb7, h⟩ := xi_bind_some h
      refine xr_getR i_X8_duel_24 xfe_X8_35 c6 eb7 (q := 27) rfl ?_
      refine xr_aload_n i_X8_duel_27 rfl (q := 28) rfl ?_
      obtain ⟨c8, h⟩ := xi_if_some h
      obtain ⟨b9, eb9, h⟩ := xi_bind_some h
      refine xr_getR i_X8_duel_28 xfe_X8_21 c8 eb9 (q := 31) rfl ?_
      obtain ⟨m10, em10, h⟩ := xi_bV_some h
      refine xr_VV i_X8_duel_31 xcve_X8_227 rfl (As := [.ref b7, .ref b9]) rfl (rest := []) rfl ((cc_X8_duel_227 S _ _ _).trans em10) (q := 34) rfl ?_
      refine xr_aload_n i_X8_duel_34 rfl (q := 35) rfl ?_
      refine xr_aload_n i_X8_duel_35 rfl (q := 36) rfl ?_
      obtain ⟨c11, h⟩ := xi_if_some h
      obtain ⟨b12, eb12, h⟩ := xi_bind_some h
      refine xr_getR i_X8_duel_36 xfe_X8_49 c11 eb12 (q := 39) rfl ?_
      refine xr_aload_n i_X8_duel_39 rfl (q := 40) rfl ?_
      obtain ⟨c13, h⟩ := xi_if_some h
      obtain ⟨b14, eb14, h⟩ := xi_bind_some h
      refine xr_getR i_X8_duel_40 xfe_X8_21 c13 eb14 (q := 43) rfl ?_
      refine xr_aload_n i_X8_duel_43 rfl (q := 44) rfl ?_
      obtain ⟨c15, h⟩ := xi_if_some h
      obtain ⟨b16, eb16, h⟩ := xi_bind_some h
      refine xr_getR i_X8_duel_44 xfe_X8_35 c15 eb16 (q := 47) rfl ?_
      refine xr_iconst i_X8_duel_47 (q := 48) rfl ?_
      refine xr_iload_n i_X8_duel_48 rfl (q := 49) rfl ?_
      refine xr_imul i_X8_duel_49 (q := 50) rfl ?_
      obtain ⟨x18, m17, em17, h⟩ := xi_bI_some h
      refine xr_VI i_X8_duel_50 xcve_X8_281 rfl (As := [.ref b12, .ref b14, .ref b16, .int ((Int32.ofInt 2) * v1)]) rfl (rest := [.ref v0]) rfl ((cc_X8_duel_281 S _ _ _ _ _).trans em17) (q := 53) rfl ?_
      obtain ⟨x20, m19, em19, h⟩ := xi_bI_some h
      refine xr_VI i_X8_duel_53 xcve_X8_89 rfl (As := [.ref v0, .int x18]) rfl (rest := []) rfl ((cc_X8_duel_89 S _ _ _).trans em19) (q := 56) rfl ?_
      exact xr_ireturn i_X8_duel_56 rfl h
set_option maxRecDepth 100000 in
theorem po_X8_duel {l : Launch} {E : xi_E} {S : xi_S} {D : va_G} {tys : List (ClassId × FieldType)} (hC : xCx E S tys) : xi_Pok l E S D vwCl tys xNs RX8 xTs cX8_duel 2 11 (P_X8_duel S) := ⟨xi_dc_ok, by rw [hC.2]; exact xfo_X8, xkio_X8, xklo_X8, xi_calls_ok (ins := .invokestatic) (List.forall_mem_cons.mpr ⟨(xc_X8_71 (sn_X8_within hC) (by decide)), fun _ h => absurd h List.not_mem_nil⟩), xi_calls_ok (ins := .invokevirtual) (List.forall_mem_cons.mpr ⟨(xc_X8_89 hC.1 (sn_X8_answer hC) (by decide)), List.forall_mem_cons.mpr ⟨(xc_X8_227 hC.1 (sn_X1_take hC) (by decide)), List.forall_mem_cons.mpr ⟨(xc_X8_281 hC.1 (sn_X2_outcome hC) (by decide)), fun _ h => absurd h List.not_mem_nil⟩⟩⟩)⟩
theorem sn_X8_duel {l : Launch} {E : xi_E} {S : xi_S} {D : va_G} {tys : List (ClassId × FieldType)} (hC : xCx E S tys) : ∀ As m1 r m2, F_X8_duel S As m1 = some (r, m2) → xi_Sound l E S D vwCl tys xNs xTs yX8_duel cX8_duel 2 (some .int) 11 As m1 r m2 := by
  intro As m1 r m2 h
  unfold F_X8_duel at h
  split at h
  · exact xi_meth (P := P_X8_duel S) (by decide) hC.1 (po_X8_duel hC) (Nat.le_of_ble_eq_true rfl) rfl (xe_X8_duel _ _ _ h)
  · exact xi_no h
