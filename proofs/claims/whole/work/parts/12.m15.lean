theorem i_X9_strengthOf_0 : xi_dc cX9_strengthOf 0 = some (.iconst 0, 1) := by decide +kernel
theorem i_X9_strengthOf_1 : xi_dc cX9_strengthOf 1 = some (.istore_n 2, 1) := by decide +kernel
theorem i_X9_strengthOf_2 : xi_dc cX9_strengthOf 2 = some (.iconst 0, 1) := by decide +kernel
theorem i_X9_strengthOf_3 : xi_dc cX9_strengthOf 3 = some (.istore_n 3, 1) := by decide +kernel
theorem i_X9_strengthOf_4 : xi_dc cX9_strengthOf 4 = some (.iload_n 3, 1) := by decide +kernel
theorem i_X9_strengthOf_5 : xi_dc cX9_strengthOf 5 = some (.aload_n 0, 1) := by decide +kernel
theorem i_X9_strengthOf_6 : xi_dc cX9_strengthOf 6 = some (.getfield 25, 3) := by decide +kernel
theorem i_X9_strengthOf_9 : xi_dc cX9_strengthOf 9 = some (.iconst 1, 1) := by decide +kernel
theorem i_X9_strengthOf_10 : xi_dc cX9_strengthOf 10 = some (.iaload, 1) := by decide +kernel
theorem i_X9_strengthOf_11 : xi_dc cX9_strengthOf 11 = some (.if_icmp .ge 37, 3) := by decide +kernel
theorem t_X9_strengthOf_11 : ((11 : Nat) : Int) + 37 = ((48 : Nat) : Int) := by decide +kernel
theorem i_X9_strengthOf_14 : xi_dc cX9_strengthOf 14 = some (.iload_n 2, 1) := by decide +kernel
theorem i_X9_strengthOf_15 : xi_dc cX9_strengthOf 15 = some (.iload_n 1, 1) := by decide +kernel
theorem i_X9_strengthOf_16 : xi_dc cX9_strengthOf 16 = some (.iload_n 3, 1) := by decide +kernel
theorem i_X9_strengthOf_17 : xi_dc cX9_strengthOf 17 = some (.invokestatic 221, 3) := by decide +kernel
theorem i_X9_strengthOf_20 : xi_dc cX9_strengthOf 20 = some (.ifCond .eq 19, 3) := by decide +kernel
theorem t_X9_strengthOf_20 : ((20 : Nat) : Int) + 19 = ((39 : Nat) : Int) := by decide +kernel
theorem i_X9_strengthOf_23 : xi_dc cX9_strengthOf 23 = some (.aload_n 0, 1) := by decide +kernel
theorem i_X9_strengthOf_24 : xi_dc cX9_strengthOf 24 = some (.getfield 25, 3) := by decide +kernel
theorem i_X9_strengthOf_27 : xi_dc cX9_strengthOf 27 = some (.bipush 10, 2) := by decide +kernel
theorem i_X9_strengthOf_29 : xi_dc cX9_strengthOf 29 = some (.iconst 4, 1) := by decide +kernel
theorem i_X9_strengthOf_30 : xi_dc cX9_strengthOf 30 = some (.iload_n 3, 1) := by decide +kernel
theorem i_X9_strengthOf_31 : xi_dc cX9_strengthOf 31 = some (.imul, 1) := by decide +kernel
theorem i_X9_strengthOf_32 : xi_dc cX9_strengthOf 32 = some (.iadd, 1) := by decide +kernel
theorem i_X9_strengthOf_33 : xi_dc cX9_strengthOf 33 = some (.iconst 3, 1) := by decide +kernel
theorem i_X9_strengthOf_34 : xi_dc cX9_strengthOf 34 = some (.iadd, 1) := by decide +kernel
theorem i_X9_strengthOf_35 : xi_dc cX9_strengthOf 35 = some (.iaload, 1) := by decide +kernel
theorem i_X9_strengthOf_36 : xi_dc cX9_strengthOf 36 = some (.goto 4, 3) := by decide +kernel
theorem t_X9_strengthOf_36 : ((36 : Nat) : Int) + 4 = ((40 : Nat) : Int) := by decide +kernel
theorem i_X9_strengthOf_39 : xi_dc cX9_strengthOf 39 = some (.iconst 0, 1) := by decide +kernel
theorem i_X9_strengthOf_40 : xi_dc cX9_strengthOf 40 = some (.iadd, 1) := by decide +kernel
theorem i_X9_strengthOf_41 : xi_dc cX9_strengthOf 41 = some (.istore_n 2, 1) := by decide +kernel
theorem i_X9_strengthOf_42 : xi_dc cX9_strengthOf 42 = some (.iinc 3 1, 3) := by decide +kernel
theorem i_X9_strengthOf_45 : xi_dc cX9_strengthOf 45 = some (.goto (-41), 3) := by decide +kernel
theorem t_X9_strengthOf_45 : ((45 : Nat) : Int) + (-41) = ((4 : Nat) : Int) := by decide +kernel
theorem i_X9_strengthOf_48 : xi_dc cX9_strengthOf 48 = some (.iload_n 2, 1) := by decide +kernel
theorem i_X9_strengthOf_49 : xi_dc cX9_strengthOf 49 = some (.ireturn, 1) := by decide +kernel
def P_X9_strengthOf (S : xi_S) : xi_P := (xi_dc cX9_strengthOf, xi_tab xfl_X9, xi_tab xki_X9, xi_tab xkl_X9, xi_tab xcs_X9, xi_tab xcv_X9, xi_calls [(221, xi_wS 2 (F_X9_has S))], xi_calls [], 1)
theorem cc_X9_strengthOf_221 (S : xi_S) (a0 : Int32) (a1 : Int32) (m : xi_M) : (P_X9_strengthOf S).2.2.2.2.2.2.1 221 [.int a0, .int a1] m = (E_X9_has S a0 a1 m) := by
  show xi_calls [(221, xi_wS 2 (F_X9_has S))] 221 [.int a0, .int a1] m = _
  refine Eq.trans (b := xi_wS 2 (F_X9_has S) [.int a0, .int a1] m) (xi_calls_hit rfl) ?_
  exact xi_wS_eq rfl
def G_X9_strengthOf_4 (S : xi_S) : Nat → Nat → Int32 → Int32 → Int32 → xi_M → Option xi_R
  | 0, _, _, _, _, _ => none
  | n + 1, v0, v1, v2, v3, m =>
    if S.1 v0 = 11 then (S.2.2 v0 5).bind fun b2 =>
      if S.1 b2 = 0 ∧ ¬ ((Int32.ofInt 1) < 0 ∨ S.2.1 b2 ≤ Int32.toNatClampNeg (Int32.ofInt 1)) then
        if (m.1 b2 (Int32.toNatClampNeg (Int32.ofInt 1))) ≤ v3 then
          some (some (.int v2), m)
        else
          xi_bI (E_X9_has S v1 v3 m) fun x5 m4 =>
          if x5 = 0 then
            G_X9_strengthOf_4 S n v0 v1 (v2 + (Int32.ofInt 0)) (v3 + Int32.ofInt 1) m4
          else
            if S.1 v0 = 11 then (S.2.2 v0 5).bind fun b7 =>
              if S.1 b7 = 0 ∧ ¬ (((((Int8.ofInt 10).toInt32) + ((Int32.ofInt 4) * v3)) + (Int32.ofInt 3)) < 0 ∨ S.2.1 b7 ≤ Int32.toNatClampNeg ((((Int8.ofInt 10).toInt32) + ((Int32.ofInt 4) * v3)) + (Int32.ofInt 3))) then
                G_X9_strengthOf_4 S n v0 v1 (v2 + (m4.1 b7 (Int32.toNatClampNeg ((((Int8.ofInt 10).toInt32) + ((Int32.ofInt 4) * v3)) + (Int32.ofInt 3))))) (v3 + Int32.ofInt 1) m4
              else none
            else none
      else none
    else none
set_option maxRecDepth 100000 in
set_option maxHeartbeats 4000000 in
theorem xs_X9_strengthOf_4 {S : xi_S} {res : xi_R} : ∀ (n : Nat) (v0 : Nat) (v1 : Int32) (v2 : Int32) (v3 : Int32) (m : xi_M), G_X9_strengthOf_4 S n v0 v1 v2 v3 m = some res → xi_X S (P_X9_strengthOf S) (4, [some (.ref v0), some (.int v1), some (.int v2), some (.int v3)], [], m) res := by
  intro n
  induction n with
  | zero => intro v0 v1 v2 v3 m h; exact xi_no h
  | succ n ih =>
    intro v0 v1 v2 v3 m h
    unfold G_X9_strengthOf_4 at h
    refine xr_iload_n i_X9_strengthOf_4 rfl (q := 5) rfl ?_
    refine xr_aload_n i_X9_strengthOf_5 rfl (q := 6) rfl ?_
    obtain ⟨c1, h⟩ := xi_if_some h
    obtain ⟨b2, eb2, h⟩ := xi_bind_some h
    refine xr_getR i_X9_strengthOf_6 xfe_X9_25 c1 eb2 (q := 9) rfl ?_
    refine xr_iconst i_X9_strengthOf_9 (q := 10) rfl ?_
    obtain ⟨c3, h⟩ := xi_if_some h
    refine xr_iaload i_X9_strengthOf_10 c3 (q := 11) rfl ?_
    by_cases c10 : (m.1 b2 (Int32.toNatClampNeg (Int32.ofInt 1))) ≤ v3
    · replace h := (if_pos c10).symm.trans h
      refine xr_if_icmp_ge_p i_X9_strengthOf_11 c10 (q := 48) t_X9_strengthOf_11 (q2 := 14) rfl ?_
      refine xr_iload_n i_X9_strengthOf_48 rfl (q := 49) rfl ?_
      exact xr_ireturn i_X9_strengthOf_49 rfl h
    · replace h := (if_neg c10).symm.trans h
      refine xr_if_icmp_ge_n i_X9_strengthOf_11 c10 (q := 48) t_X9_strengthOf_11 (q2 := 14) rfl ?_
      refine xr_iload_n i_X9_strengthOf_14 rfl (q := 15) rfl ?_
      refine xr_iload_n i_X9_strengthOf_15 rfl (q := 16) rfl ?_
      refine xr_iload_n i_X9_strengthOf_16 rfl (q := 17) rfl ?_
      obtain ⟨x5, m4, em4, h⟩ := xi_bI_some h
      refine xr_SI i_X9_strengthOf_17 xcse_X9_221 rfl (As := [.int v1, .int v3]) rfl (rest := [.int v2]) rfl ((cc_X9_strengthOf_221 S _ _ _).trans em4) (q := 20) rfl ?_
      by_cases c9 : x5 = 0
      · replace h := (if_pos c9).symm.trans h
        refine xr_ifCond_eq_p i_X9_strengthOf_20 c9 (q := 39) t_X9_strengthOf_20 (q2 := 23) rfl ?_
        refine xr_iconst i_X9_strengthOf_39 (q := 40) rfl ?_
        refine xr_iadd i_X9_strengthOf_40 (q := 41) rfl ?_
        refine xr_istore_n i_X9_strengthOf_41 rfl (L2 := [some (.ref v0), some (.int v1), some (.int (v2 + (Int32.ofInt 0))), some (.int v3)]) rfl (q := 42) rfl ?_
        refine xr_iinc i_X9_strengthOf_42 rfl rfl (L2 := [some (.ref v0), some (.int v1), some (.int (v2 + (Int32.ofInt 0))), some (.int (v3 + Int32.ofInt 1))]) rfl (q := 45) rfl ?_
        refine xr_goto i_X9_strengthOf_45 (q := 4) t_X9_strengthOf_45 ?_
        exact xi_X_le (xi_le_s (xi_le_s (xi_le_s (xi_le_s xi_le_z)))) (ih _ _ _ _ _ h)
      · replace h := (if_neg c9).symm.trans h
        refine xr_ifCond_eq_n i_X9_strengthOf_20 c9 (q := 39) t_X9_strengthOf_20 (q2 := 23) rfl ?_
        refine xr_aload_n i_X9_strengthOf_23 rfl (q := 24) rfl ?_
        obtain ⟨c6, h⟩ := xi_if_some h
        obtain ⟨b7, eb7, h⟩ := xi_bind_some h
        refine xr_getR i_X9_strengthOf_24 xfe_X9_25 c6 eb7 (q := 27) rfl ?_
        refine xr_bipush i_X9_strengthOf_27 (q := 29) rfl ?_
        refine xr_iconst i_X9_strengthOf_29 (q := 30) rfl ?_
        refine xr_iload_n i_X9_strengthOf_30 rfl (q := 31) rfl ?_
        refine xr_imul i_X9_strengthOf_31 (q := 32) rfl ?_
        refine xr_iadd i_X9_strengthOf_32 (q := 33) rfl ?_
        refine xr_iconst i_X9_strengthOf_33 (q := 34) rfl ?_
        refine xr_iadd i_X9_strengthOf_34 (q := 35) rfl ?_
        obtain ⟨c8, h⟩ := xi_if_some h
        refine xr_iaload i_X9_strengthOf_35 c8 (q := 36) rfl ?_
        refine xr_goto i_X9_strengthOf_36 (q := 40) t_X9_strengthOf_36 ?_
        refine xr_iadd i_X9_strengthOf_40 (q := 41) rfl ?_
        refine xr_istore_n i_X9_strengthOf_41 rfl (L2 := [some (.ref v0), some (.int v1), some (.int (v2 + (m4.1 b7 (Int32.toNatClampNeg ((((Int8.ofInt 10).toInt32) + ((Int32.ofInt 4) * v3)) + (Int32.ofInt 3)))))), some (.int v3)]) rfl (q := 42) rfl ?_
        refine xr_iinc i_X9_strengthOf_42 rfl rfl (L2 := [some (.ref v0), some (.int v1), some (.int (v2 + (m4.1 b7 (Int32.toNatClampNeg ((((Int8.ofInt 10).toInt32) + ((Int32.ofInt 4) * v3)) + (Int32.ofInt 3)))))), some (.int (v3 + Int32.ofInt 1))]) rfl (q := 45) rfl ?_
        refine xr_goto i_X9_strengthOf_45 (q := 4) t_X9_strengthOf_45 ?_
        exact xi_X_le (xi_le_s (xi_le_s (xi_le_s (xi_le_s xi_le_z)))) (ih _ _ _ _ _ h)
def E_X9_strengthOf (S : xi_S) (v0 : Nat) (v1 : Int32) (m : xi_M) : Option xi_R :=
  G_X9_strengthOf_4 S 10000 v0 v1 (Int32.ofInt 0) (Int32.ofInt 0) m
def F_X9_strengthOf (S : xi_S) : xi_F := fun As m => match As with
  | [.ref v0, .int v1] => E_X9_strengthOf S v0 v1 m
  | _ => none
set_option maxRecDepth 100000 in
set_option maxHeartbeats 4000000 in
theorem xe_X9_strengthOf {S : xi_S} {res : xi_R} (v0 : Nat) (v1 : Int32) (m : xi_M) (h : E_X9_strengthOf S v0 v1 m = some res) : xi_X S (P_X9_strengthOf S) (0, [some (.ref v0), some (.int v1), none, none], [], m) res := by
  unfold E_X9_strengthOf at h
  refine xr_iconst i_X9_strengthOf_0 (q := 1) rfl ?_
  refine xr_istore_n i_X9_strengthOf_1 rfl (L2 := [some (.ref v0), some (.int v1), some (.int (Int32.ofInt 0)), none]) rfl (q := 2) rfl ?_
  refine xr_iconst i_X9_strengthOf_2 (q := 3) rfl ?_
  refine xr_istore_n i_X9_strengthOf_3 rfl (L2 := [some (.ref v0), some (.int v1), some (.int (Int32.ofInt 0)), some (.int (Int32.ofInt 0))]) rfl (q := 4) rfl ?_
  exact xi_X_le (xi_le_s (xi_le_s (xi_le_s (xi_le_s xi_le_z)))) (xs_X9_strengthOf_4 10000 _ _ _ _ _ h)
set_option maxRecDepth 100000 in
theorem po_X9_strengthOf {l : Launch} {E : xi_E} {S : xi_S} {D : va_G} {tys : List (ClassId × FieldType)} (hC : xCx E S tys) : xi_Pok l E S D vwCl tys xNs RX9 xTs cX9_strengthOf 4 1 (P_X9_strengthOf S) := ⟨xi_dc_ok, by rw [hC.2]; exact xfo_X9, xkio_X9, xklo_X9, xi_calls_ok (ins := .invokestatic) (List.forall_mem_cons.mpr ⟨(xc_X9_221 (sn_X9_has hC) (by decide)), fun _ h => absurd h List.not_mem_nil⟩), xi_calls_ok (ins := .invokevirtual) (fun _ h => absurd h List.not_mem_nil)⟩
theorem sn_X9_strengthOf {l : Launch} {E : xi_E} {S : xi_S} {D : va_G} {tys : List (ClassId × FieldType)} (hC : xCx E S tys) : ∀ As m1 r m2, F_X9_strengthOf S As m1 = some (r, m2) → xi_Sound l E S D vwCl tys xNs xTs yX9_strengthOf cX9_strengthOf 4 (some .int) 1 As m1 r m2 := by
  intro As m1 r m2 h
  unfold F_X9_strengthOf at h
  split at h
  · exact xi_meth (P := P_X9_strengthOf S) (by decide) hC.1 (po_X9_strengthOf hC) (Nat.le_of_ble_eq_true rfl) rfl (xe_X9_strengthOf _ _ _ h)
  · exact xi_no h
theorem i_X9_sets_0 : xi_dc cX9_sets 0 = some (.iload_n 1, 1) := by decide +kernel
theorem i_X9_sets_1 : xi_dc cX9_sets 1 = some (.iconst 0, 1) := by decide +kernel
theorem i_X9_sets_2 : xi_dc cX9_sets 2 = some (.bipush 54, 2) := by decide +kernel
theorem i_X9_sets_4 : xi_dc cX9_sets 4 = some (.invokestatic 63, 3) := by decide +kernel
theorem i_X9_sets_7 : xi_dc cX9_sets 7 = some (.ifCond .ne 5, 3) := by decide +kernel
theorem t_X9_sets_7 : ((7 : Nat) : Int) + 5 = ((12 : Nat) : Int) := by decide +kernel
theorem i_X9_sets_10 : xi_dc cX9_sets 10 = some (.iconst (-1), 1) := by decide +kernel
theorem i_X9_sets_11 : xi_dc cX9_sets 11 = some (.ireturn, 1) := by decide +kernel
theorem i_X9_sets_12 : xi_dc cX9_sets 12 = some (.aload_n 0, 1) := by decide +kernel
theorem i_X9_sets_13 : xi_dc cX9_sets 13 = some (.invokevirtual 183, 3) := by decide +kernel
theorem i_X9_sets_16 : xi_dc cX9_sets 16 = some (.ifCond .ne 6, 3) := by decide +kernel
theorem t_X9_sets_16 : ((16 : Nat) : Int) + 6 = ((22 : Nat) : Int) := by decide +kernel
theorem i_X9_sets_19 : xi_dc cX9_sets 19 = some (.bipush (-4), 2) := by decide +kernel
theorem i_X9_sets_21 : xi_dc cX9_sets 21 = some (.ireturn, 1) := by decide +kernel
theorem i_X9_sets_22 : xi_dc cX9_sets 22 = some (.iconst 0, 1) := by decide +kernel
theorem i_X9_sets_23 : xi_dc cX9_sets 23 = some (.istore_n 2, 1) := by decide +kernel
theorem i_X9_sets_24 : xi_dc cX9_sets 24 = some (.bipush (-9), 2) := by decide +kernel
theorem i_X9_sets_26 : xi_dc cX9_sets 26 = some (.istore_n 3, 1) := by decide +kernel
theorem i_X9_sets_27 : xi_dc cX9_sets 27 = some (.iconst 0, 1) := by decide +kernel
theorem i_X9_sets_28 : xi_dc cX9_sets 28 = some (.istore 4, 2) := by decide +kernel
theorem i_X9_sets_30 : xi_dc cX9_sets 30 = some (.iload 4, 2) := by decide +kernel
theorem i_X9_sets_32 : xi_dc cX9_sets 32 = some (.iconst 1, 1) := by decide +kernel
theorem i_X9_sets_33 : xi_dc cX9_sets 33 = some (.aload_n 0, 1) := by decide +kernel
theorem i_X9_sets_34 : xi_dc cX9_sets 34 = some (.getfield 25, 3) := by decide +kernel
theorem i_X9_sets_37 : xi_dc cX9_sets 37 = some (.iconst 1, 1) := by decide +kernel
theorem i_X9_sets_38 : xi_dc cX9_sets 38 = some (.iaload, 1) := by decide +kernel
theorem i_X9_sets_39 : xi_dc cX9_sets 39 = some (.ishl, 1) := by decide +kernel
theorem i_X9_sets_40 : xi_dc cX9_sets 40 = some (.if_icmp .ge 33, 3) := by decide +kernel
theorem t_X9_sets_40 : ((40 : Nat) : Int) + 33 = ((73 : Nat) : Int) := by decide +kernel
theorem i_X9_sets_43 : xi_dc cX9_sets 43 = some (.aload_n 0, 1) := by decide +kernel
theorem i_X9_sets_44 : xi_dc cX9_sets 44 = some (.iload 4, 2) := by decide +kernel
theorem i_X9_sets_46 : xi_dc cX9_sets 46 = some (.invokevirtual 230, 3) := by decide +kernel
theorem i_X9_sets_49 : xi_dc cX9_sets 49 = some (.iload_n 1, 1) := by decide +kernel
theorem i_X9_sets_50 : xi_dc cX9_sets 50 = some (.if_icmp .ne 17, 3) := by decide +kernel
theorem t_X9_sets_50 : ((50 : Nat) : Int) + 17 = ((67 : Nat) : Int) := by decide +kernel
theorem i_X9_sets_53 : xi_dc cX9_sets 53 = some (.iload_n 2, 1) := by decide +kernel
theorem i_X9_sets_54 : xi_dc cX9_sets 54 = some (.ifCond .ne 8, 3) := by decide +kernel
theorem t_X9_sets_54 : ((54 : Nat) : Int) + 8 = ((62 : Nat) : Int) := by decide +kernel
theorem i_X9_sets_57 : xi_dc cX9_sets 57 = some (.iload 4, 2) := by decide +kernel
theorem i_X9_sets_59 : xi_dc cX9_sets 59 = some (.goto 4, 3) := by decide +kernel
theorem t_X9_sets_59 : ((59 : Nat) : Int) + 4 = ((63 : Nat) : Int) := by decide +kernel
theorem i_X9_sets_62 : xi_dc cX9_sets 62 = some (.iload_n 3, 1) := by decide +kernel
theorem i_X9_sets_63 : xi_dc cX9_sets 63 = some (.istore_n 3, 1) := by decide +kernel
theorem i_X9_sets_64 : xi_dc cX9_sets 64 = some (.iinc 2 1, 3) := by decide +kernel
theorem i_X9_sets_67 : xi_dc cX9_sets 67 = some (.iinc 4 1, 3) := by decide +kernel
theorem i_X9_sets_70 : xi_dc cX9_sets 70 = some (.goto (-40), 3) := by decide +kernel
theorem t_X9_sets_70 : ((70 : Nat) : Int) + (-40) = ((30 : Nat) : Int) := by decide +kernel
theorem i_X9_sets_73 : xi_dc cX9_sets 73 = some (.aload_n 0, 1) := by decide +kernel
theorem i_X9_sets_74 : xi_dc cX9_sets 74 = some (.iload_n 2, 1) := by decide +kernel
theorem i_X9_sets_75 : xi_dc cX9_sets 75 = some (.i2l, 1) := by decide +kernel
theorem i_X9_sets_76 : xi_dc cX9_sets 76 = some (.putfield 214, 3) := by decide +kernel
theorem i_X9_sets_79 : xi_dc cX9_sets 79 = some (.aload_n 0, 1) := by decide +kernel
theorem i_X9_sets_80 : xi_dc cX9_sets 80 = some (.lconst 1, 1) := by decide +kernel
theorem i_X9_sets_81 : xi_dc cX9_sets 81 = some (.putfield 49, 3) := by decide +kernel
theorem i_X9_sets_84 : xi_dc cX9_sets 84 = some (.aload_n 0, 1) := by decide +kernel
theorem i_X9_sets_85 : xi_dc cX9_sets 85 = some (.iload_n 3, 1) := by decide +kernel
theorem i_X9_sets_86 : xi_dc cX9_sets 86 = some (.invokevirtual 75, 3) := by decide +kernel
theorem i_X9_sets_89 : xi_dc cX9_sets 89 = some (.ireturn, 1) := by decide +kernel
def P_X9_sets (S : xi_S) : xi_P := (xi_dc cX9_sets, xi_tab xfl_X9, xi_tab xki_X9, xi_tab xkl_X9, xi_tab xcs_X9, xi_tab xcv_X9, xi_calls [(63, xi_wS 3 (F_X9_in0 S))], xi_calls [(75, xi_wV S 11 1 (F_X9_tells S)), (183, xi_wV S 11 0 (F_X9_isAny S)), (230, xi_wV S 11 1 (F_X9_strengthOf S))], 1)
theorem cc_X9_sets_63 (S : xi_S) (a0 : Int32) (a1 : Int32) (a2 : Int32) (m : xi_M) : (P_X9_sets S).2.2.2.2.2.2.1 63 [.int a0, .int a1, .int a2] m = (E_X9_in0 S a0 a1 a2 m) := by
  show xi_calls [(63, xi_wS 3 (F_X9_in0 S))] 63 [.int a0, .int a1, .int a2] m = _
  refine Eq.trans (b := xi_wS 3 (F_X9_in0 S) [.int a0, .int a1, .int a2] m) (xi_calls_hit rfl) ?_
  exact xi_wS_eq rfl
theorem cc_X9_sets_75 (S : xi_S) (a0 : Nat) (a1 : Int32) (m : xi_M) : (P_X9_sets S).2.2.2.2.2.2.2.1 75 [.ref a0, .int a1] m = (if S.1 a0 = 11 then E_X9_tells S a0 a1 m else none) := by
  show xi_calls [(75, xi_wV S 11 1 (F_X9_tells S)), (183, xi_wV S 11 0 (F_X9_isAny S)), (230, xi_wV S 11 1 (F_X9_strengthOf S))] 75 [.ref a0, .int a1] m = _
  refine Eq.trans (b := xi_wV S 11 1 (F_X9_tells S) [.ref a0, .int a1] m) (xi_calls_hit rfl) ?_
  exact xi_wV_eq rfl
theorem cc_X9_sets_183 (S : xi_S) (a0 : Nat) (m : xi_M) : (P_X9_sets S).2.2.2.2.2.2.2.1 183 [.ref a0] m = (if S.1 a0 = 11 then E_X9_isAny S a0 m else none) := by
  show xi_calls [(75, xi_wV S 11 1 (F_X9_tells S)), (183, xi_wV S 11 0 (F_X9_isAny S)), (230, xi_wV S 11 1 (F_X9_strengthOf S))] 183 [.ref a0] m = _
  refine Eq.trans (b := xi_calls [(183, xi_wV S 11 0 (F_X9_isAny S)), (230, xi_wV S 11 1 (F_X9_strengthOf S))] 183 [.ref a0] m) (xi_calls_miss rfl) ?_
  refine Eq.trans (b := xi_wV S 11 0 (F_X9_isAny S) [.ref a0] m) (xi_calls_hit rfl) ?_
  exact xi_wV_eq rfl
theorem cc_X9_sets_230 (S : xi_S) (a0 : Nat) (a1 : Int32) (m : xi_M) : (P_X9_sets S).2.2.2.2.2.2.2.1 230 [.ref a0, .int a1] m = (if S.1 a0 = 11 then E_X9_strengthOf S a0 a1 m else none) := by
  show xi_calls [(75, xi_wV S 11 1 (F_X9_tells S)), (183, xi_wV S 11 0 (F_X9_isAny S)), (230, xi_wV S 11 1 (F_X9_strengthOf S))] 230 [.ref a0, .int a1] m = _
  refine Eq.trans (b := xi_calls [(183, xi_wV S 11 0 (F_X9_isAny S)), (230, xi_wV S 11 1 (F_X9_strengthOf S))] 230 [.ref a0, .int a1] m) (xi_calls_miss rfl) ?_
  refine Eq.trans (b := xi_calls [(230, xi_wV S 11 1 (F_X9_strengthOf S))] 230 [.ref a0, .int a1] m) (xi_calls_miss rfl) ?_
  refine Eq.trans (b := xi_wV S 11 1 (F_X9_strengthOf S) [.ref a0, .int a1] m) (xi_calls_hit rfl) ?_
  exact xi_wV_eq rfl
def G_X9_sets_30 (S : xi_S) : Nat → Nat → Int32 → Int32 → Int32 → Int32 → xi_M → Option xi_R
  | 0, _, _, _, _, _, _ => none
  | n + 1, v0, v1, v2, v3, v4, m =>
    if S.1 v0 = 11 then (S.2.2 v0 5).bind fun b2 =>
      if S.1 b2 = 0 ∧ ¬ ((Int32.ofInt 1) < 0 ∨ S.2.1 b2 ≤ Int32.toNatClampNeg (Int32.ofInt 1)) then
        if ((Int32.ofInt 1) <<< ((m.1 b2 (Int32.toNatClampNeg (Int32.ofInt 1))) &&& 31)) ≤ v4 then
          if S.1 v0 = 11 then
            if S.1 v0 = 11 then
              xi_bI (if S.1 v0 = 11 then E_X9_tells S v0 v3 (xi_wJ (xi_wJ m v0 16 (Int32.toInt64 v2)) v0 17 (Int64.ofNat ((1 : Fin 2) : Nat))) else none) fun x7 m6 =>
              some (some (.int x7), m6)
            else none
          else none
        else
          xi_bI (if S.1 v0 = 11 then E_X9_strengthOf S v0 v4 m else none) fun x9 m8 =>
          if x9 = v1 then
            if v2 = 0 then
              G_X9_sets_30 S n v0 v1 (v2 + Int32.ofInt 1) v4 (v4 + Int32.ofInt 1) m8
            else
              G_X9_sets_30 S n v0 v1 (v2 + Int32.ofInt 1) v3 (v4 + Int32.ofInt 1) m8
          else
            G_X9_sets_30 S n v0 v1 v2 v3 (v4 + Int32.ofInt 1) m8
      else none
    else none
set_option maxRecDepth 100000 in
set_option maxHeartbeats 4000000 in
theorem xs_X9_sets_30 {S : xi_S} {res : xi_R} : ∀ (n : Nat) (v0 : Nat) (v1 : Int32) (v2 : Int32) (v3 : Int32) (v4 : Int32) (m : xi_M), G_X9_sets_30 S n v0 v1 v2 v3 v4 m = some res → xi_X S (P_X9_sets S) (30, [some (.ref v0), some (.int v1), some (.int v2), some (.int v3), some (.int v4)], [], m) res := by
  intro n
  induction n with
  | zero => intro v0 v1 v2 v3 v4 m h; exact xi_no h
  | succ n ih =>
    intro v0 v1 v2 v3 v4 m h
    unfold G_X9_sets_30 at h
    refine xr_iload i_X9_sets_30 rfl (q := 32) rfl ?_
    refine xr_iconst i_X9_sets_32 (q := 33) rfl ?_
    refine xr_aload_n i_X9_sets_33 rfl (q := 34) rfl ?_
    obtain ⟨c1, h⟩ := xi_if_some h
    obtain ⟨b2, eb2, h⟩ := xi_bind_some h
    refine xr_getR i_X9_sets_34 xfe_X9_25 c1 eb2 (q := 37) rfl ?_
    refine xr_iconst i_X9_sets_37 (q := 38) rfl ?_
    obtain ⟨c3, h⟩ := xi_if_some h
    refine xr_iaload i_X9_sets_38 c3 (q := 39) rfl ?_
    refine xr_ishl i_X9_sets_39 (q := 40) rfl ?_
    by_cases c12 : ((Int32.ofInt 1) <<< ((m.1 b2 (Int32.toNatClampNeg (Int32.ofInt 1))) &&& 31)) ≤ v4
    · replace h := (if_pos c12).symm.trans h
      refine xr_if_icmp_ge_p i_X9_sets_40 c12 (q := 73) t_X9_sets_40 (q2 := 43) rfl ?_
      refine xr_aload_n i_X9_sets_73 rfl (q := 74) rfl ?_
      refine xr_iload_n i_X9_sets_74 rfl (q := 75) rfl ?_
      refine xr_i2l i_X9_sets_75 (q := 76) rfl ?_
      obtain ⟨c4, h⟩ := xi_if_some h
      refine xr_putJ i_X9_sets_76 xfe_X9_214 c4 (q := 79) rfl ?_
      refine xr_aload_n i_X9_sets_79 rfl (q := 80) rfl ?_
      refine xr_lconst i_X9_sets_80 (q := 81) rfl ?_
      obtain ⟨c5, h⟩ := xi_if_some h
      refine xr_putJ i_X9_sets_81 xfe_X9_49 c5 (q := 84) rfl ?_
      refine xr_aload_n i_X9_sets_84 rfl (q := 85) rfl ?_
      refine xr_iload_n i_X9_sets_85 rfl (q := 86) rfl ?_
      obtain ⟨x7, m6, em6, h⟩ := xi_bI_some h
      refine xr_VI i_X9_sets_86 xcve_X9_75 rfl (As := [.ref v0, .int v3]) rfl (rest := []) rfl ((cc_X9_sets_75 S _ _ _).trans em6) (q := 89) rfl ?_
      exact xr_ireturn i_X9_sets_89 rfl h
    · replace h := (if_neg c12).symm.trans h
      refine xr_if_icmp_ge_n i_X9_sets_40 c12 (q := 73) t_X9_sets_40 (q2 := 43) rfl ?_
      refine xr_aload_n i_X9_sets_43 rfl (q := 44) rfl ?_
      refine xr_iload i_X9_sets_44 rfl (q := 46) rfl ?_
      obtain ⟨x9, m8, em8, h⟩ := xi_bI_some h
      refine xr_VI i_X9_sets_46 xcve_X9_230 rfl (As := [.ref v0, .int v4]) rfl (rest := []) rfl ((cc_X9_sets_230 S _ _ _).trans em8) (q := 49) rfl ?_
      refine xr_iload_n i_X9_sets_49 rfl (q := 50) rfl ?_
      by_cases c11 : x9 = v1
      · replace h := (if_pos c11).symm.trans h
        refine xr_if_icmp_ne_p i_X9_sets_50 c11 (q := 67) t_X9_sets_50 (q2 := 53) rfl ?_
        refine xr_iload_n i_X9_sets_53 rfl (q := 54) rfl ?_
        by_cases c10 : v2 = 0
        · replace h := (if_pos c10).symm.trans h
          refine xr_ifCond_ne_p i_X9_sets_54 c10 (q := 62) t_X9_sets_54 (q2 := 57) rfl ?_
          refine xr_iload i_X9_sets_57 rfl (q := 59) rfl ?_
          refine xr_goto i_X9_sets_59 (q := 63) t_X9_sets_59 ?_
          refine xr_istore_n i_X9_sets_63 rfl (L2 := [some (.ref v0), some (.int v1), some (.int v2), some (.int v4), some (.int v4)]) rfl (q := 64) rfl ?_
          refine xr_iinc i_X9_sets_64 rfl rfl (L2 := [some (.ref v0), some (.int v1), some (.int (v2 + Int32.ofInt 1)), some (.int v4), some (.int v4)]) rfl (q := 67) rfl ?_
          refine xr_iinc i_X9_sets_67 rfl rfl (L2 := [some (.ref v0), some (.int v1), some (.int (v2 + Int32.ofInt 1)), some (.int v4), some (.int (v4 + Int32.ofInt 1))]) rfl (q := 70) rfl ?_
          refine xr_goto i_X9_sets_70 (q := 30) t_X9_sets_70 ?_
          exact xi_X_le (xi_le_s (xi_le_s (xi_le_s (xi_le_s (xi_le_s xi_le_z))))) (ih _ _ _ _ _ _ h)
        · replace h := (if_neg c10).symm.trans h
          refine xr_ifCond_ne_n i_X9_sets_54 c10 (q := 62) t_X9_sets_54 (q2 := 57) rfl ?_
          refine xr_iload_n i_X9_sets_62 rfl (q := 63) rfl ?_
          refine xr_istore_n i_X9_sets_63 rfl (L2 := [some (.ref v0), some (.int v1), some (.int v2), some (.int v3), some (.int v4)]) rfl (q := 64) rfl ?_
          refine xr_iinc i_X9_sets_64 rfl rfl (L2 := [some (.ref v0), some (.int v1), some (.int (v2 + Int32.ofInt 1)), some (.int v3), some (.int v4)]) rfl (q := 67) rfl ?_
          refine xr_iinc i_X9_sets_67 rfl rfl (L2 := [some (.ref v0), some (.int v1), some (.int (v2 + Int32.ofInt 1)), some (.int v3), some (.int (v4 + Int32.ofInt 1))]) rfl (q := 70) rfl ?_
          refine xr_goto i_X9_sets_70 (q := 30) t_X9_sets_70 ?_
          exact xi_X_le (xi_le_s (xi_le_s (xi_le_s (xi_le_s (xi_le_s xi_le_z))))) (ih _ _ _ _ _ _ h)
      · replace h := (if_neg c11).symm.trans h
        refine xr_if_icmp_ne_n i_X9_sets_50 c11 (q := 67) t_X9_sets_50 (q2 := 53) rfl ?_
        refine xr_iinc i_X9_sets_67 rfl rfl (L2 := [some (.ref v0), some (.int v1), some (.int v2), some (.int v3), some (.int (v4 + Int32.ofInt 1))]) rfl (q := 70) rfl ?_
        refine xr_goto i_X9_sets_70 (q := 30) t_X9_sets_70 ?_
        exact xi_X_le (xi_le_s (xi_le_s (xi_le_s (xi_le_s (xi_le_s xi_le_z))))) (ih _ _ _ _ _ _ h)
def E_X9_sets (S : xi_S) (v0 : Nat) (v1 : Int32) (m : xi_M) : Option xi_R :=
  xi_bI (E_X9_in0 S v1 (Int32.ofInt 0) ((Int8.ofInt 54).toInt32) m) fun x2 m1 =>
  if x2 = 0 then
    some (some (.int (Int32.ofInt (-1))), m1)
  else
    xi_bI (if S.1 v0 = 11 then E_X9_isAny S v0 m1 else none) fun x4 m3 =>
    if x4 = 0 then
      some (some (.int ((Int8.ofInt (-4)).toInt32)), m3)
    else
      G_X9_sets_30 S 10000 v0 v1 (Int32.ofInt 0) ((Int8.ofInt (-9)).toInt32) (Int32.ofInt 0) m3
def F_X9_sets (S : xi_S) : xi_F := fun As m => match As with
  | [.ref v0, .int v1] => E_X9_sets S v0 v1 m
  | _ => none
set_option maxRecDepth 100000 in
set_option maxHeartbeats 4000000 in
theorem xe_X9_sets {S : xi_S} {res : xi_R} (v0 : Nat) (v1 : Int32) (m : xi_M) (h : E_X9_sets S v0 v1 m = some res) : xi_X S (P_X9_sets S) (0, [some (.ref v0), some (.int v1), none, none, none], [], m) res := by
  unfold E_X9_sets at h
  refine xr_iload_n i_X9_sets_0 rfl (q := 1) rfl ?_
  refine xr_iconst i_X9_sets_1 (q := 2) rfl ?_
  refine xr_bipush i_X9_sets_2 (q := 4) rfl ?_
  obtain ⟨x2, m1, em1, h⟩ := xi_bI_some h
  refine xr_SI i_X9_sets_4 xcse_X9_63 rfl (As := [.int v1, .int (Int32.ofInt 0), .int ((Int8.ofInt 54).toInt32)]) rfl (rest := []) rfl ((cc_X9_sets_63 S _ _ _ _).trans em1) (q := 7) rfl ?_
  by_cases c6 : x2 = 0
  · replace h := (if_pos c6).symm.trans h
    refine xr_ifCond_ne_p i_X9_sets_7 c6 (q := 12) t_X9_sets_7 (q2 := 10) rfl ?_
    refine xr_iconst i_X9_sets_10 (q := 11) rfl ?_
    exact xr_ireturn i_X9_sets_11 rfl h
  · replace h := (if_neg c6).symm.trans h
    refine xr_ifCond_ne_n i_X9_sets_7 c6 (q := 12) t_X9_sets_7 (q2 := 10) rfl ?_
    refine xr_aload_n i_X9_sets_12 rfl (q := 13) rfl ?_
    obtain ⟨x4, m3, em3, h⟩ := xi_bI_some h
    refine xr_VI i_X9_sets_13 xcve_X9_183 rfl (As := [.ref v0]) rfl (rest := []) rfl ((cc_X9_sets_183 S _ _).trans em3) (q := 16) rfl ?_
    by_cases c5 : x4 = 0
    · replace h := (if_pos c5).symm.trans h
      refine xr_ifCond_ne_p i_X9_sets_16 c5 (q := 22) t_X9_sets_16 (q2 := 19) rfl ?_
      refine xr_bipush i_X9_sets_19 (q := 21) rfl ?_
      exact xr_ireturn i_X9_sets_21 rfl h
    · replace h := (if_neg c5).symm.trans h
      refine xr_ifCond_ne_n i_X9_sets_16 c5 (q := 22) t_X9_sets_16 (q2 := 19) rfl ?_
      refine xr_iconst i_X9_sets_22 (q := 23) rfl ?_
      refine xr_istore_n i_X9_sets_23 rfl (L2 := [some (.ref v0), some (.int v1), some (.int (Int32.ofInt 0)), none, none]) rfl (q := 24) rfl ?_
      refine xr_bipush i_X9_sets_24 (q := 26) rfl ?_
      refine xr_istore_n i_X9_sets_26 rfl (L2 := [some (.ref v0), some (.int v1), some (.int (Int32.ofInt 0)), some (.int ((Int8.ofInt (-9)).toInt32)), none]) rfl (q := 27) rfl ?_
      refine xr_iconst i_X9_sets_27 (q := 28) rfl ?_
      refine xr_istore i_X9_sets_28 rfl (L2 := [some (.ref v0), some (.int v1), some (.int (Int32.ofInt 0)), some (.int ((Int8.ofInt (-9)).toInt32)), some (.int (Int32.ofInt 0))]) rfl (q := 30) rfl ?_
      exact xi_X_le (xi_le_s (xi_le_s (xi_le_s (xi_le_s (xi_le_s xi_le_z))))) (xs_X9_sets_30 10000 _ _ _ _ _ _ h)
set_option maxRecDepth 100000 in
theorem po_X9_sets {l : Launch} {E : xi_E} {S : xi_S} {D : va_G} {tys : List (ClassId × FieldType)} (hC : xCx E S tys) : xi_Pok l E S D vwCl tys xNs RX9 xTs cX9_sets 5 2 (P_X9_sets S) := ⟨xi_dc_ok, by rw [hC.2]; exact xfo_X9, xkio_X9, xklo_X9, xi_calls_ok (ins := .invokestatic) (List.forall_mem_cons.mpr ⟨(xc_X9_63 (sn_X9_in0 hC) (by decide)), fun _ h => absurd h List.not_mem_nil⟩), xi_calls_ok (ins := .invokevirtual) (List.forall_mem_cons.mpr ⟨(xc_X9_75 hC.1 (sn_X9_tells hC) (by decide)), List.forall_mem_cons.mpr ⟨(xc_X9_183 hC.1 (sn_X9_isAny hC) (by decide)), List.forall_mem_cons.mpr ⟨(xc_X9_230 hC.1 (sn_X9_strengthOf hC) (by decide)), fun _ h => absurd h List.not_mem_nil⟩⟩⟩)⟩
theorem sn_X9_sets {l : Launch} {E : xi_E} {S : xi_S} {D : va_G} {tys : List (ClassId × FieldType)} (hC : xCx E S tys) : ∀ As m1 r m2, F_X9_sets S As m1 = some (r, m2) → xi_Sound l E S D vwCl tys xNs xTs yX9_sets cX9_sets 5 (some .int) 2 As m1 r m2 := by
  intro As m1 r m2 h
  unfold F_X9_sets at h
  split at h
  · exact xi_meth (P := P_X9_sets S) (by decide) hC.1 (po_X9_sets hC) (Nat.le_of_ble_eq_true rfl) rfl (xe_X9_sets _ _ _ h)
  · exact xi_no h
theorem i_X9_surely_0 : xi_dc cX9_surely 0 = some (.iload_n 1, 1) := by decide +kernel
theorem i_X9_surely_1 : xi_dc cX9_surely 1 = some (.iconst 0, 1) := by decide +kernel
theorem i_X9_surely_2 : xi_dc cX9_surely 2 = some (.bipush 54, 2) := by decide +kernel
theorem i_X9_surely_4 : xi_dc cX9_surely 4 = some (.invokestatic 63, 3) := by decide +kernel
theorem i_X9_surely_7 : xi_dc cX9_surely 7 = some (.ifCond .ne 5, 3) := by decide +kernel
theorem t_X9_surely_7 : ((7 : Nat) : Int) + 5 = ((12 : Nat) : Int) := by decide +kernel
theorem i_X9_surely_10 : xi_dc cX9_surely 10 = some (.iconst (-1), 1) := by decide +kernel
theorem i_X9_surely_11 : xi_dc cX9_surely 11 = some (.ireturn, 1) := by decide +kernel
theorem i_X9_surely_12 : xi_dc cX9_surely 12 = some (.aload_n 0, 1) := by decide +kernel
theorem i_X9_surely_13 : xi_dc cX9_surely 13 = some (.invokevirtual 183, 3) := by decide +kernel
theorem i_X9_surely_16 : xi_dc cX9_surely 16 = some (.ifCond .ne 6, 3) := by decide +kernel
theorem t_X9_surely_16 : ((16 : Nat) : Int) + 6 = ((22 : Nat) : Int) := by decide +kernel
theorem i_X9_surely_19 : xi_dc cX9_surely 19 = some (.bipush (-4), 2) := by decide +kernel
theorem i_X9_surely_21 : xi_dc cX9_surely 21 = some (.ireturn, 1) := by decide +kernel
theorem i_X9_surely_22 : xi_dc cX9_surely 22 = some (.iconst 1, 1) := by decide +kernel
theorem i_X9_surely_23 : xi_dc cX9_surely 23 = some (.aload_n 0, 1) := by decide +kernel
theorem i_X9_surely_24 : xi_dc cX9_surely 24 = some (.getfield 25, 3) := by decide +kernel
theorem i_X9_surely_27 : xi_dc cX9_surely 27 = some (.iconst 1, 1) := by decide +kernel
theorem i_X9_surely_28 : xi_dc cX9_surely 28 = some (.iaload, 1) := by decide +kernel
theorem i_X9_surely_29 : xi_dc cX9_surely 29 = some (.ishl, 1) := by decide +kernel
theorem i_X9_surely_30 : xi_dc cX9_surely 30 = some (.iconst 1, 1) := by decide +kernel
theorem i_X9_surely_31 : xi_dc cX9_surely 31 = some (.isub, 1) := by decide +kernel
theorem i_X9_surely_32 : xi_dc cX9_surely 32 = some (.istore_n 2, 1) := by decide +kernel
theorem i_X9_surely_33 : xi_dc cX9_surely 33 = some (.iload_n 2, 1) := by decide +kernel
theorem i_X9_surely_34 : xi_dc cX9_surely 34 = some (.istore_n 3, 1) := by decide +kernel
theorem i_X9_surely_35 : xi_dc cX9_surely 35 = some (.iconst 0, 1) := by decide +kernel
theorem i_X9_surely_36 : xi_dc cX9_surely 36 = some (.istore 4, 2) := by decide +kernel
theorem i_X9_surely_38 : xi_dc cX9_surely 38 = some (.iconst 0, 1) := by decide +kernel
theorem i_X9_surely_39 : xi_dc cX9_surely 39 = some (.istore 5, 2) := by decide +kernel
theorem i_X9_surely_41 : xi_dc cX9_surely 41 = some (.iconst 0, 1) := by decide +kernel
theorem i_X9_surely_42 : xi_dc cX9_surely 42 = some (.istore 6, 2) := by decide +kernel
theorem i_X9_surely_44 : xi_dc cX9_surely 44 = some (.iload 6, 2) := by decide +kernel
theorem i_X9_surely_46 : xi_dc cX9_surely 46 = some (.iload_n 2, 1) := by decide +kernel
theorem i_X9_surely_47 : xi_dc cX9_surely 47 = some (.if_icmp .gt 34, 3) := by decide +kernel
theorem t_X9_surely_47 : ((47 : Nat) : Int) + 34 = ((81 : Nat) : Int) := by decide +kernel
theorem i_X9_surely_50 : xi_dc cX9_surely 50 = some (.aload_n 0, 1) := by decide +kernel
theorem i_X9_surely_51 : xi_dc cX9_surely 51 = some (.iload 6, 2) := by decide +kernel
theorem i_X9_surely_53 : xi_dc cX9_surely 53 = some (.invokevirtual 230, 3) := by decide +kernel
theorem i_X9_surely_56 : xi_dc cX9_surely 56 = some (.iload_n 1, 1) := by decide +kernel
theorem i_X9_surely_57 : xi_dc cX9_surely 57 = some (.if_icmp .ne 18, 3) := by decide +kernel
theorem t_X9_surely_57 : ((57 : Nat) : Int) + 18 = ((75 : Nat) : Int) := by decide +kernel
theorem i_X9_surely_60 : xi_dc cX9_surely 60 = some (.iload_n 3, 1) := by decide +kernel
theorem i_X9_surely_61 : xi_dc cX9_surely 61 = some (.iload 6, 2) := by decide +kernel
theorem i_X9_surely_63 : xi_dc cX9_surely 63 = some (.iand, 1) := by decide +kernel
theorem i_X9_surely_64 : xi_dc cX9_surely 64 = some (.istore_n 3, 1) := by decide +kernel
theorem i_X9_surely_65 : xi_dc cX9_surely 65 = some (.iload 4, 2) := by decide +kernel
theorem i_X9_surely_67 : xi_dc cX9_surely 67 = some (.iload 6, 2) := by decide +kernel
theorem i_X9_surely_69 : xi_dc cX9_surely 69 = some (.ior, 1) := by decide +kernel
theorem i_X9_surely_70 : xi_dc cX9_surely 70 = some (.istore 4, 2) := by decide +kernel
theorem i_X9_surely_72 : xi_dc cX9_surely 72 = some (.iinc 5 1, 3) := by decide +kernel
theorem i_X9_surely_75 : xi_dc cX9_surely 75 = some (.iinc 6 1, 3) := by decide +kernel
theorem i_X9_surely_78 : xi_dc cX9_surely 78 = some (.goto (-34), 3) := by decide +kernel
theorem t_X9_surely_78 : ((78 : Nat) : Int) + (-34) = ((44 : Nat) : Int) := by decide +kernel
theorem i_X9_surely_81 : xi_dc cX9_surely 81 = some (.iload 5, 2) := by decide +kernel
theorem i_X9_surely_83 : xi_dc cX9_surely 83 = some (.ifCond .ne 9, 3) := by decide +kernel
theorem t_X9_surely_83 : ((83 : Nat) : Int) + 9 = ((92 : Nat) : Int) := by decide +kernel
theorem i_X9_surely_86 : xi_dc cX9_surely 86 = some (.aload_n 0, 1) := by decide +kernel
theorem i_X9_surely_87 : xi_dc cX9_surely 87 = some (.iconst 4, 1) := by decide +kernel
theorem i_X9_surely_88 : xi_dc cX9_surely 88 = some (.invokevirtual 71, 3) := by decide +kernel
theorem i_X9_surely_91 : xi_dc cX9_surely 91 = some (.ireturn, 1) := by decide +kernel
theorem i_X9_surely_92 : xi_dc cX9_surely 92 = some (.aload_n 0, 1) := by decide +kernel
theorem i_X9_surely_93 : xi_dc cX9_surely 93 = some (.iload_n 2, 1) := by decide +kernel
theorem i_X9_surely_94 : xi_dc cX9_surely 94 = some (.iload 4, 2) := by decide +kernel
theorem i_X9_surely_96 : xi_dc cX9_surely 96 = some (.iconst (-1), 1) := by decide +kernel
theorem i_X9_surely_97 : xi_dc cX9_surely 97 = some (.ixor, 1) := by decide +kernel
theorem i_X9_surely_98 : xi_dc cX9_surely 98 = some (.iand, 1) := by decide +kernel
theorem i_X9_surely_99 : xi_dc cX9_surely 99 = some (.invokevirtual 75, 3) := by decide +kernel
theorem i_X9_surely_102 : xi_dc cX9_surely 102 = some (.pop, 1) := by decide +kernel
theorem i_X9_surely_103 : xi_dc cX9_surely 103 = some (.iload_n 3, 1) := by decide +kernel
theorem i_X9_surely_104 : xi_dc cX9_surely 104 = some (.ireturn, 1) := by decide +kernel
def P_X9_surely (S : xi_S) : xi_P := (xi_dc cX9_surely, xi_tab xfl_X9, xi_tab xki_X9, xi_tab xkl_X9, xi_tab xcs_X9, xi_tab xcv_X9, xi_calls [(63, xi_wS 3 (F_X9_in0 S))], xi_calls [(71, xi_wV S 11 1 (F_X9_found S)), (75, xi_wV S 11 1 (F_X9_tells S)), (183, xi_wV S 11 0 (F_X9_isAny S)), (230, xi_wV S 11 1 (F_X9_strengthOf S))], 1)
theorem cc_X9_surely_63 (S : xi_S) (a0 : Int32) (a1 : Int32) (a2 : Int32) (m : xi_M) : (P_X9_surely S).2.2.2.2.2.2.1 63 [.int a0, .int a1, .int a2] m = (E_X9_in0 S a0 a1 a2 m) := by
  show xi_calls [(63, xi_wS 3 (F_X9_in0 S))] 63 [.int a0, .int a1, .int a2] m = _
  refine Eq.trans (b := xi_wS 3 (F_X9_in0 S) [.int a0, .int a1, .int a2] m) (xi_calls_hit rfl) ?_
  exact xi_wS_eq rfl
theorem cc_X9_surely_71 (S : xi_S) (a0 : Nat) (a1 : Int32) (m : xi_M) : (P_X9_surely S).2.2.2.2.2.2.2.1 71 [.ref a0, .int a1] m = (if S.1 a0 = 11 then E_X9_found S a0 a1 m else none) := by
  show xi_calls [(71, xi_wV S 11 1 (F_X9_found S)), (75, xi_wV S 11 1 (F_X9_tells S)), (183, xi_wV S 11 0 (F_X9_isAny S)), (230, xi_wV S 11 1 (F_X9_strengthOf S))] 71 [.ref a0, .int a1] m = _
  refine Eq.trans (b := xi_wV S 11 1 (F_X9_found S) [.ref a0, .int a1] m) (xi_calls_hit rfl) ?_
  exact xi_wV_eq rfl
theorem cc_X9_surely_75 (S : xi_S) (a0 : Nat) (a1 : Int32) (m : xi_M) : (P_X9_surely S).2.2.2.2.2.2.2.1 75 [.ref a0, .int a1] m = (if S.1 a0 = 11 then E_X9_tells S a0 a1 m else none) := by
  show xi_calls [(71, xi_wV S 11 1 (F_X9_found S)), (75, xi_wV S 11 1 (F_X9_tells S)), (183, xi_wV S 11 0 (F_X9_isAny S)), (230, xi_wV S 11 1 (F_X9_strengthOf S))] 75 [.ref a0, .int a1] m = _
  refine Eq.trans (b := xi_calls [(75, xi_wV S 11 1 (F_X9_tells S)), (183, xi_wV S 11 0 (F_X9_isAny S)), (230, xi_wV S 11 1 (F_X9_strengthOf S))] 75 [.ref a0, .int a1] m) (xi_calls_miss rfl) ?_
  refine Eq.trans (b := xi_wV S 11 1 (F_X9_tells S) [.ref a0, .int a1] m) (xi_calls_hit rfl) ?_
  exact xi_wV_eq rfl
theorem cc_X9_surely_183 (S : xi_S) (a0 : Nat) (m : xi_M) : (P_X9_surely S).2.2.2.2.2.2.2.1 183 [.ref a0] m = (if S.1 a0 = 11 then E_X9_isAny S a0 m else none) := by
  show xi_calls [(71, xi_wV S 11 1 (F_X9_found S)), (75, xi_wV S 11 1 (F_X9_tells S)), (183, xi_wV S 11 0 (F_X9_isAny S)), (230, xi_wV S 11 1 (F_X9_strengthOf S))] 183 [.ref a0] m = _
  refine Eq.trans (b := xi_calls [(75, xi_wV S 11 1 (F_X9_tells S)), (183, xi_wV S 11 0 (F_X9_isAny S)), (230, xi_wV S 11 1 (F_X9_strengthOf S))] 183 [.ref a0] m) (xi_calls_miss rfl) ?_
  refine Eq.trans (b := xi_calls [(183, xi_wV S 11 0 (F_X9_isAny S)), (230, xi_wV S 11 1 (F_X9_strengthOf S))] 183 [.ref a0] m) (xi_calls_miss rfl) ?_
  refine Eq.trans (b := xi_wV S 11 0 (F_X9_isAny S) [.ref a0] m) (xi_calls_hit rfl) ?_
  exact xi_wV_eq rfl
theorem cc_X9_surely_230 (S : xi_S) (a0 : Nat) (a1 : Int32) (m : xi_M) : (P_X9_surely S).2.2.2.2.2.2.2.1 230 [.ref a0, .int a1] m = (if S.1 a0 = 11 then E_X9_strengthOf S a0 a1 m else none) := by
  show xi_calls [(71, xi_wV S 11 1 (F_X9_found S)), (75, xi_wV S 11 1 (F_X9_tells S)), (183, xi_wV S 11 0 (F_X9_isAny S)), (230, xi_wV S 11 1 (F_X9_strengthOf S))] 230 [.ref a0, .int a1] m = _
  refine Eq.trans (b := xi_calls [(75, xi_wV S 11 1 (F_X9_tells S)), (183, xi_wV S 11 0 (F_X9_isAny S)), (230, xi_wV S 11 1 (F_X9_strengthOf S))] 230 [.ref a0, .int a1] m) (xi_calls_miss rfl) ?_
  refine Eq.trans (b := xi_calls [(183, xi_wV S 11 0 (F_X9_isAny S)), (230, xi_wV S 11 1 (F_X9_strengthOf S))] 230 [.ref a0, .int a1] m) (xi_calls_miss rfl) ?_
  refine Eq.trans (b := xi_calls [(230, xi_wV S 11 1 (F_X9_strengthOf S))] 230 [.ref a0, .int a1] m) (xi_calls_miss rfl) ?_
  refine Eq.trans (b := xi_wV S 11 1 (F_X9_strengthOf S) [.ref a0, .int a1] m) (xi_calls_hit rfl) ?_
  exact xi_wV_eq rfl
def G_X9_surely_44 (S : xi_S) : Nat → Nat → Int32 → Int32 → Int32 → Int32 → Int32 → Int32 → xi_M → Option xi_R
  | 0, _, _, _, _, _, _, _, _ => none
  | n + 1, v0, v1, v2, v3, v4, v5, v6, m =>
    if v2 < v6 then
      if v5 = 0 then
        xi_bI (if S.1 v0 = 11 then E_X9_found S v0 (Int32.ofInt 4) m else none) fun x4 m3 =>
        some (some (.int x4), m3)
      else
        xi_bI (if S.1 v0 = 11 then E_X9_tells S v0 (v2 &&& (v4 ^^^ (Int32.ofInt (-1)))) m else none) fun x2 m1 =>
        some (some (.int v3), m1)
    else
      xi_bI (if S.1 v0 = 11 then E_X9_strengthOf S v0 v6 m else none) fun x7 m6 =>
      if x7 = v1 then
        G_X9_surely_44 S n v0 v1 v2 (v3 &&& v6) (v4 ||| v6) (v5 + Int32.ofInt 1) (v6 + Int32.ofInt 1) m6
      else
        G_X9_surely_44 S n v0 v1 v2 v3 v4 v5 (v6 + Int32.ofInt 1) m6
set_option maxRecDepth 100000 in
set_option maxHeartbeats 4000000 in
theorem xs_X9_surely_44 {S : xi_S} {res : xi_R} : ∀ (n : Nat) (v0 : Nat) (v1 : Int32) (v2 : Int32) (v3 : Int32) (v4 : Int32) (v5 : Int32) (v6 : Int32) (m : xi_M), G_X9_surely_44 S n v0 v1 v2 v3 v4 v5 v6 m = some res → xi_X S (P_X9_surely S) (44, [some (.ref v0), some (.int v1), some (.int v2), some (.int v3), some (.int v4), some (.int v5), some (.int v6)], [], m) res := by
  intro n
  induction n with
  | zero => intro v0 v1 v2 v3 v4 v5 v6 m h; exact xi_no h
  | succ n ih =>
    intro v0 v1 v2 v3 v4 v5 v6 m h
    unfold G_X9_surely_44 at h
    refine xr_iload i_X9_surely_44 rfl (q := 46) rfl ?_
    refine xr_iload_n i_X9_surely_46 rfl (q := 47) rfl ?_
    by_cases c9 : v2 < v6
    · replace h := (if_pos c9).symm.trans h
      refine xr_if_icmp_gt_p i_X9_surely_47 c9 (q := 81) t_X9_surely_47 (q2 := 50) rfl ?_
      refine xr_iload i_X9_surely_81 rfl (q := 83) rfl ?_
      by_cases c5 : v5 = 0
      · replace h := (if_pos c5).symm.trans h
        refine xr_ifCond_ne_p i_X9_surely_83 c5 (q := 92) t_X9_surely_83 (q2 := 86) rfl ?_
        refine xr_aload_n i_X9_surely_86 rfl (q := 87) rfl ?_
        refine xr_iconst i_X9_surely_87 (q := 88) rfl ?_
        obtain ⟨x4, m3, em3, h⟩ := xi_bI_some h
        refine xr_VI i_X9_surely_88 xcve_X9_71 rfl (As := [.ref v0, .int (Int32.ofInt 4)]) rfl (rest := []) rfl ((cc_X9_surely_71 S _ _ _).trans em3) (q := 91) rfl ?_
        exact xr_ireturn i_X9_surely_91 rfl h
      · replace h := (if_neg c5).symm.trans h
        refine xr_ifCond_ne_n i_X9_surely_83 c5 (q := 92) t_X9_surely_83 (q2 := 86) rfl ?_
        refine xr_aload_n i_X9_surely_92 rfl (q := 93) rfl ?_
        refine xr_iload_n i_X9_surely_93 rfl (q := 94) rfl ?_
        refine xr_iload i_X9_surely_94 rfl (q := 96) rfl ?_
        refine xr_iconst i_X9_surely_96 (q := 97) rfl ?_
        refine xr_ixor i_X9_surely_97 (q := 98) rfl ?_
        refine xr_iand i_X9_surely_98 (q := 99) rfl ?_
        obtain ⟨x2, m1, em1, h⟩ := xi_bI_some h
        refine xr_VI i_X9_surely_99 xcve_X9_75 rfl (As := [.ref v0, .int (v2 &&& (v4 ^^^ (Int32.ofInt (-1))))]) rfl (rest := []) rfl ((cc_X9_surely_75 S _ _ _).trans em1) (q := 102) rfl ?_
        refine xr_pop i_X9_surely_102 (q := 103) rfl ?_
        refine xr_iload_n i_X9_surely_103 rfl (q := 104) rfl ?_
        exact xr_ireturn i_X9_surely_104 rfl h
    · replace h := (if_neg c9).symm.trans h
      refine xr_if_icmp_gt_n i_X9_surely_47 c9 (q := 81) t_X9_surely_47 (q2 := 50) rfl ?_
      refine xr_aload_n i_X9_surely_50 rfl (q := 51) rfl ?_
      refine xr_iload i_X9_surely_51 rfl (q := 53) rfl ?_
      obtain ⟨x7, m6, em6, h⟩ := xi_bI_some h
      refine xr_VI i_X9_surely_53 xcve_X9_230 rfl (As := [.ref v0, .int v6]) rfl (rest := []) rfl ((cc_X9_surely_230 S _ _ _).trans em6) (q := 56) rfl ?_
      refine xr_iload_n i_X9_surely_56 rfl (q := 57) rfl ?_
      by_cases c8 : x7 = v1
      · replace h := (if_pos c8).symm.trans h
        refine xr_if_icmp_ne_p i_X9_surely_57 c8 (q := 75) t_X9_surely_57 (q2 := 60) rfl ?_
        refine xr_iload_n i_X9_surely_60 rfl (q := 61) rfl ?_
        refine xr_iload i_X9_surely_61 rfl (q := 63) rfl ?_
        refine xr_iand i_X9_surely_63 (q := 64) rfl ?_
        refine xr_istore_n i_X9_surely_64 rfl (L2 := [some (.ref v0), some (.int v1), some (.int v2), some (.int (v3 &&& v6)), some (.int v4), some (.int v5), some (.int v6)]) rfl (q := 65) rfl ?_
        refine xr_iload i_X9_surely_65 rfl (q := 67) rfl ?_
        refine xr_iload i_X9_surely_67 rfl (q := 69) rfl ?_
        refine xr_ior i_X9_surely_69 (q := 70) rfl ?_
        refine xr_istore i_X9_surely_70 rfl (L2 := [some (.ref v0), some (.int v1), some (.int v2), some (.int (v3 &&& v6)), some (.int (v4 ||| v6)), some (.int v5), some (.int v6)]) rfl (q := 72) rfl ?_
        refine xr_iinc i_X9_surely_72 rfl rfl (L2 := [some (.ref v0), some (.int v1), some (.int v2), some (.int (v3 &&& v6)), some (.int (v4 ||| v6)), some (.int (v5 + Int32.ofInt 1)), some (.int v6)]) rfl (q := 75) rfl ?_
        refine xr_iinc i_X9_surely_75 rfl rfl (L2 := [some (.ref v0), some (.int v1), some (.int v2), some (.int (v3 &&& v6)), some (.int (v4 ||| v6)), some (.int (v5 + Int32.ofInt 1)), some (.int (v6 + Int32.ofInt 1))]) rfl (q := 78) rfl ?_
        refine xr_goto i_X9_surely_78 (q := 44) t_X9_surely_78 ?_
        exact xi_X_le (xi_le_s (xi_le_s (xi_le_s (xi_le_s (xi_le_s (xi_le_s (xi_le_s xi_le_z))))))) (ih _ _ _ _ _ _ _ _ h)
      · replace h := (if_neg c8).symm.trans h
        refine xr_if_icmp_ne_n i_X9_surely_57 c8 (q := 75) t_X9_surely_57 (q2 := 60) rfl ?_
        refine xr_iinc i_X9_surely_75 rfl rfl (L2 := [some (.ref v0), some (.int v1), some (.int v2), some (.int v3), some (.int v4), some (.int v5), some (.int (v6 + Int32.ofInt 1))]) rfl (q := 78) rfl ?_
        refine xr_goto i_X9_surely_78 (q := 44) t_X9_surely_78 ?_
        exact xi_X_le (xi_le_s (xi_le_s (xi_le_s (xi_le_s (xi_le_s (xi_le_s (xi_le_s xi_le_z))))))) (ih _ _ _ _ _ _ _ _ h)
def E_X9_surely (S : xi_S) (v0 : Nat) (v1 : Int32) (m : xi_M) : Option xi_R :=
  xi_bI (E_X9_in0 S v1 (Int32.ofInt 0) ((Int8.ofInt 54).toInt32) m) fun x2 m1 =>
  if x2 = 0 then
    some (some (.int (Int32.ofInt (-1))), m1)
  else
    xi_bI (if S.1 v0 = 11 then E_X9_isAny S v0 m1 else none) fun x4 m3 =>
    if x4 = 0 then
      some (some (.int ((Int8.ofInt (-4)).toInt32)), m3)
    else
      if S.1 v0 = 11 then (S.2.2 v0 5).bind fun b6 =>
        if S.1 b6 = 0 ∧ ¬ ((Int32.ofInt 1) < 0 ∨ S.2.1 b6 ≤ Int32.toNatClampNeg (Int32.ofInt 1)) then
          G_X9_surely_44 S 10000 v0 v1 (((Int32.ofInt 1) <<< ((m3.1 b6 (Int32.toNatClampNeg (Int32.ofInt 1))) &&& 31)) - (Int32.ofInt 1)) (((Int32.ofInt 1) <<< ((m3.1 b6 (Int32.toNatClampNeg (Int32.ofInt 1))) &&& 31)) - (Int32.ofInt 1)) (Int32.ofInt 0) (Int32.ofInt 0) (Int32.ofInt 0) m3
        else none
      else none
def F_X9_surely (S : xi_S) : xi_F := fun As m => match As with
  | [.ref v0, .int v1] => E_X9_surely S v0 v1 m
  | _ => none
set_option maxRecDepth 100000 in
set_option maxHeartbeats 4000000 in
theorem xe_X9_surely {S : xi_S} {res : xi_R} (v0 : Nat) (v1 : Int32) (m : xi_M) (h : E_X9_surely S v0 v1 m = some res) : xi_X S (P_X9_surely S) (0, [some (.ref v0), some (.int v1), none, none, none, none, none], [], m) res := by
  unfold E_X9_surely at h
  refine xr_iload_n i_X9_surely_0 rfl (q := 1) rfl ?_
  refine xr_iconst i_X9_surely_1 (q := 2) rfl ?_
  refine xr_bipush i_X9_surely_2 (q := 4) rfl ?_
  obtain ⟨x2, m1, em1, h⟩ := xi_bI_some h
  refine xr_SI i_X9_surely_4 xcse_X9_63 rfl (As := [.int v1, .int (Int32.ofInt 0), .int ((Int8.ofInt 54).toInt32)]) rfl (rest := []) rfl ((cc_X9_surely_63 S _ _ _ _).trans em1) (q := 7) rfl ?_
  by_cases c9 : x2 = 0
  · replace h := (if_pos c9).symm.trans h
    refine xr_ifCond_ne_p i_X9_surely_7 c9 (q := 12) t_X9_surely_7 (q2 := 10) rfl ?_
    refine xr_iconst i_X9_surely_10 (q := 11) rfl ?_
    exact xr_ireturn i_X9_surely_11 rfl h
  · replace h := (if_neg c9).symm.trans h
    refine xr_ifCond_ne_n i_X9_surely_7 c9 (q := 12) t_X9_surely_7 (q2 := 10) rfl ?_
    refine xr_aload_n i_X9_surely_12 rfl (q := 13) rfl ?_
    obtain ⟨x4, m3, em3, h⟩ := xi_bI_some h
    refine xr_VI i_X9_surely_13 xcve_X9_183 rfl (As := [.ref v0]) rfl (rest := []) rfl ((cc_X9_surely_183 S _ _).trans em3) (q := 16) rfl ?_
    by_cases c8 : x4 = 0
    · replace h := (if_pos c8).symm.trans h
      refine xr_ifCond_ne_p i_X9_surely_16 c8 (q := 22) t_X9_surely_16 (q2 := 19) rfl ?_
      refine xr_bipush i_X9_surely_19 (q := 21) rfl ?_
      exact xr_ireturn i_X9_surely_21 rfl h
    · replace h := (if_neg c8).symm.trans h
      refine xr_ifCond_ne_n i_X9_surely_16 c8 (q := 22) t_X9_surely_16 (q2 := 19) rfl ?_
      refine xr_iconst i_X9_surely_22 (q := 23) rfl ?_
      refine xr_aload_n i_X9_surely_23 rfl (q := 24) rfl ?_
      obtain ⟨c5, h⟩ := xi_if_some h
      obtain ⟨b6, eb6, h⟩ := xi_bind_some h
      refine xr_getR i_X9_surely_24 xfe_X9_25 c5 eb6 (q := 27) rfl ?_
      refine xr_iconst i_X9_surely_27 (q := 28) rfl ?_
      obtain ⟨c7, h⟩ := xi_if_some h
      refine xr_iaload i_X9_surely_28 c7 (q := 29) rfl ?_
      refine xr_ishl i_X9_surely_29 (q := 30) rfl ?_
      refine xr_iconst i_X9_surely_30 (q := 31) rfl ?_
      refine xr_isub i_X9_surely_31 (q := 32) rfl ?_
      refine xr_istore_n i_X9_surely_32 rfl (L2 := [some (.ref v0), some (.int v1), some (.int (((Int32.ofInt 1) <<< ((m3.1 b6 (Int32.toNatClampNeg (Int32.ofInt 1))) &&& 31)) - (Int32.ofInt 1))), none, none, none, none]) rfl (q := 33) rfl ?_
      refine xr_iload_n i_X9_surely_33 rfl (q := 34) rfl ?_
      refine xr_istore_n i_X9_surely_34 rfl (L2 := [some (.ref v0), some (.int v1), some (.int (((Int32.ofInt 1) <<< ((m3.1 b6 (Int32.toNatClampNeg (Int32.ofInt 1))) &&& 31)) - (Int32.ofInt 1))), some (.int (((Int32.ofInt 1) <<< ((m3.1 b6 (Int32.toNatClampNeg (Int32.ofInt 1))) &&& 31)) - (Int32.ofInt 1))), none, none, none]) rfl (q := 35) rfl ?_
      refine xr_iconst i_X9_surely_35 (q := 36) rfl ?_
      refine xr_istore i_X9_surely_36 rfl (L2 := [some (.ref v0), some (.int v1), some (.int (((Int32.ofInt 1) <<< ((m3.1 b6 (Int32.toNatClampNeg (Int32.ofInt 1))) &&& 31)) - (Int32.ofInt 1))), some (.int (((Int32.ofInt 1) <<< ((m3.1 b6 (Int32.toNatClampNeg (Int32.ofInt 1))) &&& 31)) - (Int32.ofInt 1))), some (.int (Int32.ofInt 0)), none, none]) rfl (q := 38) rfl ?_
      refine xr_iconst i_X9_surely_38 (q := 39) rfl ?_
      refine xr_istore i_X9_surely_39 rfl (L2 := [some (.ref v0), some (.int v1), some (.int (((Int32.ofInt 1) <<< ((m3.1 b6 (Int32.toNatClampNeg (Int32.ofInt 1))) &&& 31)) - (Int32.ofInt 1))), some (.int (((Int32.ofInt 1) <<< ((m3.1 b6 (Int32.toNatClampNeg (Int32.ofInt 1))) &&& 31)) - (Int32.ofInt 1))), some (.int (Int32.ofInt 0)), some (.int (Int32.ofInt 0)), none]) rfl (q := 41) rfl ?_
      refine xr_iconst i_X9_surely_41 (q := 42) rfl ?_
      refine xr_istore i_X9_surely_42 rfl (L2 := [some (.ref v0), some (.int v1), some (.int (((Int32.ofInt 1) <<< ((m3.1 b6 (Int32.toNatClampNeg (Int32.ofInt 1))) &&& 31)) - (Int32.ofInt 1))), some (.int (((Int32.ofInt 1) <<< ((m3.1 b6 (Int32.toNatClampNeg (Int32.ofInt 1))) &&& 31)) - (Int32.ofInt 1))), some (.int (Int32.ofInt 0)), some (.int (Int32.ofInt 0)), some (.int (Int32.ofInt 0))]) rfl (q := 44) rfl ?_
      exact xi_X_le (xi_le_s (xi_le_s (xi_le_s (xi_le_s (xi_le_s (xi_le_s (xi_le_s xi_le_z))))))) (xs_X9_surely_44 10000 _ _ _ _ _ _ _ _ h)
set_option maxRecDepth 100000 in
theorem po_X9_surely {l : Launch} {E : xi_E} {S : xi_S} {D : va_G} {tys : List (ClassId × FieldType)} (hC : xCx E S tys) : xi_Pok l E S D vwCl tys xNs RX9 xTs cX9_surely 7 2 (P_X9_surely S) := ⟨xi_dc_ok, by rw [hC.2]; exact xfo_X9, xkio_X9, xklo_X9, xi_calls_ok (ins := .invokestatic) (List.forall_mem_cons.mpr ⟨(xc_X9_63 (sn_X9_in0 hC) (by decide)), fun _ h => absurd h List.not_mem_nil⟩), xi_calls_ok (ins := .invokevirtual) (List.forall_mem_cons.mpr ⟨(xc_X9_71 hC.1 (sn_X9_found hC) (by decide)), List.forall_mem_cons.mpr ⟨(xc_X9_75 hC.1 (sn_X9_tells hC) (by decide)), List.forall_mem_cons.mpr ⟨(xc_X9_183 hC.1 (sn_X9_isAny hC) (by decide)), List.forall_mem_cons.mpr ⟨(xc_X9_230 hC.1 (sn_X9_strengthOf hC) (by decide)), fun _ h => absurd h List.not_mem_nil⟩⟩⟩⟩)⟩
theorem sn_X9_surely {l : Launch} {E : xi_E} {S : xi_S} {D : va_G} {tys : List (ClassId × FieldType)} (hC : xCx E S tys) : ∀ As m1 r m2, F_X9_surely S As m1 = some (r, m2) → xi_Sound l E S D vwCl tys xNs xTs yX9_surely cX9_surely 7 (some .int) 2 As m1 r m2 := by
  intro As m1 r m2 h
  unfold F_X9_surely at h
  split at h
  · exact xi_meth (P := P_X9_surely S) (by decide) hC.1 (po_X9_surely hC) (Nat.le_of_ble_eq_true rfl) rfl (xe_X9_surely _ _ _ h)
  · exact xi_no h
theorem i_X9_comes_0 : xi_dc cX9_comes 0 = some (.aload_n 0, 1) := by decide +kernel
theorem i_X9_comes_1 : xi_dc cX9_comes 1 = some (.getfield 25, 3) := by decide +kernel
theorem i_X9_comes_4 : xi_dc cX9_comes 4 = some (.iconst 0, 1) := by decide +kernel
theorem i_X9_comes_5 : xi_dc cX9_comes 5 = some (.aload_n 0, 1) := by decide +kernel
theorem i_X9_comes_6 : xi_dc cX9_comes 6 = some (.getfield 31, 3) := by decide +kernel
theorem i_X9_comes_9 : xi_dc cX9_comes 9 = some (.iconst 0, 1) := by decide +kernel
theorem i_X9_comes_10 : xi_dc cX9_comes 10 = some (.bipush 34, 2) := by decide +kernel
theorem i_X9_comes_12 : xi_dc cX9_comes 12 = some (.invokestatic 121, 3) := by decide +kernel
theorem i_X9_comes_15 : xi_dc cX9_comes 15 = some (.iconst 0, 1) := by decide +kernel
theorem i_X9_comes_16 : xi_dc cX9_comes 16 = some (.istore_n 3, 1) := by decide +kernel
theorem i_X9_comes_17 : xi_dc cX9_comes 17 = some (.iload_n 3, 1) := by decide +kernel
theorem i_X9_comes_18 : xi_dc cX9_comes 18 = some (.iload_n 2, 1) := by decide +kernel
theorem i_X9_comes_19 : xi_dc cX9_comes 19 = some (.if_icmp .ge 100, 3) := by decide +kernel
theorem t_X9_comes_19 : ((19 : Nat) : Int) + 100 = ((119 : Nat) : Int) := by decide +kernel
theorem i_X9_comes_22 : xi_dc cX9_comes 22 = some (.iload_n 1, 1) := by decide +kernel
theorem i_X9_comes_23 : xi_dc cX9_comes 23 = some (.istore 4, 2) := by decide +kernel
theorem i_X9_comes_25 : xi_dc cX9_comes 25 = some (.iload_n 2, 1) := by decide +kernel
theorem i_X9_comes_26 : xi_dc cX9_comes 26 = some (.iconst 1, 1) := by decide +kernel
theorem i_X9_comes_27 : xi_dc cX9_comes 27 = some (.isub, 1) := by decide +kernel
theorem i_X9_comes_28 : xi_dc cX9_comes 28 = some (.istore 5, 2) := by decide +kernel
theorem i_X9_comes_30 : xi_dc cX9_comes 30 = some (.iload 5, 2) := by decide +kernel
theorem i_X9_comes_32 : xi_dc cX9_comes 32 = some (.iload_n 3, 1) := by decide +kernel
theorem i_X9_comes_33 : xi_dc cX9_comes 33 = some (.if_icmp .le 16, 3) := by decide +kernel
theorem t_X9_comes_33 : ((33 : Nat) : Int) + 16 = ((49 : Nat) : Int) := by decide +kernel
theorem i_X9_comes_36 : xi_dc cX9_comes 36 = some (.iload 4, 2) := by decide +kernel
theorem i_X9_comes_38 : xi_dc cX9_comes 38 = some (.bipush 9, 2) := by decide +kernel
theorem i_X9_comes_40 : xi_dc cX9_comes 40 = some (.idiv, 1) := by decide +kernel
theorem i_X9_comes_41 : xi_dc cX9_comes 41 = some (.istore 4, 2) := by decide +kernel
theorem i_X9_comes_43 : xi_dc cX9_comes 43 = some (.iinc 5 (-1), 3) := by decide +kernel
theorem i_X9_comes_46 : xi_dc cX9_comes 46 = some (.goto (-16), 3) := by decide +kernel
theorem t_X9_comes_46 : ((46 : Nat) : Int) + (-16) = ((30 : Nat) : Int) := by decide +kernel
theorem i_X9_comes_49 : xi_dc cX9_comes 49 = some (.iload 4, 2) := by decide +kernel
theorem i_X9_comes_51 : xi_dc cX9_comes 51 = some (.bipush 9, 2) := by decide +kernel
theorem i_X9_comes_53 : xi_dc cX9_comes 53 = some (.irem, 1) := by decide +kernel
theorem i_X9_comes_54 : xi_dc cX9_comes 54 = some (.iconst 1, 1) := by decide +kernel
theorem i_X9_comes_55 : xi_dc cX9_comes 55 = some (.isub, 1) := by decide +kernel
theorem i_X9_comes_56 : xi_dc cX9_comes 56 = some (.istore 5, 2) := by decide +kernel
theorem i_X9_comes_58 : xi_dc cX9_comes 58 = some (.iload 5, 2) := by decide +kernel
theorem i_X9_comes_60 : xi_dc cX9_comes 60 = some (.ifCond .lt 53, 3) := by decide +kernel
theorem t_X9_comes_60 : ((60 : Nat) : Int) + 53 = ((113 : Nat) : Int) := by decide +kernel
theorem i_X9_comes_63 : xi_dc cX9_comes 63 = some (.iload 5, 2) := by decide +kernel
theorem i_X9_comes_65 : xi_dc cX9_comes 65 = some (.iconst 2, 1) := by decide +kernel
theorem i_X9_comes_66 : xi_dc cX9_comes 66 = some (.irem, 1) := by decide +kernel
theorem i_X9_comes_67 : xi_dc cX9_comes 67 = some (.ifCond .ne 7, 3) := by decide +kernel
theorem t_X9_comes_67 : ((67 : Nat) : Int) + 7 = ((74 : Nat) : Int) := by decide +kernel
theorem i_X9_comes_70 : xi_dc cX9_comes 70 = some (.iconst (-1), 1) := by decide +kernel
theorem i_X9_comes_71 : xi_dc cX9_comes 71 = some (.goto 4, 3) := by decide +kernel
theorem t_X9_comes_71 : ((71 : Nat) : Int) + 4 = ((75 : Nat) : Int) := by decide +kernel
theorem i_X9_comes_74 : xi_dc cX9_comes 74 = some (.iconst 1, 1) := by decide +kernel
theorem i_X9_comes_75 : xi_dc cX9_comes 75 = some (.istore 6, 2) := by decide +kernel
theorem i_X9_comes_77 : xi_dc cX9_comes 77 = some (.aload_n 0, 1) := by decide +kernel
theorem i_X9_comes_78 : xi_dc cX9_comes 78 = some (.getfield 31, 3) := by decide +kernel
theorem i_X9_comes_81 : xi_dc cX9_comes 81 = some (.iload 5, 2) := by decide +kernel
theorem i_X9_comes_83 : xi_dc cX9_comes 83 = some (.iconst 2, 1) := by decide +kernel
theorem i_X9_comes_84 : xi_dc cX9_comes 84 = some (.idiv, 1) := by decide +kernel
theorem i_X9_comes_85 : xi_dc cX9_comes 85 = some (.iload 6, 2) := by decide +kernel
theorem i_X9_comes_87 : xi_dc cX9_comes 87 = some (.invokestatic 193, 3) := by decide +kernel
theorem i_X9_comes_90 : xi_dc cX9_comes 90 = some (.ifCond .ne 6, 3) := by decide +kernel
theorem t_X9_comes_90 : ((90 : Nat) : Int) + 6 = ((96 : Nat) : Int) := by decide +kernel
theorem i_X9_comes_93 : xi_dc cX9_comes 93 = some (.bipush (-9), 2) := by decide +kernel
theorem i_X9_comes_95 : xi_dc cX9_comes 95 = some (.ireturn, 1) := by decide +kernel
theorem i_X9_comes_96 : xi_dc cX9_comes 96 = some (.aload_n 0, 1) := by decide +kernel
theorem i_X9_comes_97 : xi_dc cX9_comes 97 = some (.getfield 31, 3) := by decide +kernel
theorem i_X9_comes_100 : xi_dc cX9_comes 100 = some (.bipush 6, 2) := by decide +kernel
theorem i_X9_comes_102 : xi_dc cX9_comes 102 = some (.iload 5, 2) := by decide +kernel
theorem i_X9_comes_104 : xi_dc cX9_comes 104 = some (.iconst 2, 1) := by decide +kernel
theorem i_X9_comes_105 : xi_dc cX9_comes 105 = some (.idiv, 1) := by decide +kernel
theorem i_X9_comes_106 : xi_dc cX9_comes 106 = some (.iadd, 1) := by decide +kernel
theorem i_X9_comes_107 : xi_dc cX9_comes 107 = some (.dup2, 1) := by decide +kernel
theorem i_X9_comes_108 : xi_dc cX9_comes 108 = some (.iaload, 1) := by decide +kernel
theorem i_X9_comes_109 : xi_dc cX9_comes 109 = some (.iload 6, 2) := by decide +kernel
theorem i_X9_comes_111 : xi_dc cX9_comes 111 = some (.iadd, 1) := by decide +kernel
theorem i_X9_comes_112 : xi_dc cX9_comes 112 = some (.iastore, 1) := by decide +kernel
theorem i_X9_comes_113 : xi_dc cX9_comes 113 = some (.iinc 3 1, 3) := by decide +kernel
theorem i_X9_comes_116 : xi_dc cX9_comes 116 = some (.goto (-99), 3) := by decide +kernel
theorem t_X9_comes_116 : ((116 : Nat) : Int) + (-99) = ((17 : Nat) : Int) := by decide +kernel
theorem i_X9_comes_119 : xi_dc cX9_comes 119 = some (.aload_n 0, 1) := by decide +kernel
theorem i_X9_comes_120 : xi_dc cX9_comes 120 = some (.getfield 31, 3) := by decide +kernel
theorem i_X9_comes_123 : xi_dc cX9_comes 123 = some (.invokestatic 199, 3) := by decide +kernel
theorem i_X9_comes_126 : xi_dc cX9_comes 126 = some (.ireturn, 1) := by decide +kernel
def P_X9_comes (S : xi_S) : xi_P := (xi_dc cX9_comes, xi_tab xfl_X9, xi_tab xki_X9, xi_tab xkl_X9, xi_tab xcs_X9, xi_tab xcv_X9, xi_calls [(121, xi_wS 5 (F_X9_copies S)), (193, xi_wS 3 (F_X9_mayMove S)), (199, xi_wS 1 (F_X9_ahead S))], xi_calls [], 1)
theorem cc_X9_comes_121 (S : xi_S) (a0 : Nat) (a1 : Int32) (a2 : Nat) (a3 : Int32) (a4 : Int32) (m : xi_M) : (P_X9_comes S).2.2.2.2.2.2.1 121 [.ref a0, .int a1, .ref a2, .int a3, .int a4] m = (E_X9_copies S a0 a1 a2 a3 a4 m) := by
  show xi_calls [(121, xi_wS 5 (F_X9_copies S)), (193, xi_wS 3 (F_X9_mayMove S)), (199, xi_wS 1 (F_X9_ahead S))] 121 [.ref a0, .int a1, .ref a2, .int a3, .int a4] m = _
  refine Eq.trans (b := xi_wS 5 (F_X9_copies S) [.ref a0, .int a1, .ref a2, .int a3, .int a4] m) (xi_calls_hit rfl) ?_
  exact xi_wS_eq rfl
theorem cc_X9_comes_193 (S : xi_S) (a0 : Nat) (a1 : Int32) (a2 : Int32) (m : xi_M) : (P_X9_comes S).2.2.2.2.2.2.1 193 [.ref a0, .int a1, .int a2] m = (E_X9_mayMove S a0 a1 a2 m) := by
  show xi_calls [(121, xi_wS 5 (F_X9_copies S)), (193, xi_wS 3 (F_X9_mayMove S)), (199, xi_wS 1 (F_X9_ahead S))] 193 [.ref a0, .int a1, .int a2] m = _
  refine Eq.trans (b := xi_calls [(193, xi_wS 3 (F_X9_mayMove S)), (199, xi_wS 1 (F_X9_ahead S))] 193 [.ref a0, .int a1, .int a2] m) (xi_calls_miss rfl) ?_
  refine Eq.trans (b := xi_wS 3 (F_X9_mayMove S) [.ref a0, .int a1, .int a2] m) (xi_calls_hit rfl) ?_
  exact xi_wS_eq rfl
theorem cc_X9_comes_199 (S : xi_S) (a0 : Nat) (m : xi_M) : (P_X9_comes S).2.2.2.2.2.2.1 199 [.ref a0] m = (E_X9_ahead S a0 m) := by
  show xi_calls [(121, xi_wS 5 (F_X9_copies S)), (193, xi_wS 3 (F_X9_mayMove S)), (199, xi_wS 1 (F_X9_ahead S))] 199 [.ref a0] m = _
  refine Eq.trans (b := xi_calls [(193, xi_wS 3 (F_X9_mayMove S)), (199, xi_wS 1 (F_X9_ahead S))] 199 [.ref a0] m) (xi_calls_miss rfl) ?_
  refine Eq.trans (b := xi_calls [(199, xi_wS 1 (F_X9_ahead S))] 199 [.ref a0] m) (xi_calls_miss rfl) ?_
  refine Eq.trans (b := xi_wS 1 (F_X9_ahead S) [.ref a0] m) (xi_calls_hit rfl) ?_
  exact xi_wS_eq rfl
def G_X9_comes_30 (S : xi_S) (k17 : Nat → Int32 → Int32 → Int32 → xi_M → Option xi_R) : Nat → Nat → Int32 → Int32 → Int32 → Int32 → Int32 → xi_M → Option xi_R
  | 0, _, _, _, _, _, _, _ => none
  | n + 1, v0, v1, v2, v3, v4, v5, m =>
    if v5 ≤ v3 then
      if ((Int8.ofInt 9).toInt32) = 0 then none else
      if ((v4 - v4 / ((Int8.ofInt 9).toInt32) * ((Int8.ofInt 9).toInt32)) - (Int32.ofInt 1)) < 0 then
        k17 v0 v1 v2 (v3 + Int32.ofInt 1) m
      else
        if (Int32.ofInt 2) = 0 then none else
        if (((v4 - v4 / ((Int8.ofInt 9).toInt32) * ((Int8.ofInt 9).toInt32)) - (Int32.ofInt 1)) - ((v4 - v4 / ((Int8.ofInt 9).toInt32) * ((Int8.ofInt 9).toInt32)) - (Int32.ofInt 1)) / (Int32.ofInt 2) * (Int32.ofInt 2)) = 0 then
          if S.1 v0 = 11 then (S.2.2 v0 7).bind fun b15 =>
            if (Int32.ofInt 2) = 0 then none else
            xi_bI (E_X9_mayMove S b15 (((v4 - v4 / ((Int8.ofInt 9).toInt32) * ((Int8.ofInt 9).toInt32)) - (Int32.ofInt 1)) / (Int32.ofInt 2)) (Int32.ofInt (-1)) m) fun x18 m17 =>
            if x18 = 0 then
              some (some (.int ((Int8.ofInt (-9)).toInt32)), m17)
            else
              if S.1 v0 = 11 then (S.2.2 v0 7).bind fun b20 =>
                if (Int32.ofInt 2) = 0 then none else
                if S.1 b20 = 0 ∧ ¬ ((((Int8.ofInt 6).toInt32) + (((v4 - v4 / ((Int8.ofInt 9).toInt32) * ((Int8.ofInt 9).toInt32)) - (Int32.ofInt 1)) / (Int32.ofInt 2))) < 0 ∨ S.2.1 b20 ≤ Int32.toNatClampNeg (((Int8.ofInt 6).toInt32) + (((v4 - v4 / ((Int8.ofInt 9).toInt32) * ((Int8.ofInt 9).toInt32)) - (Int32.ofInt 1)) / (Int32.ofInt 2)))) then
                  if S.1 b20 = 0 ∧ ¬ ((((Int8.ofInt 6).toInt32) + (((v4 - v4 / ((Int8.ofInt 9).toInt32) * ((Int8.ofInt 9).toInt32)) - (Int32.ofInt 1)) / (Int32.ofInt 2))) < 0 ∨ S.2.1 b20 ≤ Int32.toNatClampNeg (((Int8.ofInt 6).toInt32) + (((v4 - v4 / ((Int8.ofInt 9).toInt32) * ((Int8.ofInt 9).toInt32)) - (Int32.ofInt 1)) / (Int32.ofInt 2)))) then
                    k17 v0 v1 v2 (v3 + Int32.ofInt 1) (xi_wI m17 b20 (Int32.toNatClampNeg (((Int8.ofInt 6).toInt32) + (((v4 - v4 / ((Int8.ofInt 9).toInt32) * ((Int8.ofInt 9).toInt32)) - (Int32.ofInt 1)) / (Int32.ofInt 2)))) ((m17.1 b20 (Int32.toNatClampNeg (((Int8.ofInt 6).toInt32) + (((v4 - v4 / ((Int8.ofInt 9).toInt32) * ((Int8.ofInt 9).toInt32)) - (Int32.ofInt 1)) / (Int32.ofInt 2))))) + (Int32.ofInt (-1))))
                  else none
                else none
              else none
          else none
        else
          if S.1 v0 = 11 then (S.2.2 v0 7).bind fun b4 =>
            if (Int32.ofInt 2) = 0 then none else
            xi_bI (E_X9_mayMove S b4 (((v4 - v4 / ((Int8.ofInt 9).toInt32) * ((Int8.ofInt 9).toInt32)) - (Int32.ofInt 1)) / (Int32.ofInt 2)) (Int32.ofInt 1) m) fun x7 m6 =>
            if x7 = 0 then
              some (some (.int ((Int8.ofInt (-9)).toInt32)), m6)
            else
              if S.1 v0 = 11 then (S.2.2 v0 7).bind fun b9 =>
                if (Int32.ofInt 2) = 0 then none else
                if S.1 b9 = 0 ∧ ¬ ((((Int8.ofInt 6).toInt32) + (((v4 - v4 / ((Int8.ofInt 9).toInt32) * ((Int8.ofInt 9).toInt32)) - (Int32.ofInt 1)) / (Int32.ofInt 2))) < 0 ∨ S.2.1 b9 ≤ Int32.toNatClampNeg (((Int8.ofInt 6).toInt32) + (((v4 - v4 / ((Int8.ofInt 9).toInt32) * ((Int8.ofInt 9).toInt32)) - (Int32.ofInt 1)) / (Int32.ofInt 2)))) then
                  if S.1 b9 = 0 ∧ ¬ ((((Int8.ofInt 6).toInt32) + (((v4 - v4 / ((Int8.ofInt 9).toInt32) * ((Int8.ofInt 9).toInt32)) - (Int32.ofInt 1)) / (Int32.ofInt 2))) < 0 ∨ S.2.1 b9 ≤ Int32.toNatClampNeg (((Int8.ofInt 6).toInt32) + (((v4 - v4 / ((Int8.ofInt 9).toInt32) * ((Int8.ofInt 9).toInt32)) - (Int32.ofInt 1)) / (Int32.ofInt 2)))) then
                    k17 v0 v1 v2 (v3 + Int32.ofInt 1) (xi_wI m6 b9 (Int32.toNatClampNeg (((Int8.ofInt 6).toInt32) + (((v4 - v4 / ((Int8.ofInt 9).toInt32) * ((Int8.ofInt 9).toInt32)) - (Int32.ofInt 1)) / (Int32.ofInt 2)))) ((m6.1 b9 (Int32.toNatClampNeg (((Int8.ofInt 6).toInt32) + (((v4 - v4 / ((Int8.ofInt 9).toInt32) * ((Int8.ofInt 9).toInt32)) - (Int32.ofInt 1)) / (Int32.ofInt 2))))) + (Int32.ofInt 1)))
                  else none
                else none
              else none
          else none
    else
      if ((Int8.ofInt 9).toInt32) = 0 then none else
      G_X9_comes_30 S k17 n v0 v1 v2 v3 (v4 / ((Int8.ofInt 9).toInt32)) (v5 + Int32.ofInt (-1)) m
set_option maxRecDepth 100000 in
set_option maxHeartbeats 4000000 in
theorem xs_X9_comes_30 {S : xi_S} {res : xi_R} {k17 : Nat → Int32 → Int32 → Int32 → xi_M → Option xi_R} (hk17 : ∀ (v0 : Nat) (v1 : Int32) (v2 : Int32) (v3 : Int32) (m : xi_M), k17 v0 v1 v2 v3 m = some res → xi_X S (P_X9_comes S) (17, [some (.ref v0), some (.int v1), some (.int v2), some (.int v3), none, none, none], [], m) res) : ∀ (n : Nat) (v0 : Nat) (v1 : Int32) (v2 : Int32) (v3 : Int32) (v4 : Int32) (v5 : Int32) (m : xi_M), G_X9_comes_30 S k17 n v0 v1 v2 v3 v4 v5 m = some res → xi_X S (P_X9_comes S) (30, [some (.ref v0), some (.int v1), some (.int v2), some (.int v3), some (.int v4), some (.int v5), none], [], m) res := by
  intro n
  induction n with
  | zero => intro v0 v1 v2 v3 v4 v5 m h; exact xi_no h
  | succ n ih =>
    intro v0 v1 v2 v3 v4 v5 m h
    unfold G_X9_comes_30 at h
    refine xr_iload i_X9_comes_30 rfl (q := 32) rfl ?_
    refine xr_iload_n i_X9_comes_32 rfl (q := 33) rfl ?_
    by_cases c28 : v5 ≤ v3
    · replace h := (if_pos c28).symm.trans h
      refine xr_if_icmp_le_p i_X9_comes_33 c28 (q := 49) t_X9_comes_33 (q2 := 36) rfl ?_
      refine xr_iload i_X9_comes_49 rfl (q := 51) rfl ?_
      refine xr_bipush i_X9_comes_51 (q := 53) rfl ?_
      obtain ⟨c1, h⟩ := xi_ifn_some h
      refine xr_irem i_X9_comes_53 c1 (q := 54) rfl ?_
      refine xr_iconst i_X9_comes_54 (q := 55) rfl ?_
      refine xr_isub i_X9_comes_55 (q := 56) rfl ?_
      refine xr_istore i_X9_comes_56 rfl (L2 := [some (.ref v0), some (.int v1), some (.int v2), some (.int v3), some (.int v4), some (.int ((v4 - v4 / ((Int8.ofInt 9).toInt32) * ((Int8.ofInt 9).toInt32)) - (Int32.ofInt 1))), none]) rfl (q := 58) rfl ?_
      refine xr_iload i_X9_comes_58 rfl (q := 60) rfl ?_
      by_cases c26 : ((v4 - v4 / ((Int8.ofInt 9).toInt32) * ((Int8.ofInt 9).toInt32)) - (Int32.ofInt 1)) < 0
      · replace h := (if_pos c26).symm.trans h
        refine xr_ifCond_lt_p i_X9_comes_60 c26 (q := 113) t_X9_comes_60 (q2 := 63) rfl ?_
        refine xr_iinc i_X9_comes_113 rfl rfl (L2 := [some (.ref v0), some (.int v1), some (.int v2), some (.int (v3 + Int32.ofInt 1)), some (.int v4), some (.int ((v4 - v4 / ((Int8.ofInt 9).toInt32) * ((Int8.ofInt 9).toInt32)) - (Int32.ofInt 1))), none]) rfl (q := 116) rfl ?_
        refine xr_goto i_X9_comes_116 (q := 17) t_X9_comes_116 ?_
        exact xi_X_le (xi_le_s (xi_le_s (xi_le_s (xi_le_s (xi_le_n (xi_le_n (xi_le_n xi_le_z))))))) (hk17 _ _ _ _ _ h)
      · replace h := (if_neg c26).symm.trans h
        refine xr_ifCond_lt_n i_X9_comes_60 c26 (q := 113) t_X9_comes_60 (q2 := 63) rfl ?_
        refine xr_iload i_X9_comes_63 rfl (q := 65) rfl ?_
        refine xr_iconst i_X9_comes_65 (q := 66) rfl ?_
        obtain ⟨c2, h⟩ := xi_ifn_some h
        refine xr_irem i_X9_comes_66 c2 (q := 67) rfl ?_
        by_cases c25 : (((v4 - v4 / ((Int8.ofInt 9).toInt32) * ((Int8.ofInt 9).toInt32)) - (Int32.ofInt 1)) - ((v4 - v4 / ((Int8.ofInt 9).toInt32) * ((Int8.ofInt 9).toInt32)) - (Int32.ofInt 1)) / (Int32.ofInt 2) * (Int32.ofInt 2)) = 0
        · replace h := (if_pos c25).symm.trans h
          refine xr_ifCond_ne_p i_X9_comes_67 c25 (q := 74) t_X9_comes_67 (q2 := 70) rfl ?_
          refine xr_iconst i_X9_comes_70 (q := 71) rfl ?_
          refine xr_goto i_X9_comes_71 (q := 75) t_X9_comes_71 ?_
          refine xr_istore i_X9_comes_75 rfl (L2 := [some (.ref v0), some (.int v1), some (.int v2), some (.int v3), some (.int v4), some (.int ((v4 - v4 / ((Int8.ofInt 9).toInt32) * ((Int8.ofInt 9).toInt32)) - (Int32.ofInt 1))), some (.int (Int32.ofInt (-1)))]) rfl (q := 77) rfl ?_
          refine xr_aload_n i_X9_comes_77 rfl (q := 78) rfl ?_
          obtain ⟨c14, h⟩ := xi_if_some h
          obtain ⟨b15, eb15, h⟩ := xi_bind_some h
          refine xr_getR i_X9_comes_78 xfe_X9_31 c14 eb15 (q := 81) rfl ?_
          refine xr_iload i_X9_comes_81 rfl (q := 83) rfl ?_
          refine xr_iconst i_X9_comes_83 (q := 84) rfl ?_
          obtain ⟨c16, h⟩ := xi_ifn_some h
          refine xr_idiv i_X9_comes_84 c16 (q := 85) rfl ?_
          refine xr_iload i_X9_comes_85 rfl (q := 87) rfl ?_
          obtain ⟨x18, m17, em17, h⟩ := xi_bI_some h
          refine xr_SI i_X9_comes_87 xcse_X9_193 rfl (As := [.ref b15, .int (((v4 - v4 / ((Int8.ofInt 9).toInt32) * ((Int8.ofInt 9).toInt32)) - (Int32.ofInt 1)) / (Int32.ofInt 2)), .int (Int32.ofInt (-1))]) rfl (rest := []) rfl ((cc_X9_comes_193 S _ _ _ _).trans em17) (q := 90) rfl ?_
          by_cases c24 : x18 = 0
          · replace h := (if_pos c24).symm.trans h
            refine xr_ifCond_ne_p i_X9_comes_90 c24 (q := 96) t_X9_comes_90 (q2 := 93) rfl ?_
            refine xr_bipush i_X9_comes_93 (q := 95) rfl ?_
            exact xr_ireturn i_X9_comes_95 rfl h
          · replace h := (if_neg c24).symm.trans h
            refine xr_ifCond_ne_n i_X9_comes_90 c24 (q := 96) t_X9_comes_90 (q2 := 93) rfl ?_
            refine xr_aload_n i_X9_comes_96 rfl (q := 97) rfl ?_
            obtain ⟨c19, h⟩ := xi_if_some h
            obtain ⟨b20, eb20, h⟩ := xi_bind_some h
            refine xr_getR i_X9_comes_97 xfe_X9_31 c19 eb20 (q := 100) rfl ?_
            refine xr_bipush i_X9_comes_100 (q := 102) rfl ?_
            refine xr_iload i_X9_comes_102 rfl (q := 104) rfl ?_
            refine xr_iconst i_X9_comes_104 (q := 105) rfl ?_
            obtain ⟨c21, h⟩ := xi_ifn_some h
            refine xr_idiv i_X9_comes_105 c21 (q := 106) rfl ?_
            refine xr_iadd i_X9_comes_106 (q := 107) rfl ?_
            refine xr_dup2 i_X9_comes_107 (q := 108) rfl ?_
            obtain ⟨c22, h⟩ := xi_if_some h
            refine xr_iaload i_X9_comes_108 c22 (q := 109) rfl ?_
            refine xr_iload i_X9_comes_109 rfl (q := 111) rfl ?_
            refine xr_iadd i_X9_comes_111 (q := 112) rfl ?_
            obtain ⟨c23, h⟩ := xi_if_some h
            refine xr_iastore i_X9_comes_112 c23 (q := 113) rfl ?_
            refine xr_iinc i_X9_comes_113 rfl rfl (L2 := [some (.ref v0), some (.int v1), some (.int v2), some (.int (v3 + Int32.ofInt 1)), some (.int v4), some (.int ((v4 - v4 / ((Int8.ofInt 9).toInt32) * ((Int8.ofInt 9).toInt32)) - (Int32.ofInt 1))), some (.int (Int32.ofInt (-1)))]) rfl (q := 116) rfl ?_
            refine xr_goto i_X9_comes_116 (q := 17) t_X9_comes_116 ?_
            exact xi_X_le (xi_le_s (xi_le_s (xi_le_s (xi_le_s (xi_le_n (xi_le_n (xi_le_n xi_le_z))))))) (hk17 _ _ _ _ _ h)
        · replace h := (if_neg c25).symm.trans h
          refine xr_ifCond_ne_n i_X9_comes_67 c25 (q := 74) t_X9_comes_67 (q2 := 70) rfl ?_
          refine xr_iconst i_X9_comes_74 (q := 75) rfl ?_
          refine xr_istore i_X9_comes_75 rfl (L2 := [some (.ref v0), some (.int v1), some (.int v2), some (.int v3), some (.int v4), some (.int ((v4 - v4 / ((Int8.ofInt 9).toInt32) * ((Int8.ofInt 9).toInt32)) - (Int32.ofInt 1))), some (.int (Int32.ofInt 1))]) rfl (q := 77) rfl ?_
          refine xr_aload_n i_X9_comes_77 rfl (q := 78) rfl ?_
          obtain ⟨c3, h⟩ := xi_if_some h
          obtain ⟨b4, eb4, h⟩ := xi_bind_some h
          refine xr_getR i_X9_comes_78 xfe_X9_31 c3 eb4 (q := 81) rfl ?_
          refine xr_iload i_X9_comes_81 rfl (q := 83) rfl ?_
          refine xr_iconst i_X9_comes_83 (q := 84) rfl ?_
          obtain ⟨c5, h⟩ := xi_ifn_some h
          refine xr_idiv i_X9_comes_84 c5 (q := 85) rfl ?_
          refine xr_iload i_X9_comes_85 rfl (q := 87) rfl ?_
          obtain ⟨x7, m6, em6, h⟩ := xi_bI_some h
          refine xr_SI i_X9_comes_87 xcse_X9_193 rfl (As := [.ref b4, .int (((v4 - v4 / ((Int8.ofInt 9).toInt32) * ((Int8.ofInt 9).toInt32)) - (Int32.ofInt 1)) / (Int32.ofInt 2)), .int (Int32.ofInt 1)]) rfl (rest := []) rfl ((cc_X9_comes_193 S _ _ _ _).trans em6) (q := 90) rfl ?_
          by_cases c13 : x7 = 0
          · replace h := (if_pos c13).symm.trans h
            refine xr_ifCond_ne_p i_X9_comes_90 c13 (q := 96) t_X9_comes_90 (q2 := 93) rfl ?_
            refine xr_bipush i_X9_comes_93 (q := 95) rfl ?_
            exact xr_ireturn i_X9_comes_95 rfl h
          · replace h := (if_neg c13).symm.trans h
            refine xr_ifCond_ne_n i_X9_comes_90 c13 (q := 96) t_X9_comes_90 (q2 := 93) rfl ?_
            refine xr_aload_n i_X9_comes_96 rfl (q := 97) rfl ?_
            obtain ⟨c8, h⟩ := xi_if_some h
            obtain ⟨b9, eb9, h⟩ := xi_bind_some h
            refine xr_getR i_X9_comes_97 xfe_X9_31 c8 eb9 (q := 100) rfl ?_
            refine xr_bipush i_X9_comes_100 (q := 102) rfl ?_
            refine xr_iload i_X9_comes_102 rfl (q := 104) rfl ?_
            refine xr_iconst i_X9_comes_104 (q := 105) rfl ?_
            obtain ⟨c10, h⟩ := xi_ifn_some h
            refine xr_idiv i_X9_comes_105 c10 (q := 106) rfl ?_
            refine xr_iadd i_X9_comes_106 (q := 107) rfl ?_
            refine xr_dup2 i_X9_comes_107 (q := 108) rfl ?_
            obtain ⟨c11, h⟩ := xi_if_some h
            refine xr_iaload i_X9_comes_108 c11 (q := 109) rfl ?_
            refine xr_iload i_X9_comes_109 rfl (q := 111) rfl ?_
            refine xr_iadd i_X9_comes_111 (q := 112) rfl ?_
            obtain ⟨c12, h⟩ := xi_if_some h
            refine xr_iastore i_X9_comes_112 c12 (q := 113) rfl ?_
            refine xr_iinc i_X9_comes_113 rfl rfl (L2 := [some (.ref v0), some (.int v1), some (.int v2), some (.int (v3 + Int32.ofInt 1)), some (.int v4), some (.int ((v4 - v4 / ((Int8.ofInt 9).toInt32) * ((Int8.ofInt 9).toInt32)) - (Int32.ofInt 1))), some (.int (Int32.ofInt 1))]) rfl (q := 116) rfl ?_
            refine xr_goto i_X9_comes_116 (q := 17) t_X9_comes_116 ?_
            exact xi_X_le (xi_le_s (xi_le_s (xi_le_s (xi_le_s (xi_le_n (xi_le_n (xi_le_n xi_le_z))))))) (hk17 _ _ _ _ _ h)
    · replace h := (if_neg c28).symm.trans h
      refine xr_if_icmp_le_n i_X9_comes_33 c28 (q := 49) t_X9_comes_33 (q2 := 36) rfl ?_
      refine xr_iload i_X9_comes_36 rfl (q := 38) rfl ?_
      refine xr_bipush i_X9_comes_38 (q := 40) rfl ?_
      obtain ⟨c27, h⟩ := xi_ifn_some h
      refine xr_idiv i_X9_comes_40 c27 (q := 41) rfl ?_
      refine xr_istore i_X9_comes_41 rfl (L2 := [some (.ref v0), some (.int v1), some (.int v2), some (.int v3), some (.int (v4 / ((Int8.ofInt 9).toInt32))), some (.int v5), none]) rfl (q := 43) rfl ?_
      refine xr_iinc i_X9_comes_43 rfl rfl (L2 := [some (.ref v0), some (.int v1), some (.int v2), some (.int v3), some (.int (v4 / ((Int8.ofInt 9).toInt32))), some (.int (v5 + Int32.ofInt (-1))), none]) rfl (q := 46) rfl ?_
      refine xr_goto i_X9_comes_46 (q := 30) t_X9_comes_46 ?_
      exact xi_X_le (xi_le_s (xi_le_s (xi_le_s (xi_le_s (xi_le_s (xi_le_s (xi_le_n xi_le_z))))))) (ih _ _ _ _ _ _ _ h)
def G_X9_comes_17 (S : xi_S) : Nat → Nat → Int32 → Int32 → Int32 → xi_M → Option xi_R
  | 0, _, _, _, _, _ => none
  | n + 1, v0, v1, v2, v3, m =>
    if v2 ≤ v3 then
      if S.1 v0 = 11 then (S.2.2 v0 7).bind fun b2 =>
        xi_bI (E_X9_ahead S b2 m) fun x4 m3 =>
        some (some (.int x4), m3)
      else none
    else
      G_X9_comes_30 S (G_X9_comes_17 S n) 10000 v0 v1 v2 v3 v1 (v2 - (Int32.ofInt 1)) m
set_option maxRecDepth 100000 in
set_option maxHeartbeats 4000000 in
theorem xs_X9_comes_17 {S : xi_S} {res : xi_R} : ∀ (n : Nat) (v0 : Nat) (v1 : Int32) (v2 : Int32) (v3 : Int32) (m : xi_M), G_X9_comes_17 S n v0 v1 v2 v3 m = some res → xi_X S (P_X9_comes S) (17, [some (.ref v0), some (.int v1), some (.int v2), some (.int v3), none, none, none], [], m) res := by
  intro n
  induction n with
  | zero => intro v0 v1 v2 v3 m h; exact xi_no h
  | succ n ih =>
    intro v0 v1 v2 v3 m h
    unfold G_X9_comes_17 at h
    refine xr_iload_n i_X9_comes_17 rfl (q := 18) rfl ?_
    refine xr_iload_n i_X9_comes_18 rfl (q := 19) rfl ?_
    by_cases c5 : v2 ≤ v3
    · replace h := (if_pos c5).symm.trans h
      refine xr_if_icmp_ge_p i_X9_comes_19 c5 (q := 119) t_X9_comes_19 (q2 := 22) rfl ?_
      refine xr_aload_n i_X9_comes_119 rfl (q := 120) rfl ?_
      obtain ⟨c1, h⟩ := xi_if_some h
      obtain ⟨b2, eb2, h⟩ := xi_bind_some h
      refine xr_getR i_X9_comes_120 xfe_X9_31 c1 eb2 (q := 123) rfl ?_
      obtain ⟨x4, m3, em3, h⟩ := xi_bI_some h
      refine xr_SI i_X9_comes_123 xcse_X9_199 rfl (As := [.ref b2]) rfl (rest := []) rfl ((cc_X9_comes_199 S _ _).trans em3) (q := 126) rfl ?_
      exact xr_ireturn i_X9_comes_126 rfl h
    · replace h := (if_neg c5).symm.trans h
      refine xr_if_icmp_ge_n i_X9_comes_19 c5 (q := 119) t_X9_comes_19 (q2 := 22) rfl ?_
      refine xr_iload_n i_X9_comes_22 rfl (q := 23) rfl ?_
      refine xr_istore i_X9_comes_23 rfl (L2 := [some (.ref v0), some (.int v1), some (.int v2), some (.int v3), some (.int v1), none, none]) rfl (q := 25) rfl ?_
      refine xr_iload_n i_X9_comes_25 rfl (q := 26) rfl ?_
      refine xr_iconst i_X9_comes_26 (q := 27) rfl ?_
      refine xr_isub i_X9_comes_27 (q := 28) rfl ?_
      refine xr_istore i_X9_comes_28 rfl (L2 := [some (.ref v0), some (.int v1), some (.int v2), some (.int v3), some (.int v1), some (.int (v2 - (Int32.ofInt 1))), none]) rfl (q := 30) rfl ?_
      exact xi_X_le (xi_le_s (xi_le_s (xi_le_s (xi_le_s (xi_le_s (xi_le_s (xi_le_n xi_le_z))))))) (xs_X9_comes_30 ih 10000 _ _ _ _ _ _ _ h)
def E_X9_comes (S : xi_S) (v0 : Nat) (v1 : Int32) (v2 : Int32) (m : xi_M) : Option xi_R :=
  if S.1 v0 = 11 then (S.2.2 v0 5).bind fun b2 =>
    if S.1 v0 = 11 then (S.2.2 v0 7).bind fun b4 =>
      xi_bV (E_X9_copies S b2 (Int32.ofInt 0) b4 (Int32.ofInt 0) ((Int8.ofInt 34).toInt32) m) fun m5 =>
      G_X9_comes_17 S 10000 v0 v1 v2 (Int32.ofInt 0) m5
    else none
  else none
def F_X9_comes (S : xi_S) : xi_F := fun As m => match As with
  | [.ref v0, .int v1, .int v2] => E_X9_comes S v0 v1 v2 m
  | _ => none
set_option maxRecDepth 100000 in
set_option maxHeartbeats 4000000 in
theorem xe_X9_comes {S : xi_S} {res : xi_R} (v0 : Nat) (v1 : Int32) (v2 : Int32) (m : xi_M) (h : E_X9_comes S v0 v1 v2 m = some res) : xi_X S (P_X9_comes S) (0, [some (.ref v0), some (.int v1), some (.int v2), none, none, none, none], [], m) res := by
  unfold E_X9_comes at h
  refine xr_aload_n i_X9_comes_0 rfl (q := 1) rfl ?_
  obtain ⟨c1, h⟩ := xi_if_some h
  obtain ⟨b2, eb2, h⟩ := xi_bind_some h
  refine xr_getR i_X9_comes_1 xfe_X9_25 c1 eb2 (q := 4) rfl ?_
  refine xr_iconst i_X9_comes_4 (q := 5) rfl ?_
  refine xr_aload_n i_X9_comes_5 rfl (q := 6) rfl ?_
  obtain ⟨c3, h⟩ := xi_if_some h
  obtain ⟨b4, eb4, h⟩ := xi_bind_some h
  refine xr_getR i_X9_comes_6 xfe_X9_31 c3 eb4 (q := 9) rfl ?_
  refine xr_iconst i_X9_comes_9 (q := 10) rfl ?_
  refine xr_bipush i_X9_comes_10 (q := 12) rfl ?_
  obtain ⟨m5, em5, h⟩ := xi_bV_some h
  refine xr_SV i_X9_comes_12 xcse_X9_121 rfl (As := [.ref b2, .int (Int32.ofInt 0), .ref b4, .int (Int32.ofInt 0), .int ((Int8.ofInt 34).toInt32)]) rfl (rest := []) rfl ((cc_X9_comes_121 S _ _ _ _ _ _).trans em5) (q := 15) rfl ?_
  refine xr_iconst i_X9_comes_15 (q := 16) rfl ?_
  refine xr_istore_n i_X9_comes_16 rfl (L2 := [some (.ref v0), some (.int v1), some (.int v2), some (.int (Int32.ofInt 0)), none, none, none]) rfl (q := 17) rfl ?_
  exact xi_X_le (xi_le_s (xi_le_s (xi_le_s (xi_le_s (xi_le_n (xi_le_n (xi_le_n xi_le_z))))))) (xs_X9_comes_17 10000 _ _ _ _ _ h)
set_option maxRecDepth 100000 in
theorem po_X9_comes {l : Launch} {E : xi_E} {S : xi_S} {D : va_G} {tys : List (ClassId × FieldType)} (hC : xCx E S tys) : xi_Pok l E S D vwCl tys xNs RX9 xTs cX9_comes 7 7 (P_X9_comes S) := ⟨xi_dc_ok, by rw [hC.2]; exact xfo_X9, xkio_X9, xklo_X9, xi_calls_ok (ins := .invokestatic) (List.forall_mem_cons.mpr ⟨(xc_X9_121 (sn_X9_copies hC) (by decide)), List.forall_mem_cons.mpr ⟨(xc_X9_193 (sn_X9_mayMove hC) (by decide)), List.forall_mem_cons.mpr ⟨(xc_X9_199 (sn_X9_ahead hC) (by decide)), fun _ h => absurd h List.not_mem_nil⟩⟩⟩), xi_calls_ok (ins := .invokevirtual) (fun _ h => absurd h List.not_mem_nil)⟩
theorem sn_X9_comes {l : Launch} {E : xi_E} {S : xi_S} {D : va_G} {tys : List (ClassId × FieldType)} (hC : xCx E S tys) : ∀ As m1 r m2, F_X9_comes S As m1 = some (r, m2) → xi_Sound l E S D vwCl tys xNs xTs yX9_comes cX9_comes 7 (some .int) 7 As m1 r m2 := by
  intro As m1 r m2 h
  unfold F_X9_comes at h
  split at h
  · exact xi_meth (P := P_X9_comes S) (by decide) hC.1 (po_X9_comes hC) (Nat.le_of_ble_eq_true rfl) rfl (xe_X9_comes _ _ _ _ h)
  · exact xi_no h
theorem i_X9_duel_0 : xi_dc cX9_duel 0 = some (.iload_n 1, 1) := by decide +kernel
theorem i_X9_duel_1 : xi_dc cX9_duel 1 = some (.iconst 0, 1) := by decide +kernel
theorem i_X9_duel_2 : xi_dc cX9_duel 2 = some (.iconst 2, 1) := by decide +kernel
theorem i_X9_duel_3 : xi_dc cX9_duel 3 = some (.invokestatic 63, 3) := by decide +kernel
theorem i_X9_duel_6 : xi_dc cX9_duel 6 = some (.ifCond .ne 5, 3) := by decide +kernel
theorem t_X9_duel_6 : ((6 : Nat) : Int) + 5 = ((11 : Nat) : Int) := by decide +kernel
theorem i_X9_duel_9 : xi_dc cX9_duel 9 = some (.iconst (-1), 1) := by decide +kernel
theorem i_X9_duel_10 : xi_dc cX9_duel 10 = some (.ireturn, 1) := by decide +kernel
theorem i_X9_duel_11 : xi_dc cX9_duel 11 = some (.aload_n 0, 1) := by decide +kernel
theorem i_X9_duel_12 : xi_dc cX9_duel 12 = some (.invokevirtual 183, 3) := by decide +kernel
theorem i_X9_duel_15 : xi_dc cX9_duel 15 = some (.ifCond .ne 6, 3) := by decide +kernel
theorem t_X9_duel_15 : ((15 : Nat) : Int) + 6 = ((21 : Nat) : Int) := by decide +kernel
theorem i_X9_duel_18 : xi_dc cX9_duel 18 = some (.bipush (-4), 2) := by decide +kernel
theorem i_X9_duel_20 : xi_dc cX9_duel 20 = some (.ireturn, 1) := by decide +kernel
theorem i_X9_duel_21 : xi_dc cX9_duel 21 = some (.iconst 1, 1) := by decide +kernel
theorem i_X9_duel_22 : xi_dc cX9_duel 22 = some (.istore_n 2, 1) := by decide +kernel
theorem i_X9_duel_23 : xi_dc cX9_duel 23 = some (.iconst 0, 1) := by decide +kernel
theorem i_X9_duel_24 : xi_dc cX9_duel 24 = some (.istore_n 3, 1) := by decide +kernel
theorem i_X9_duel_25 : xi_dc cX9_duel 25 = some (.iload_n 3, 1) := by decide +kernel
theorem i_X9_duel_26 : xi_dc cX9_duel 26 = some (.iconst 2, 1) := by decide +kernel
theorem i_X9_duel_27 : xi_dc cX9_duel 27 = some (.iload_n 1, 1) := by decide +kernel
theorem i_X9_duel_28 : xi_dc cX9_duel 28 = some (.imul, 1) := by decide +kernel
theorem i_X9_duel_29 : xi_dc cX9_duel 29 = some (.if_icmp .ge 14, 3) := by decide +kernel
theorem t_X9_duel_29 : ((29 : Nat) : Int) + 14 = ((43 : Nat) : Int) := by decide +kernel
theorem i_X9_duel_32 : xi_dc cX9_duel 32 = some (.iload_n 2, 1) := by decide +kernel
theorem i_X9_duel_33 : xi_dc cX9_duel 33 = some (.bipush 9, 2) := by decide +kernel
theorem i_X9_duel_35 : xi_dc cX9_duel 35 = some (.imul, 1) := by decide +kernel
theorem i_X9_duel_36 : xi_dc cX9_duel 36 = some (.istore_n 2, 1) := by decide +kernel
theorem i_X9_duel_37 : xi_dc cX9_duel 37 = some (.iinc 3 1, 3) := by decide +kernel
theorem i_X9_duel_40 : xi_dc cX9_duel 40 = some (.goto (-15), 3) := by decide +kernel
theorem t_X9_duel_40 : ((40 : Nat) : Int) + (-15) = ((25 : Nat) : Int) := by decide +kernel
theorem i_X9_duel_43 : xi_dc cX9_duel 43 = some (.iconst 0, 1) := by decide +kernel
theorem i_X9_duel_44 : xi_dc cX9_duel 44 = some (.istore_n 3, 1) := by decide +kernel
theorem i_X9_duel_45 : xi_dc cX9_duel 45 = some (.iload_n 3, 1) := by decide +kernel
theorem i_X9_duel_46 : xi_dc cX9_duel 46 = some (.iload_n 2, 1) := by decide +kernel
theorem i_X9_duel_47 : xi_dc cX9_duel 47 = some (.if_icmp .ge 23, 3) := by decide +kernel
theorem t_X9_duel_47 : ((47 : Nat) : Int) + 23 = ((70 : Nat) : Int) := by decide +kernel
theorem i_X9_duel_50 : xi_dc cX9_duel 50 = some (.aload_n 0, 1) := by decide +kernel
theorem i_X9_duel_51 : xi_dc cX9_duel 51 = some (.getfield 53, 3) := by decide +kernel
theorem i_X9_duel_54 : xi_dc cX9_duel 54 = some (.iload_n 3, 1) := by decide +kernel
theorem i_X9_duel_55 : xi_dc cX9_duel 55 = some (.aload_n 0, 1) := by decide +kernel
theorem i_X9_duel_56 : xi_dc cX9_duel 56 = some (.iload_n 3, 1) := by decide +kernel
theorem i_X9_duel_57 : xi_dc cX9_duel 57 = some (.iconst 2, 1) := by decide +kernel
theorem i_X9_duel_58 : xi_dc cX9_duel 58 = some (.iload_n 1, 1) := by decide +kernel
theorem i_X9_duel_59 : xi_dc cX9_duel 59 = some (.imul, 1) := by decide +kernel
theorem i_X9_duel_60 : xi_dc cX9_duel 60 = some (.invokevirtual 233, 3) := by decide +kernel
theorem i_X9_duel_63 : xi_dc cX9_duel 63 = some (.iastore, 1) := by decide +kernel
theorem i_X9_duel_64 : xi_dc cX9_duel 64 = some (.iinc 3 1, 3) := by decide +kernel
theorem i_X9_duel_67 : xi_dc cX9_duel 67 = some (.goto (-22), 3) := by decide +kernel
theorem t_X9_duel_67 : ((67 : Nat) : Int) + (-22) = ((45 : Nat) : Int) := by decide +kernel
theorem i_X9_duel_70 : xi_dc cX9_duel 70 = some (.iconst 2, 1) := by decide +kernel
theorem i_X9_duel_71 : xi_dc cX9_duel 71 = some (.iload_n 1, 1) := by decide +kernel
theorem i_X9_duel_72 : xi_dc cX9_duel 72 = some (.imul, 1) := by decide +kernel
theorem i_X9_duel_73 : xi_dc cX9_duel 73 = some (.iconst 1, 1) := by decide +kernel
theorem i_X9_duel_74 : xi_dc cX9_duel 74 = some (.isub, 1) := by decide +kernel
theorem i_X9_duel_75 : xi_dc cX9_duel 75 = some (.istore_n 3, 1) := by decide +kernel
theorem i_X9_duel_76 : xi_dc cX9_duel 76 = some (.iload_n 3, 1) := by decide +kernel
theorem i_X9_duel_77 : xi_dc cX9_duel 77 = some (.ifCond .lt 132, 3) := by decide +kernel
theorem t_X9_duel_77 : ((77 : Nat) : Int) + 132 = ((209 : Nat) : Int) := by decide +kernel
theorem i_X9_duel_80 : xi_dc cX9_duel 80 = some (.iload_n 2, 1) := by decide +kernel
theorem i_X9_duel_81 : xi_dc cX9_duel 81 = some (.bipush 9, 2) := by decide +kernel
theorem i_X9_duel_83 : xi_dc cX9_duel 83 = some (.idiv, 1) := by decide +kernel
theorem i_X9_duel_84 : xi_dc cX9_duel 84 = some (.istore_n 2, 1) := by decide +kernel
theorem i_X9_duel_85 : xi_dc cX9_duel 85 = some (.iconst 0, 1) := by decide +kernel
theorem i_X9_duel_86 : xi_dc cX9_duel 86 = some (.istore 4, 2) := by decide +kernel
theorem i_X9_duel_88 : xi_dc cX9_duel 88 = some (.iload 4, 2) := by decide +kernel
theorem i_X9_duel_90 : xi_dc cX9_duel 90 = some (.iload_n 2, 1) := by decide +kernel
theorem i_X9_duel_91 : xi_dc cX9_duel 91 = some (.if_icmp .ge 112, 3) := by decide +kernel
theorem t_X9_duel_91 : ((91 : Nat) : Int) + 112 = ((203 : Nat) : Int) := by decide +kernel
theorem i_X9_duel_94 : xi_dc cX9_duel 94 = some (.aload_n 0, 1) := by decide +kernel
theorem i_X9_duel_95 : xi_dc cX9_duel 95 = some (.getfield 53, 3) := by decide +kernel
theorem i_X9_duel_98 : xi_dc cX9_duel 98 = some (.bipush 9, 2) := by decide +kernel
theorem i_X9_duel_100 : xi_dc cX9_duel 100 = some (.iload 4, 2) := by decide +kernel
theorem i_X9_duel_102 : xi_dc cX9_duel 102 = some (.imul, 1) := by decide +kernel
theorem i_X9_duel_103 : xi_dc cX9_duel 103 = some (.iaload, 1) := by decide +kernel
theorem i_X9_duel_104 : xi_dc cX9_duel 104 = some (.istore 5, 2) := by decide +kernel
theorem i_X9_duel_106 : xi_dc cX9_duel 106 = some (.iconst 1, 1) := by decide +kernel
theorem i_X9_duel_107 : xi_dc cX9_duel 107 = some (.istore 6, 2) := by decide +kernel
theorem i_X9_duel_109 : xi_dc cX9_duel 109 = some (.iload 6, 2) := by decide +kernel
theorem i_X9_duel_111 : xi_dc cX9_duel 111 = some (.bipush 9, 2) := by decide +kernel
theorem i_X9_duel_113 : xi_dc cX9_duel 113 = some (.if_icmp .ge 75, 3) := by decide +kernel
theorem t_X9_duel_113 : ((113 : Nat) : Int) + 75 = ((188 : Nat) : Int) := by decide +kernel
theorem i_X9_duel_116 : xi_dc cX9_duel 116 = some (.aload_n 0, 1) := by decide +kernel
theorem i_X9_duel_117 : xi_dc cX9_duel 117 = some (.getfield 53, 3) := by decide +kernel
theorem i_X9_duel_120 : xi_dc cX9_duel 120 = some (.bipush 9, 2) := by decide +kernel
theorem i_X9_duel_122 : xi_dc cX9_duel 122 = some (.iload 4, 2) := by decide +kernel
theorem i_X9_duel_124 : xi_dc cX9_duel 124 = some (.imul, 1) := by decide +kernel
theorem i_X9_duel_125 : xi_dc cX9_duel 125 = some (.iload 6, 2) := by decide +kernel
theorem i_X9_duel_127 : xi_dc cX9_duel 127 = some (.iadd, 1) := by decide +kernel
theorem i_X9_duel_128 : xi_dc cX9_duel 128 = some (.iaload, 1) := by decide +kernel
theorem i_X9_duel_129 : xi_dc cX9_duel 129 = some (.istore 7, 2) := by decide +kernel
theorem i_X9_duel_131 : xi_dc cX9_duel 131 = some (.iload 7, 2) := by decide +kernel
theorem i_X9_duel_133 : xi_dc cX9_duel 133 = some (.bipush (-9), 2) := by decide +kernel
theorem i_X9_duel_135 : xi_dc cX9_duel 135 = some (.if_icmp .eq 30, 3) := by decide +kernel
theorem t_X9_duel_135 : ((135 : Nat) : Int) + 30 = ((165 : Nat) : Int) := by decide +kernel
theorem i_X9_duel_138 : xi_dc cX9_duel 138 = some (.iload_n 3, 1) := by decide +kernel
theorem i_X9_duel_139 : xi_dc cX9_duel 139 = some (.iconst 2, 1) := by decide +kernel
theorem i_X9_duel_140 : xi_dc cX9_duel 140 = some (.irem, 1) := by decide +kernel
theorem i_X9_duel_141 : xi_dc cX9_duel 141 = some (.ifCond .ne 13, 3) := by decide +kernel
theorem t_X9_duel_141 : ((141 : Nat) : Int) + 13 = ((154 : Nat) : Int) := by decide +kernel
theorem i_X9_duel_144 : xi_dc cX9_duel 144 = some (.iload 7, 2) := by decide +kernel
theorem i_X9_duel_146 : xi_dc cX9_duel 146 = some (.iload 5, 2) := by decide +kernel
theorem i_X9_duel_148 : xi_dc cX9_duel 148 = some (.if_icmp .le 17, 3) := by decide +kernel
theorem t_X9_duel_148 : ((148 : Nat) : Int) + 17 = ((165 : Nat) : Int) := by decide +kernel
theorem i_X9_duel_151 : xi_dc cX9_duel 151 = some (.goto 10, 3) := by decide +kernel
theorem t_X9_duel_151 : ((151 : Nat) : Int) + 10 = ((161 : Nat) : Int) := by decide +kernel
theorem i_X9_duel_154 : xi_dc cX9_duel 154 = some (.iload 7, 2) := by decide +kernel
theorem i_X9_duel_156 : xi_dc cX9_duel 156 = some (.iload 5, 2) := by decide +kernel
theorem i_X9_duel_158 : xi_dc cX9_duel 158 = some (.if_icmp .ge 7, 3) := by decide +kernel
theorem t_X9_duel_158 : ((158 : Nat) : Int) + 7 = ((165 : Nat) : Int) := by decide +kernel
theorem i_X9_duel_161 : xi_dc cX9_duel 161 = some (.iconst 1, 1) := by decide +kernel
theorem i_X9_duel_162 : xi_dc cX9_duel 162 = some (.goto 4, 3) := by decide +kernel
theorem t_X9_duel_162 : ((162 : Nat) : Int) + 4 = ((166 : Nat) : Int) := by decide +kernel
theorem i_X9_duel_165 : xi_dc cX9_duel 165 = some (.iconst 0, 1) := by decide +kernel
theorem i_X9_duel_166 : xi_dc cX9_duel 166 = some (.istore 8, 2) := by decide +kernel
theorem i_X9_duel_168 : xi_dc cX9_duel 168 = some (.iload 8, 2) := by decide +kernel
theorem i_X9_duel_170 : xi_dc cX9_duel 170 = some (.ifCond .eq 8, 3) := by decide +kernel
theorem t_X9_duel_170 : ((170 : Nat) : Int) + 8 = ((178 : Nat) : Int) := by decide +kernel
theorem i_X9_duel_173 : xi_dc cX9_duel 173 = some (.iload 7, 2) := by decide +kernel
theorem i_X9_duel_175 : xi_dc cX9_duel 175 = some (.goto 5, 3) := by decide +kernel
theorem t_X9_duel_175 : ((175 : Nat) : Int) + 5 = ((180 : Nat) : Int) := by decide +kernel
theorem i_X9_duel_178 : xi_dc cX9_duel 178 = some (.iload 5, 2) := by decide +kernel
theorem i_X9_duel_180 : xi_dc cX9_duel 180 = some (.istore 5, 2) := by decide +kernel
theorem i_X9_duel_182 : xi_dc cX9_duel 182 = some (.iinc 6 1, 3) := by decide +kernel
theorem i_X9_duel_185 : xi_dc cX9_duel 185 = some (.goto (-76), 3) := by decide +kernel
theorem t_X9_duel_185 : ((185 : Nat) : Int) + (-76) = ((109 : Nat) : Int) := by decide +kernel
theorem i_X9_duel_188 : xi_dc cX9_duel 188 = some (.aload_n 0, 1) := by decide +kernel
theorem i_X9_duel_189 : xi_dc cX9_duel 189 = some (.getfield 53, 3) := by decide +kernel
theorem i_X9_duel_192 : xi_dc cX9_duel 192 = some (.iload 4, 2) := by decide +kernel
theorem i_X9_duel_194 : xi_dc cX9_duel 194 = some (.iload 5, 2) := by decide +kernel
theorem i_X9_duel_196 : xi_dc cX9_duel 196 = some (.iastore, 1) := by decide +kernel
theorem i_X9_duel_197 : xi_dc cX9_duel 197 = some (.iinc 4 1, 3) := by decide +kernel
theorem i_X9_duel_200 : xi_dc cX9_duel 200 = some (.goto (-112), 3) := by decide +kernel
theorem t_X9_duel_200 : ((200 : Nat) : Int) + (-112) = ((88 : Nat) : Int) := by decide +kernel
theorem i_X9_duel_203 : xi_dc cX9_duel 203 = some (.iinc 3 (-1), 3) := by decide +kernel
theorem i_X9_duel_206 : xi_dc cX9_duel 206 = some (.goto (-130), 3) := by decide +kernel
theorem t_X9_duel_206 : ((206 : Nat) : Int) + (-130) = ((76 : Nat) : Int) := by decide +kernel
theorem i_X9_duel_209 : xi_dc cX9_duel 209 = some (.aload_n 0, 1) := by decide +kernel
theorem i_X9_duel_210 : xi_dc cX9_duel 210 = some (.aload_n 0, 1) := by decide +kernel
theorem i_X9_duel_211 : xi_dc cX9_duel 211 = some (.getfield 53, 3) := by decide +kernel
theorem i_X9_duel_214 : xi_dc cX9_duel 214 = some (.iconst 0, 1) := by decide +kernel
theorem i_X9_duel_215 : xi_dc cX9_duel 215 = some (.iaload, 1) := by decide +kernel
theorem i_X9_duel_216 : xi_dc cX9_duel 216 = some (.invokevirtual 75, 3) := by decide +kernel
theorem i_X9_duel_219 : xi_dc cX9_duel 219 = some (.ireturn, 1) := by decide +kernel
def P_X9_duel (S : xi_S) : xi_P := (xi_dc cX9_duel, xi_tab xfl_X9, xi_tab xki_X9, xi_tab xkl_X9, xi_tab xcs_X9, xi_tab xcv_X9, xi_calls [(63, xi_wS 3 (F_X9_in0 S))], xi_calls [(75, xi_wV S 11 1 (F_X9_tells S)), (183, xi_wV S 11 0 (F_X9_isAny S)), (233, xi_wV S 11 2 (F_X9_comes S))], 1)
theorem cc_X9_duel_63 (S : xi_S) (a0 : Int32) (a1 : Int32) (a2 : Int32) (m : xi_M) : (P_X9_duel S).2.2.2.2.2.2.1 63 [.int a0, .int a1, .int a2] m = (E_X9_in0 S a0 a1 a2 m) := by
  show xi_calls [(63, xi_wS 3 (F_X9_in0 S))] 63 [.int a0, .int a1, .int a2] m = _
  refine Eq.trans (b := xi_wS 3 (F_X9_in0 S) [.int a0, .int a1, .int a2] m) (xi_calls_hit rfl) ?_
  exact xi_wS_eq rfl
theorem cc_X9_duel_75 (S : xi_S) (a0 : Nat) (a1 : Int32) (m : xi_M) : (P_X9_duel S).2.2.2.2.2.2.2.1 75 [.ref a0, .int a1] m = (if S.1 a0 = 11 then E_X9_tells S a0 a1 m else none) := by
  show xi_calls [(75, xi_wV S 11 1 (F_X9_tells S)), (183, xi_wV S 11 0 (F_X9_isAny S)), (233, xi_wV S 11 2 (F_X9_comes S))] 75 [.ref a0, .int a1] m = _
  refine Eq.trans (b := xi_wV S 11 1 (F_X9_tells S) [.ref a0, .int a1] m) (xi_calls_hit rfl) ?_
  exact xi_wV_eq rfl
theorem cc_X9_duel_183 (S : xi_S) (a0 : Nat) (m : xi_M) : (P_X9_duel S).2.2.2.2.2.2.2.1 183 [.ref a0] m = (if S.1 a0 = 11 then E_X9_isAny S a0 m else none) := by
  show xi_calls [(75, xi_wV S 11 1 (F_X9_tells S)), (183, xi_wV S 11 0 (F_X9_isAny S)), (233, xi_wV S 11 2 (F_X9_comes S))] 183 [.ref a0] m = _
  refine Eq.trans (b := xi_calls [(183, xi_wV S 11 0 (F_X9_isAny S)), (233, xi_wV S 11 2 (F_X9_comes S))] 183 [.ref a0] m) (xi_calls_miss rfl) ?_
  refine Eq.trans (b := xi_wV S 11 0 (F_X9_isAny S) [.ref a0] m) (xi_calls_hit rfl) ?_
  exact xi_wV_eq rfl
theorem cc_X9_duel_233 (S : xi_S) (a0 : Nat) (a1 : Int32) (a2 : Int32) (m : xi_M) : (P_X9_duel S).2.2.2.2.2.2.2.1 233 [.ref a0, .int a1, .int a2] m = (if S.1 a0 = 11 then E_X9_comes S a0 a1 a2 m else none) := by
  show xi_calls [(75, xi_wV S 11 1 (F_X9_tells S)), (183, xi_wV S 11 0 (F_X9_isAny S)), (233, xi_wV S 11 2 (F_X9_comes S))] 233 [.ref a0, .int a1, .int a2] m = _
  refine Eq.trans (b := xi_calls [(183, xi_wV S 11 0 (F_X9_isAny S)), (233, xi_wV S 11 2 (F_X9_comes S))] 233 [.ref a0, .int a1, .int a2] m) (xi_calls_miss rfl) ?_
  refine Eq.trans (b := xi_calls [(233, xi_wV S 11 2 (F_X9_comes S))] 233 [.ref a0, .int a1, .int a2] m) (xi_calls_miss rfl) ?_
  refine Eq.trans (b := xi_wV S 11 2 (F_X9_comes S) [.ref a0, .int a1, .int a2] m) (xi_calls_hit rfl) ?_
  exact xi_wV_eq rfl
def G_X9_duel_109 (S : xi_S) (k76 : Nat → Int32 → Int32 → xi_M → Option xi_R) (k88 : Nat → Int32 → Int32 → Int32 → xi_M → Option xi_R) : Nat → Nat → Int32 → Int32 → Int32 → Int32 → Int32 → xi_M → Option xi_R
  | 0, _, _, _, _, _, _, _ => none
  | n + 1, v0, v2, v3, v4, v5, v6, m =>
    if ((Int8.ofInt 9).toInt32) ≤ v6 then
      if S.1 v0 = 11 then (S.2.2 v0 20).bind fun b2 =>
        if S.1 b2 = 0 ∧ ¬ (v4 < 0 ∨ S.2.1 b2 ≤ Int32.toNatClampNeg v4) then
          k88 v0 v2 v3 (v4 + Int32.ofInt 1) (xi_wI m b2 (Int32.toNatClampNeg v4) v5)
        else none
      else none
    else
      if S.1 v0 = 11 then (S.2.2 v0 20).bind fun b5 =>
        if S.1 b5 = 0 ∧ ¬ (((((Int8.ofInt 9).toInt32) * v4) + v6) < 0 ∨ S.2.1 b5 ≤ Int32.toNatClampNeg ((((Int8.ofInt 9).toInt32) * v4) + v6)) then
          if (m.1 b5 (Int32.toNatClampNeg ((((Int8.ofInt 9).toInt32) * v4) + v6))) = ((Int8.ofInt (-9)).toInt32) then
            if (Int32.ofInt 0) = 0 then
              G_X9_duel_109 S k76 k88 n v0 v2 v3 v4 v5 (v6 + Int32.ofInt 1) m
            else
              G_X9_duel_109 S k76 k88 n v0 v2 v3 v4 (m.1 b5 (Int32.toNatClampNeg ((((Int8.ofInt 9).toInt32) * v4) + v6))) (v6 + Int32.ofInt 1) m
          else
            if (Int32.ofInt 2) = 0 then none else
            if (v3 - v3 / (Int32.ofInt 2) * (Int32.ofInt 2)) = 0 then
              if (m.1 b5 (Int32.toNatClampNeg ((((Int8.ofInt 9).toInt32) * v4) + v6))) ≤ v5 then
                if (Int32.ofInt 0) = 0 then
                  G_X9_duel_109 S k76 k88 n v0 v2 v3 v4 v5 (v6 + Int32.ofInt 1) m
                else
                  G_X9_duel_109 S k76 k88 n v0 v2 v3 v4 (m.1 b5 (Int32.toNatClampNeg ((((Int8.ofInt 9).toInt32) * v4) + v6))) (v6 + Int32.ofInt 1) m
              else
                if (Int32.ofInt 1) = 0 then
                  G_X9_duel_109 S k76 k88 n v0 v2 v3 v4 v5 (v6 + Int32.ofInt 1) m
                else
                  G_X9_duel_109 S k76 k88 n v0 v2 v3 v4 (m.1 b5 (Int32.toNatClampNeg ((((Int8.ofInt 9).toInt32) * v4) + v6))) (v6 + Int32.ofInt 1) m
            else
              if v5 ≤ (m.1 b5 (Int32.toNatClampNeg ((((Int8.ofInt 9).toInt32) * v4) + v6))) then
                if (Int32.ofInt 0) = 0 then
                  G_X9_duel_109 S k76 k88 n v0 v2 v3 v4 v5 (v6 + Int32.ofInt 1) m
                else
                  G_X9_duel_109 S k76 k88 n v0 v2 v3 v4 (m.1 b5 (Int32.toNatClampNeg ((((Int8.ofInt 9).toInt32) * v4) + v6))) (v6 + Int32.ofInt 1) m
              else
                if (Int32.ofInt 1) = 0 then
                  G_X9_duel_109 S k76 k88 n v0 v2 v3 v4 v5 (v6 + Int32.ofInt 1) m
                else
                  G_X9_duel_109 S k76 k88 n v0 v2 v3 v4 (m.1 b5 (Int32.toNatClampNeg ((((Int8.ofInt 9).toInt32) * v4) + v6))) (v6 + Int32.ofInt 1) m
        else none
      else none
set_option maxRecDepth 100000 in
set_option maxHeartbeats 4000000 in
theorem xs_X9_duel_109 {S : xi_S} {res : xi_R} {k76 : Nat → Int32 → Int32 → xi_M → Option xi_R} {k88 : Nat → Int32 → Int32 → Int32 → xi_M → Option xi_R} (hk76 : ∀ (v0 : Nat) (v2 : Int32) (v3 : Int32) (m : xi_M), k76 v0 v2 v3 m = some res → xi_X S (P_X9_duel S) (76, [some (.ref v0), none, some (.int v2), some (.int v3), none, none, none, none, none], [], m) res) (hk88 : ∀ (v0 : Nat) (v2 : Int32) (v3 : Int32) (v4 : Int32) (m : xi_M), k88 v0 v2 v3 v4 m = some res → xi_X S (P_X9_duel S) (88, [some (.ref v0), none, some (.int v2), some (.int v3), some (.int v4), none, none, none, none], [], m) res) : ∀ (n : Nat) (v0 : Nat) (v2 : Int32) (v3 : Int32) (v4 : Int32) (v5 : Int32) (v6 : Int32) (m : xi_M), G_X9_duel_109 S k76 k88 n v0 v2 v3 v4 v5 v6 m = some res → xi_X S (P_X9_duel S) (109, [some (.ref v0), none, some (.int v2), some (.int v3), some (.int v4), some (.int v5), some (.int v6), none, none], [], m) res := by
  intro n
  induction n with
  | zero => intro v0 v2 v3 v4 v5 v6 m h; exact xi_no h
  | succ n ih =>
    intro v0 v2 v3 v4 v5 v6 m h
    unfold G_X9_duel_109 at h
    refine xr_iload i_X9_duel_109 rfl (q := 111) rfl ?_
    refine xr_bipush i_X9_duel_111 (q := 113) rfl ?_
    by_cases c17 : ((Int8.ofInt 9).toInt32) ≤ v6
    · replace h := (if_pos c17).symm.trans h
      refine xr_if_icmp_ge_p i_X9_duel_113 c17 (q := 188) t_X9_duel_113 (q2 := 116) rfl ?_
      refine xr_aload_n i_X9_duel_188 rfl (q := 189) rfl ?_
      obtain ⟨c1, h⟩ := xi_if_some h
      obtain ⟨b2, eb2, h⟩ := xi_bind_some h
      refine xr_getR i_X9_duel_189 xfe_X9_53 c1 eb2 (q := 192) rfl ?_
      refine xr_iload i_X9_duel_192 rfl (q := 194) rfl ?_
      refine xr_iload i_X9_duel_194 rfl (q := 196) rfl ?_
      obtain ⟨c3, h⟩ := xi_if_some h
      refine xr_iastore i_X9_duel_196 c3 (q := 197) rfl ?_
      refine xr_iinc i_X9_duel_197 rfl rfl (L2 := [some (.ref v0), none, some (.int v2), some (.int v3), some (.int (v4 + Int32.ofInt 1)), some (.int v5), some (.int v6), none, none]) rfl (q := 200) rfl ?_
      refine xr_goto i_X9_duel_200 (q := 88) t_X9_duel_200 ?_
      exact xi_X_le (xi_le_s (xi_le_n (xi_le_s (xi_le_s (xi_le_s (xi_le_n (xi_le_n (xi_le_n (xi_le_n xi_le_z))))))))) (hk88 _ _ _ _ _ h)
    · replace h := (if_neg c17).symm.trans h
      refine xr_if_icmp_ge_n i_X9_duel_113 c17 (q := 188) t_X9_duel_113 (q2 := 116) rfl ?_
      refine xr_aload_n i_X9_duel_116 rfl (q := 117) rfl ?_
      obtain ⟨c4, h⟩ := xi_if_some h
      obtain ⟨b5, eb5, h⟩ := xi_bind_some h
      refine xr_getR i_X9_duel_117 xfe_X9_53 c4 eb5 (q := 120) rfl ?_
      refine xr_bipush i_X9_duel_120 (q := 122) rfl ?_
      refine xr_iload i_X9_duel_122 rfl (q := 124) rfl ?_
      refine xr_imul i_X9_duel_124 (q := 125) rfl ?_
      refine xr_iload i_X9_duel_125 rfl (q := 127) rfl ?_
      refine xr_iadd i_X9_duel_127 (q := 128) rfl ?_
      obtain ⟨c6, h⟩ := xi_if_some h
      refine xr_iaload i_X9_duel_128 c6 (q := 129) rfl ?_
      refine xr_istore i_X9_duel_129 rfl (L2 := [some (.ref v0), none, some (.int v2), some (.int v3), some (.int v4), some (.int v5), some (.int v6), some (.int (m.1 b5 (Int32.toNatClampNeg ((((Int8.ofInt 9).toInt32) * v4) + v6)))), none]) rfl (q := 131) rfl ?_
      refine xr_iload i_X9_duel_131 rfl (q := 133) rfl ?_
      refine xr_bipush i_X9_duel_133 (q := 135) rfl ?_
      by_cases c16 : (m.1 b5 (Int32.toNatClampNeg ((((Int8.ofInt 9).toInt32) * v4) + v6))) = ((Int8.ofInt (-9)).toInt32)
      · replace h := (if_pos c16).symm.trans h
        refine xr_if_icmp_eq_p i_X9_duel_135 c16 (q := 165) t_X9_duel_135 (q2 := 138) rfl ?_
        refine xr_iconst i_X9_duel_165 (q := 166) rfl ?_
        refine xr_istore i_X9_duel_166 rfl (L2 := [some (.ref v0), none, some (.int v2), some (.int v3), some (.int v4), some (.int v5), some (.int v6), some (.int (m.1 b5 (Int32.toNatClampNeg ((((Int8.ofInt 9).toInt32) * v4) + v6)))), some (.int (Int32.ofInt 0))]) rfl (q := 168) rfl ?_
        refine xr_iload i_X9_duel_168 rfl (q := 170) rfl ?_
        by_cases c7 : (Int32.ofInt 0) = 0
        · replace h := (if_pos c7).symm.trans h
          refine xr_ifCond_eq_p i_X9_duel_170 c7 (q := 178) t_X9_duel_170 (q2 := 173) rfl ?_
          refine xr_iload i_X9_duel_178 rfl (q := 180) rfl ?_
          refine xr_istore i_X9_duel_180 rfl (L2 := [some (.ref v0), none, some (.int v2), some (.int v3), some (.int v4), some (.int v5), some (.int v6), some (.int (m.1 b5 (Int32.toNatClampNeg ((((Int8.ofInt 9).toInt32) * v4) + v6)))), some (.int (Int32.ofInt 0))]) rfl (q := 182) rfl ?_
          refine xr_iinc i_X9_duel_182 rfl rfl (L2 := [some (.ref v0), none, some (.int v2), some (.int v3), some (.int v4), some (.int v5), some (.int (v6 + Int32.ofInt 1)), some (.int (m.1 b5 (Int32.toNatClampNeg ((((Int8.ofInt 9).toInt32) * v4) + v6)))), some (.int (Int32.ofInt 0))]) rfl (q := 185) rfl ?_
          refine xr_goto i_X9_duel_185 (q := 109) t_X9_duel_185 ?_
          exact xi_X_le (xi_le_s (xi_le_n (xi_le_s (xi_le_s (xi_le_s (xi_le_s (xi_le_s (xi_le_n (xi_le_n xi_le_z))))))))) (ih _ _ _ _ _ _ _ h)
        · replace h := (if_neg c7).symm.trans h
          refine xr_ifCond_eq_n i_X9_duel_170 c7 (q := 178) t_X9_duel_170 (q2 := 173) rfl ?_
          refine xr_iload i_X9_duel_173 rfl (q := 175) rfl ?_
          refine xr_goto i_X9_duel_175 (q := 180) t_X9_duel_175 ?_
          refine xr_istore i_X9_duel_180 rfl (L2 := [some (.ref v0), none, some (.int v2), some (.int v3), some (.int v4), some (.int (m.1 b5 (Int32.toNatClampNeg ((((Int8.ofInt 9).toInt32) * v4) + v6)))), some (.int v6), some (.int (m.1 b5 (Int32.toNatClampNeg ((((Int8.ofInt 9).toInt32) * v4) + v6)))), some (.int (Int32.ofInt 0))]) rfl (q := 182) rfl ?_
          refine xr_iinc i_X9_duel_182 rfl rfl (L2 := [some (.ref v0), none, some (.int v2), some (.int v3), some (.int v4), some (.int (m.1 b5 (Int32.toNatClampNeg ((((Int8.ofInt 9).toInt32) * v4) + v6)))), some (.int (v6 + Int32.ofInt 1)), some (.int (m.1 b5 (Int32.toNatClampNeg ((((Int8.ofInt 9).toInt32) * v4) + v6)))), some (.int (Int32.ofInt 0))]) rfl (q := 185) rfl ?_
          refine xr_goto i_X9_duel_185 (q := 109) t_X9_duel_185 ?_
          exact xi_X_le (xi_le_s (xi_le_n (xi_le_s (xi_le_s (xi_le_s (xi_le_s (xi_le_s (xi_le_n (xi_le_n xi_le_z))))))))) (ih _ _ _ _ _ _ _ h)
      · replace h := (if_neg c16).symm.trans h
        refine xr_if_icmp_eq_n i_X9_duel_135 c16 (q := 165) t_X9_duel_135 (q2 := 138) rfl ?_
        refine xr_iload_n i_X9_duel_138 rfl (q := 139) rfl ?_
        refine xr_iconst i_X9_duel_139 (q := 140) rfl ?_
        obtain ⟨c8, h⟩ := xi_ifn_some h
        refine xr_irem i_X9_duel_140 c8 (q := 141) rfl ?_
        by_cases c15 : (v3 - v3 / (Int32.ofInt 2) * (Int32.ofInt 2)) = 0
        · replace h := (if_pos c15).symm.trans h
          refine xr_ifCond_ne_p i_X9_duel_141 c15 (q := 154) t_X9_duel_141 (q2 := 144) rfl ?_
          refine xr_iload i_X9_duel_144 rfl (q := 146) rfl ?_
          refine xr_iload i_X9_duel_146 rfl (q := 148) rfl ?_
          by_cases c14 : (m.1 b5 (Int32.toNatClampNeg ((((Int8.ofInt 9).toInt32) * v4) + v6))) ≤ v5
          · replace h := (if_pos c14).symm.trans h
            refine xr_if_icmp_le_p i_X9_duel_148 c14 (q := 165) t_X9_duel_148 (q2 := 151) rfl ?_
            refine xr_iconst i_X9_duel_165 (q := 166) rfl ?_
            refine xr_istore i_X9_duel_166 rfl (L2 := [some (.ref v0), none, some (.int v2), some (.int v3), some (.int v4), some (.int v5), some (.int v6), some (.int (m.1 b5 (Int32.toNatClampNeg ((((Int8.ofInt 9).toInt32) * v4) + v6)))), some (.int (Int32.ofInt 0))]) rfl (q := 168) rfl ?_
            refine xr_iload i_X9_duel_168 rfl (q := 170) rfl ?_
            by_cases c12 : (Int32.ofInt 0) = 0
            · replace h := (if_pos c12).symm.trans h
              refine xr_ifCond_eq_p i_X9_duel_170 c12 (q := 178) t_X9_duel_170 (q2 := 173) rfl ?_
              refine xr_iload i_X9_duel_178 rfl (q := 180) rfl ?_
              refine xr_istore i_X9_duel_180 rfl (L2 := [some (.ref v0), none, some (.int v2), some (.int v3), some (.int v4), some (.int v5), some (.int v6), some (.int (m.1 b5 (Int32.toNatClampNeg ((((Int8.ofInt 9).toInt32) * v4) + v6)))), some (.int (Int32.ofInt 0))]) rfl (q := 182) rfl ?_
              refine xr_iinc i_X9_duel_182 rfl rfl (L2 := [some (.ref v0), none, some (.int v2), some (.int v3), some (.int v4), some (.int v5), some (.int (v6 + Int32.ofInt 1)), some (.int (m.1 b5 (Int32.toNatClampNeg ((((Int8.ofInt 9).toInt32) * v4) + v6)))), some (.int (Int32.ofInt 0))]) rfl (q := 185) rfl ?_
              refine xr_goto i_X9_duel_185 (q := 109) t_X9_duel_185 ?_
              exact xi_X_le (xi_le_s (xi_le_n (xi_le_s (xi_le_s (xi_le_s (xi_le_s (xi_le_s (xi_le_n (xi_le_n xi_le_z))))))))) (ih _ _ _ _ _ _ _ h)
            · replace h := (if_neg c12).symm.trans h
              refine xr_ifCond_eq_n i_X9_duel_170 c12 (q := 178) t_X9_duel_170 (q2 := 173) rfl ?_
              refine xr_iload i_X9_duel_173 rfl (q := 175) rfl ?_
              refine xr_goto i_X9_duel_175 (q := 180) t_X9_duel_175 ?_
              refine xr_istore i_X9_duel_180 rfl (L2 := [some (.ref v0), none, some (.int v2), some (.int v3), some (.int v4), some (.int (m.1 b5 (Int32.toNatClampNeg ((((Int8.ofInt 9).toInt32) * v4) + v6)))), some (.int v6), some (.int (m.1 b5 (Int32.toNatClampNeg ((((Int8.ofInt 9).toInt32) * v4) + v6)))), some (.int (Int32.ofInt 0))]) rfl (q := 182) rfl ?_
              refine xr_iinc i_X9_duel_182 rfl rfl (L2 := [some (.ref v0), none, some (.int v2), some (.int v3), some (.int v4), some (.int (m.1 b5 (Int32.toNatClampNeg ((((Int8.ofInt 9).toInt32) * v4) + v6)))), some (.int (v6 + Int32.ofInt 1)), some (.int (m.1 b5 (Int32.toNatClampNeg ((((Int8.ofInt 9).toInt32) * v4) + v6)))), some (.int (Int32.ofInt 0))]) rfl (q := 185) rfl ?_
              refine xr_goto i_X9_duel_185 (q := 109) t_X9_duel_185 ?_
              exact xi_X_le (xi_le_s (xi_le_n (xi_le_s (xi_le_s (xi_le_s (xi_le_s (xi_le_s (xi_le_n (xi_le_n xi_le_z))))))))) (ih _ _ _ _ _ _ _ h)
          · replace h := (if_neg c14).symm.trans h
            refine xr_if_icmp_le_n i_X9_duel_148 c14 (q := 165) t_X9_duel_148 (q2 := 151) rfl ?_
            refine xr_goto i_X9_duel_151 (q := 161) t_X9_duel_151 ?_
            refine xr_iconst i_X9_duel_161 (q := 162) rfl ?_
            refine xr_goto i_X9_duel_162 (q := 166) t_X9_duel_162 ?_
            refine xr_istore i_X9_duel_166 rfl (L2 := [some (.ref v0), none, some (.int v2), some (.int v3), some (.int v4), some (.int v5), some (.int v6), some (.int (m.1 b5 (Int32.toNatClampNeg ((((Int8.ofInt 9).toInt32) * v4) + v6)))), some (.int (Int32.ofInt 1))]) rfl (q := 168) rfl ?_
            refine xr_iload i_X9_duel_168 rfl (q := 170) rfl ?_
            by_cases c13 : (Int32.ofInt 1) = 0
            · replace h := (if_pos c13).symm.trans h
              refine xr_ifCond_eq_p i_X9_duel_170 c13 (q := 178) t_X9_duel_170 (q2 := 173) rfl ?_
              refine xr_iload i_X9_duel_178 rfl (q := 180) rfl ?_
              refine xr_istore i_X9_duel_180 rfl (L2 := [some (.ref v0), none, some (.int v2), some (.int v3), some (.int v4), some (.int v5), some (.int v6), some (.int (m.1 b5 (Int32.toNatClampNeg ((((Int8.ofInt 9).toInt32) * v4) + v6)))), some (.int (Int32.ofInt 1))]) rfl (q := 182) rfl ?_
              refine xr_iinc i_X9_duel_182 rfl rfl (L2 := [some (.ref v0), none, some (.int v2), some (.int v3), some (.int v4), some (.int v5), some (.int (v6 + Int32.ofInt 1)), some (.int (m.1 b5 (Int32.toNatClampNeg ((((Int8.ofInt 9).toInt32) * v4) + v6)))), some (.int (Int32.ofInt 1))]) rfl (q := 185) rfl ?_
              refine xr_goto i_X9_duel_185 (q := 109) t_X9_duel_185 ?_
              exact xi_X_le (xi_le_s (xi_le_n (xi_le_s (xi_le_s (xi_le_s (xi_le_s (xi_le_s (xi_le_n (xi_le_n xi_le_z))))))))) (ih _ _ _ _ _ _ _ h)
            · replace h := (if_neg c13).symm.trans h
              refine xr_ifCond_eq_n i_X9_duel_170 c13 (q := 178) t_X9_duel_170 (q2 := 173) rfl ?_
              refine xr_iload i_X9_duel_173 rfl (q := 175) rfl ?_
              refine xr_goto i_X9_duel_175 (q := 180) t_X9_duel_175 ?_
              refine xr_istore i_X9_duel_180 rfl (L2 := [some (.ref v0), none, some (.int v2), some (.int v3), some (.int v4), some (.int (m.1 b5 (Int32.toNatClampNeg ((((Int8.ofInt 9).toInt32) * v4) + v6)))), some (.int v6), some (.int (m.1 b5 (Int32.toNatClampNeg ((((Int8.ofInt 9).toInt32) * v4) + v6)))), some (.int (Int32.ofInt 1))]) rfl (q := 182) rfl ?_
              refine xr_iinc i_X9_duel_182 rfl rfl (L2 := [some (.ref v0), none, some (.int v2), some (.int v3), some (.int v4), some (.int (m.1 b5 (Int32.toNatClampNeg ((((Int8.ofInt 9).toInt32) * v4) + v6)))), some (.int (v6 + Int32.ofInt 1)), some (.int (m.1 b5 (Int32.toNatClampNeg ((((Int8.ofInt 9).toInt32) * v4) + v6)))), some (.int (Int32.ofInt 1))]) rfl (q := 185) rfl ?_
              refine xr_goto i_X9_duel_185 (q := 109) t_X9_duel_185 ?_
              exact xi_X_le (xi_le_s (xi_le_n (xi_le_s (xi_le_s (xi_le_s (xi_le_s (xi_le_s (xi_le_n (xi_le_n xi_le_z))))))))) (ih _ _ _ _ _ _ _ h)
        · replace h := (if_neg c15).symm.trans h
          refine xr_ifCond_ne_n i_X9_duel_141 c15 (q := 154) t_X9_duel_141 (q2 := 144) rfl ?_
          refine xr_iload i_X9_duel_154 rfl (q := 156) rfl ?_
          refine xr_iload i_X9_duel_156 rfl (q := 158) rfl ?_
          by_cases c11 : v5 ≤ (m.1 b5 (Int32.toNatClampNeg ((((Int8.ofInt 9).toInt32) * v4) + v6)))
          · replace h := (if_pos c11).symm.trans h
            refine xr_if_icmp_ge_p i_X9_duel_158 c11 (q := 165) t_X9_duel_158 (q2 := 161) rfl ?_
            refine xr_iconst i_X9_duel_165 (q := 166) rfl ?_
            refine xr_istore i_X9_duel_166 rfl (L2 := [some (.ref v0), none, some (.int v2), some (.int v3), some (.int v4), some (.int v5), some (.int v6), some (.int (m.1 b5 (Int32.toNatClampNeg ((((Int8.ofInt 9).toInt32) * v4) + v6)))), some (.int (Int32.ofInt 0))]) rfl (q := 168) rfl ?_
            refine xr_iload i_X9_duel_168 rfl (q := 170) rfl ?_
            by_cases c9 : (Int32.ofInt 0) = 0
            · replace h := (if_pos c9).symm.trans h
              refine xr_ifCond_eq_p i_X9_duel_170 c9 (q := 178) t_X9_duel_170 (q2 := 173) rfl ?_
              refine xr_iload i_X9_duel_178 rfl (q := 180) rfl ?_
              refine xr_istore i_X9_duel_180 rfl (L2 := [some (.ref v0), none, some (.int v2), some (.int v3), some (.int v4), some (.int v5), some (.int v6), some (.int (m.1 b5 (Int32.toNatClampNeg ((((Int8.ofInt 9).toInt32) * v4) + v6)))), some (.int (Int32.ofInt 0))]) rfl (q := 182) rfl ?_
              refine xr_iinc i_X9_duel_182 rfl rfl (L2 := [some (.ref v0), none, some (.int v2), some (.int v3), some (.int v4), some (.int v5), some (.int (v6 + Int32.ofInt 1)), some (.int (m.1 b5 (Int32.toNatClampNeg ((((Int8.ofInt 9).toInt32) * v4) + v6)))), some (.int (Int32.ofInt 0))]) rfl (q := 185) rfl ?_
              refine xr_goto i_X9_duel_185 (q := 109) t_X9_duel_185 ?_
              exact xi_X_le (xi_le_s (xi_le_n (xi_le_s (xi_le_s (xi_le_s (xi_le_s (xi_le_s (xi_le_n (xi_le_n xi_le_z))))))))) (ih _ _ _ _ _ _ _ h)
            · replace h := (if_neg c9).symm.trans h
              refine xr_ifCond_eq_n i_X9_duel_170 c9 (q := 178) t_X9_duel_170 (q2 := 173) rfl ?_
              refine xr_iload i_X9_duel_173 rfl (q := 175) rfl ?_
              refine xr_goto i_X9_duel_175 (q := 180) t_X9_duel_175 ?_
              refine xr_istore i_X9_duel_180 rfl (L2 := [some (.ref v0), none, some (.int v2), some (.int v3), some (.int v4), some (.int (m.1 b5 (Int32.toNatClampNeg ((((Int8.ofInt 9).toInt32) * v4) + v6)))), some (.int v6), some (.int (m.1 b5 (Int32.toNatClampNeg ((((Int8.ofInt 9).toInt32) * v4) + v6)))), some (.int (Int32.ofInt 0))]) rfl (q := 182) rfl ?_
              refine xr_iinc i_X9_duel_182 rfl rfl (L2 := [some (.ref v0), none, some (.int v2), some (.int v3), some (.int v4), some (.int (m.1 b5 (Int32.toNatClampNeg ((((Int8.ofInt 9).toInt32) * v4) + v6)))), some (.int (v6 + Int32.ofInt 1)), some (.int (m.1 b5 (Int32.toNatClampNeg ((((Int8.ofInt 9).toInt32) * v4) + v6)))), some (.int (Int32.ofInt 0))]) rfl (q := 185) rfl ?_
              refine xr_goto i_X9_duel_185 (q := 109) t_X9_duel_185 ?_
              exact xi_X_le (xi_le_s (xi_le_n (xi_le_s (xi_le_s (xi_le_s (xi_le_s (xi_le_s (xi_le_n (xi_le_n xi_le_z))))))))) (ih _ _ _ _ _ _ _ h)
          · replace h := (if_neg c11).symm.trans h
            refine xr_if_icmp_ge_n i_X9_duel_158 c11 (q := 165) t_X9_duel_158 (q2 := 161) rfl ?_
            refine xr_iconst i_X9_duel_161 (q := 162) rfl ?_
            refine xr_goto i_X9_duel_162 (q := 166) t_X9_duel_162 ?_
            refine xr_istore i_X9_duel_166 rfl (L2 := [some (.ref v0), none, some (.int v2), some (.int v3), some (.int v4), some (.int v5), some (.int v6), some (.int (m.1 b5 (Int32.toNatClampNeg ((((Int8.ofInt 9).toInt32) * v4) + v6)))), some (.int (Int32.ofInt 1))]) rfl (q := 168) rfl ?_
            refine xr_iload i_X9_duel_168 rfl (q := 170) rfl ?_
            by_cases c10 : (Int32.ofInt 1) = 0
            · replace h := (if_pos c10).symm.trans h
              refine xr_ifCond_eq_p i_X9_duel_170 c10 (q := 178) t_X9_duel_170 (q2 := 173) rfl ?_
              refine xr_iload i_X9_duel_178 rfl (q := 180) rfl ?_
              refine xr_istore i_X9_duel_180 rfl (L2 := [some (.ref v0), none, some (.int v2), some (.int v3), some (.int v4), some (.int v5), some (.int v6), some (.int (m.1 b5 (Int32.toNatClampNeg ((((Int8.ofInt 9).toInt32) * v4) + v6)))), some (.int (Int32.ofInt 1))]) rfl (q := 182) rfl ?_
              refine xr_iinc i_X9_duel_182 rfl rfl (L2 := [some (.ref v0), none, some (.int v2), some (.int v3), some (.int v4), some (.int v5), some (.int (v6 + Int32.ofInt 1)), some (.int (m.1 b5 (Int32.toNatClampNeg ((((Int8.ofInt 9).toInt32) * v4) + v6)))), some (.int (Int32.ofInt 1))]) rfl (q := 185) rfl ?_
              refine xr_goto i_X9_duel_185 (q := 109) t_X9_duel_185 ?_
              exact xi_X_le (xi_le_s (xi_le_n (xi_le_s (xi_le_s (xi_le_s (xi_le_s (xi_le_s (xi_le_n (xi_le_n xi_le_z))))))))) (ih _ _ _ _ _ _ _ h)
            · replace h := (if_neg c10).symm.trans h
              refine xr_ifCond_eq_n i_X9_duel_170 c10 (q := 178) t_X9_duel_170 (q2 := 173) rfl ?_
              refine xr_iload i_X9_duel_173 rfl (q := 175) rfl ?_
              refine xr_goto i_X9_duel_175 (q := 180) t_X9_duel_175 ?_
              refine xr_istore i_X9_duel_180 rfl (L2 := [some (.ref v0), none, some (.int v2), some (.int v3), some (.int v4), some (.int (m.1 b5 (Int32.toNatClampNeg ((((Int8.ofInt 9).toInt32) * v4) + v6)))), some (.int v6), some (.int (m.1 b5 (Int32.toNatClampNeg ((((Int8.ofInt 9).toInt32) * v4) + v6)))), some (.int (Int32.ofInt 1))]) rfl (q := 182) rfl ?_
              refine xr_iinc i_X9_duel_182 rfl rfl (L2 := [some (.ref v0), none, some (.int v2), some (.int v3), some (.int v4), some (.int (m.1 b5 (Int32.toNatClampNeg ((((Int8.ofInt 9).toInt32) * v4) + v6)))), some (.int (v6 + Int32.ofInt 1)), some (.int (m.1 b5 (Int32.toNatClampNeg ((((Int8.ofInt 9).toInt32) * v4) + v6)))), some (.int (Int32.ofInt 1))]) rfl (q := 185) rfl ?_
              refine xr_goto i_X9_duel_185 (q := 109) t_X9_duel_185 ?_
              exact xi_X_le (xi_le_s (xi_le_n (xi_le_s (xi_le_s (xi_le_s (xi_le_s (xi_le_s (xi_le_n (xi_le_n xi_le_z))))))))) (ih _ _ _ _ _ _ _ h)
def G_X9_duel_88 (S : xi_S) (k76 : Nat → Int32 → Int32 → xi_M → Option xi_R) : Nat → Nat → Int32 → Int32 → Int32 → xi_M → Option xi_R
  | 0, _, _, _, _, _ => none
  | n + 1, v0, v2, v3, v4, m =>
    if v2 ≤ v4 then
      k76 v0 v2 (v3 + Int32.ofInt (-1)) m
    else
      if S.1 v0 = 11 then (S.2.2 v0 20).bind fun b2 =>
        if S.1 b2 = 0 ∧ ¬ ((((Int8.ofInt 9).toInt32) * v4) < 0 ∨ S.2.1 b2 ≤ Int32.toNatClampNeg (((Int8.ofInt 9).toInt32) * v4)) then
          G_X9_duel_109 S k76 (G_X9_duel_88 S k76 n) 10000 v0 v2 v3 v4 (m.1 b2 (Int32.toNatClampNeg (((Int8.ofInt 9).toInt32) * v4))) (Int32.ofInt 1) m
        else none
      else none
set_option maxRecDepth 100000 in
set_option maxHeartbeats 4000000 in
theorem xs_X9_duel_88 {S : xi_S} {res : xi_R} {k76 : Nat → Int32 → Int32 → xi_M → Option xi_R} (hk76 : ∀ (v0 : Nat) (v2 : Int32) (v3 : Int32) (m : xi_M), k76 v0 v2 v3 m = some res → xi_X S (P_X9_duel S) (76, [some (.ref v0), none, some (.int v2), some (.int v3), none, none, none, none, none], [], m) res) : ∀ (n : Nat) (v0 : Nat) (v2 : Int32) (v3 : Int32) (v4 : Int32) (m : xi_M), G_X9_duel_88 S k76 n v0 v2 v3 v4 m = some res → xi_X S (P_X9_duel S) (88, [some (.ref v0), none, some (.int v2), some (.int v3), some (.int v4), none, none, none, none], [], m) res := by
  intro n
  induction n with
  | zero => intro v0 v2 v3 v4 m h; exact xi_no h
  | succ n ih =>
    intro v0 v2 v3 v4 m h
    unfold G_X9_duel_88 at h
    refine xr_iload i_X9_duel_88 rfl (q := 90) rfl ?_
    refine xr_iload_n i_X9_duel_90 rfl (q := 91) rfl ?_
    by_cases c4 : v2 ≤ v4
    · replace h := (if_pos c4).symm.trans h
      refine xr_if_icmp_ge_p i_X9_duel_91 c4 (q := 203) t_X9_duel_91 (q2 := 94) rfl ?_
      refine xr_iinc i_X9_duel_203 rfl rfl (L2 := [some (.ref v0), none, some (.int v2), some (.int (v3 + Int32.ofInt (-1))), some (.int v4), none, none, none, none]) rfl (q := 206) rfl ?_
      refine xr_goto i_X9_duel_206 (q := 76) t_X9_duel_206 ?_
      exact xi_X_le (xi_le_s (xi_le_n (xi_le_s (xi_le_s (xi_le_n (xi_le_n (xi_le_n (xi_le_n (xi_le_n xi_le_z))))))))) (hk76 _ _ _ _ h)
    · replace h := (if_neg c4).symm.trans h
      refine xr_if_icmp_ge_n i_X9_duel_91 c4 (q := 203) t_X9_duel_91 (q2 := 94) rfl ?_
      refine xr_aload_n i_X9_duel_94 rfl (q := 95) rfl ?_
      obtain ⟨c1, h⟩ := xi_if_some h
      obtain ⟨b2, eb2, h⟩ := xi_bind_some h
      refine xr_getR i_X9_duel_95 xfe_X9_53 c1 eb2 (q := 98) rfl ?_
      refine xr_bipush i_X9_duel_98 (q := 100) rfl ?_
      refine xr_iload i_X9_duel_100 rfl (q := 102) rfl ?_
      refine xr_imul i_X9_duel_102 (q := 103) rfl ?_
      obtain ⟨c3, h⟩ := xi_if_some h
      refine xr_iaload i_X9_duel_103 c3 (q := 104) rfl ?_
      refine xr_istore i_X9_duel_104 rfl (L2 := [some (.ref v0), none, some (.int v2), some (.int v3), some (.int v4), some (.int (m.1 b2 (Int32.toNatClampNeg (((Int8.ofInt 9).toInt32) * v4)))), none, none, none]) rfl (q := 106) rfl ?_
      refine xr_iconst i_X9_duel_106 (q := 107) rfl ?_
      refine xr_istore i_X9_duel_107 rfl (L2 := [some (.ref v0), none, some (.int v2), some (.int v3), some (.int v4), some (.int (m.1 b2 (Int32.toNatClampNeg (((Int8.ofInt 9).toInt32) * v4)))), some (.int (Int32.ofInt 1)), none, none]) rfl (q := 109) rfl ?_
      exact xi_X_le (xi_le_s (xi_le_n (xi_le_s (xi_le_s (xi_le_s (xi_le_s (xi_le_s (xi_le_n (xi_le_n xi_le_z))))))))) (xs_X9_duel_109 hk76 ih 10000 _ _ _ _ _ _ _ h)
def G_X9_duel_76 (S : xi_S) : Nat → Nat → Int32 → Int32 → xi_M → Option xi_R
  | 0, _, _, _, _ => none
  | n + 1, v0, v2, v3, m =>
    if v3 < 0 then
      if S.1 v0 = 11 then (S.2.2 v0 20).bind fun b2 =>
        if S.1 b2 = 0 ∧ ¬ ((Int32.ofInt 0) < 0 ∨ S.2.1 b2 ≤ Int32.toNatClampNeg (Int32.ofInt 0)) then
          xi_bI (if S.1 v0 = 11 then E_X9_tells S v0 (m.1 b2 (Int32.toNatClampNeg (Int32.ofInt 0))) m else none) fun x5 m4 =>
          some (some (.int x5), m4)
        else none
      else none
    else
      if ((Int8.ofInt 9).toInt32) = 0 then none else
      G_X9_duel_88 S (G_X9_duel_76 S n) 10000 v0 (v2 / ((Int8.ofInt 9).toInt32)) v3 (Int32.ofInt 0) m
set_option maxRecDepth 100000 in
set_option maxHeartbeats 4000000 in
theorem xs_X9_duel_76 {S : xi_S} {res : xi_R} : ∀ (n : Nat) (v0 : Nat) (v2 : Int32) (v3 : Int32) (m : xi_M), G_X9_duel_76 S n v0 v2 v3 m = some res → xi_X S (P_X9_duel S) (76, [some (.ref v0), none, some (.int v2), some (.int v3), none, none, none, none, none], [], m) res := by
  intro n
  induction n with
  | zero => intro v0 v2 v3 m h; exact xi_no h
  | succ n ih =>
    intro v0 v2 v3 m h
    unfold G_X9_duel_76 at h
    refine xr_iload_n i_X9_duel_76 rfl (q := 77) rfl ?_
    by_cases c7 : v3 < 0
    · replace h := (if_pos c7).symm.trans h
      refine xr_ifCond_lt_p i_X9_duel_77 c7 (q := 209) t_X9_duel_77 (q2 := 80) rfl ?_
      refine xr_aload_n i_X9_duel_209 rfl (q := 210) rfl ?_
      refine xr_aload_n i_X9_duel_210 rfl (q := 211) rfl ?_
      obtain ⟨c1, h⟩ := xi_if_some h
      obtain ⟨b2, eb2, h⟩ := xi_bind_some h
      refine xr_getR i_X9_duel_211 xfe_X9_53 c1 eb2 (q := 214) rfl ?_
      refine xr_iconst i_X9_duel_214 (q := 215) rfl ?_
      obtain ⟨c3, h⟩ := xi_if_some h
      refine xr_iaload i_X9_duel_215 c3 (q := 216) rfl ?_
      obtain ⟨x5, m4, em4, h⟩ := xi_bI_some h
      refine xr_VI i_X9_duel_216 xcve_X9_75 rfl (As := [.ref v0, .int (m.1 b2 (Int32.toNatClampNeg (Int32.ofInt 0)))]) rfl (rest := []) rfl ((cc_X9_duel_75 S _ _ _).trans em4) (q := 219) rfl ?_
      exact xr_ireturn i_X9_duel_219 rfl h
    · replace h := (if_neg c7).symm.trans h
      refine xr_ifCond_lt_n i_X9_duel_77 c7 (q := 209) t_X9_duel_77 (q2 := 80) rfl ?_
      refine xr_iload_n i_X9_duel_80 rfl (q := 81) rfl ?_
      refine xr_bipush i_X9_duel_81 (q := 83) rfl ?_
      obtain ⟨c6, h⟩ := xi_ifn_some h
      refine xr_idiv i_X9_duel_83 c6 (q := 84) rfl ?_
      refine xr_istore_n i_X9_duel_84 rfl (L2 := [some (.ref v0), none, some (.int (v2 / ((Int8.ofInt 9).toInt32))), some (.int v3), none, none, none, none, none]) rfl (q := 85) rfl ?_
      refine xr_iconst i_X9_duel_85 (q := 86) rfl ?_
      refine xr_istore i_X9_duel_86 rfl (L2 := [some (.ref v0), none, some (.int (v2 / ((Int8.ofInt 9).toInt32))), some (.int v3), some (.int (Int32.ofInt 0)), none, none, none, none]) rfl (q := 88) rfl ?_
      exact xi_X_le (xi_le_s (xi_le_n (xi_le_s (xi_le_s (xi_le_s (xi_le_n (xi_le_n (xi_le_n (xi_le_n xi_le_z))))))))) (xs_X9_duel_88 ih 10000 _ _ _ _ _ h)
def G_X9_duel_45 (S : xi_S) : Nat → Nat → Int32 → Int32 → Int32 → xi_M → Option xi_R
  | 0, _, _, _, _, _ => none
  | n + 1, v0, v1, v2, v3, m =>
    if v2 ≤ v3 then
      G_X9_duel_76 S 10000 v0 v2 (((Int32.ofInt 2) * v1) - (Int32.ofInt 1)) m
    else
      if S.1 v0 = 11 then (S.2.2 v0 20).bind fun b2 =>
        xi_bI (if S.1 v0 = 11 then E_X9_comes S v0 v3 ((Int32.ofInt 2) * v1) m else none) fun x4 m3 =>
        if S.1 b2 = 0 ∧ ¬ (v3 < 0 ∨ S.2.1 b2 ≤ Int32.toNatClampNeg v3) then
          G_X9_duel_45 S n v0 v1 v2 (v3 + Int32.ofInt 1) (xi_wI m3 b2 (Int32.toNatClampNeg v3) x4)
        else none
      else none
set_option maxRecDepth 100000 in
set_option maxHeartbeats 4000000 in
theorem xs_X9_duel_45 {S : xi_S} {res : xi_R} : ∀ (n : Nat) (v0 : Nat) (v1 : Int32) (v2 : Int32) (v3 : Int32) (m : xi_M), G_X9_duel_45 S n v0 v1 v2 v3 m = some res → xi_X S (P_X9_duel S) (45, [some (.ref v0), some (.int v1), some (.int v2), some (.int v3), none, none, none, none, none], [], m) res := by
  intro n
  induction n with
  | zero => intro v0 v1 v2 v3 m h; exact xi_no h
  | succ n ih =>
    intro v0 v1 v2 v3 m h
    unfold G_X9_duel_45 at h
    refine xr_iload_n i_X9_duel_45 rfl (q := 46) rfl ?_
    refine xr_iload_n i_X9_duel_46 rfl (q := 47) rfl ?_
    by_cases c6 : v2 ≤ v3
    · replace h := (if_pos c6).symm.trans h
      refine xr_if_icmp_ge_p i_X9_duel_47 c6 (q := 70) t_X9_duel_47 (q2 := 50) rfl ?_
      refine xr_iconst i_X9_duel_70 (q := 71) rfl ?_
      refine xr_iload_n i_X9_duel_71 rfl (q := 72) rfl ?_
      refine xr_imul i_X9_duel_72 (q := 73) rfl ?_
      refine xr_iconst i_X9_duel_73 (q := 74) rfl ?_
      refine xr_isub i_X9_duel_74 (q := 75) rfl ?_
      refine xr_istore_n i_X9_duel_75 rfl (L2 := [some (.ref v0), some (.int v1), some (.int v2), some (.int (((Int32.ofInt 2) * v1) - (Int32.ofInt 1))), none, none, none, none, none]) rfl (q := 76) rfl ?_
      exact xi_X_le (xi_le_s (xi_le_n (xi_le_s (xi_le_s (xi_le_n (xi_le_n (xi_le_n (xi_le_n (xi_le_n xi_le_z))))))))) (xs_X9_duel_76 10000 _ _ _ _ h)
    · replace h := (if_neg c6).symm.trans h
      refine xr_if_icmp_ge_n i_X9_duel_47 c6 (q := 70) t_X9_duel_47 (q2 := 50) rfl ?_
      refine xr_aload_n i_X9_duel_50 rfl (q := 51) rfl ?_
      obtain ⟨c1, h⟩ := xi_if_some h
      obtain ⟨b2, eb2, h⟩ := xi_bind_some h
      refine xr_getR i_X9_duel_51 xfe_X9_53 c1 eb2 (q := 54) rfl ?_
      refine xr_iload_n i_X9_duel_54 rfl (q := 55) rfl ?_
      refine xr_aload_n i_X9_duel_55 rfl (q := 56) rfl ?_
      refine xr_iload_n i_X9_duel_56 rfl (q := 57) rfl ?_
      refine xr_iconst i_X9_duel_57 (q := 58) rfl ?_
      refine xr_iload_n i_X9_duel_58 rfl (q := 59) rfl ?_
      refine xr_imul i_X9_duel_59 (q := 60) rfl ?_
      obtain ⟨x4, m3, em3, h⟩ := xi_bI_some h
      refine xr_VI i_X9_duel_60 xcve_X9_233 rfl (As := [.ref v0, .int v3, .int ((Int32.ofInt 2) * v1)]) rfl (rest := [.int v3, .ref b2]) rfl ((cc_X9_duel_233 S _ _ _ _).trans em3) (q := 63) rfl ?_
      obtain ⟨c5, h⟩ := xi_if_some h
      refine xr_iastore i_X9_duel_63 c5 (q := 64) rfl ?_
      refine xr_iinc i_X9_duel_64 rfl rfl (L2 := [some (.ref v0), some (.int v1), some (.int v2), some (.int (v3 + Int32.ofInt 1)), none, none, none, none, none]) rfl (q := 67) rfl ?_
      refine xr_goto i_X9_duel_67 (q := 45) t_X9_duel_67 ?_
      exact xi_X_le (xi_le_s (xi_le_s (xi_le_s (xi_le_s (xi_le_n (xi_le_n (xi_le_n (xi_le_n (xi_le_n xi_le_z))))))))) (ih _ _ _ _ _ h)
def G_X9_duel_25 (S : xi_S) : Nat → Nat → Int32 → Int32 → Int32 → xi_M → Option xi_R
  | 0, _, _, _, _, _ => none
  | n + 1, v0, v1, v2, v3, m =>
    if ((Int32.ofInt 2) * v1) ≤ v3 then
      G_X9_duel_45 S 10000 v0 v1 v2 (Int32.ofInt 0) m
    else
      G_X9_duel_25 S n v0 v1 (v2 * ((Int8.ofInt 9).toInt32)) (v3 + Int32.ofInt 1) m
set_option maxRecDepth 100000 in
set_option maxHeartbeats 4000000 in
theorem xs_X9_duel_25 {S : xi_S} {res : xi_R} : ∀ (n : Nat) (v0 : Nat) (v1 : Int32) (v2 : Int32) (v3 : Int32) (m : xi_M), G_X9_duel_25 S n v0 v1 v2 v3 m = some res → xi_X S (P_X9_duel S) (25, [some (.ref v0), some (.int v1), some (.int v2), some (.int v3), none, none, none, none, none], [], m) res := by
  intro n
  induction n with
  | zero => intro v0 v1 v2 v3 m h; exact xi_no h
  | succ n ih =>
    intro v0 v1 v2 v3 m h
    unfold G_X9_duel_25 at h
    refine xr_iload_n i_X9_duel_25 rfl (q := 26) rfl ?_
    refine xr_iconst i_X9_duel_26 (q := 27) rfl ?_
    refine xr_iload_n i_X9_duel_27 rfl (q := 28) rfl ?_
    refine xr_imul i_X9_duel_28 (q := 29) rfl ?_
    by_cases c1 : ((Int32.ofInt 2) * v1) ≤ v3
    · replace h := (if_pos c1).symm.trans h
      refine xr_if_icmp_ge_p i_X9_duel_29 c1 (q := 43) t_X9_duel_29 (q2 := 32) rfl ?_
      refine xr_iconst i_X9_duel_43 (q := 44) rfl ?_
      refine xr_istore_n i_X9_duel_44 rfl (L2 := [some (.ref v0), some (.int v1), some (.int v2), some (.int (Int32.ofInt 0)), none, none, none, none, none]) rfl (q := 45) rfl ?_
      exact xi_X_le (xi_le_s (xi_le_s (xi_le_s (xi_le_s (xi_le_n (xi_le_n (xi_le_n (xi_le_n (xi_le_n xi_le_z))))))))) (xs_X9_duel_45 10000 _ _ _ _ _ h)
    · replace h := (if_neg c1).symm.trans h
      refine xr_if_icmp_ge_n i_X9_duel_29 c1 (q := 43) t_X9_duel_29 (q2 := 32) rfl ?_
      refine xr_iload_n i_X9_duel_32 rfl (q := 33) rfl ?_
      refine xr_bipush i_X9_duel_33 (q := 35) rfl ?_
      refine xr_imul i_X9_duel_35 (q := 36) rfl ?_
      refine xr_istore_n i_X9_duel_36 rfl (L2 := [some (.ref v0), some (.int v1), some (.int (v2 * ((Int8.ofInt 9).toInt32))), some (.int v3), none, none, none, none, none]) rfl (q := 37) rfl ?_
      refine xr_iinc i_X9_duel_37 rfl rfl (L2 := [some (.ref v0), some (.int v1), some (.int (v2 * ((Int8.ofInt 9).toInt32))), some (.int (v3 + Int32.ofInt 1)), none, none, none, none, none]) rfl (q := 40) rfl ?_
      refine xr_goto i_X9_duel_40 (q := 25) t_X9_duel_40 ?_
      exact xi_X_le (xi_le_s (xi_le_s (xi_le_s (xi_le_s (xi_le_n (xi_le_n (xi_le_n (xi_le_n (xi_le_n xi_le_z))))))))) (ih _ _ _ _ _ h)
def E_X9_duel (S : xi_S) (v0 : Nat) (v1 : Int32) (m : xi_M) : Option xi_R :=
  xi_bI (E_X9_in0 S v1 (Int32.ofInt 0) (Int32.ofInt 2) m) fun x2 m1 =>
  if x2 = 0 then
    some (some (.int (Int32.ofInt (-1))), m1)
  else
    xi_bI (if S.1 v0 = 11 then E_X9_isAny S v0 m1 else none) fun x4 m3 =>
    if x4 = 0 then
      some (some (.int ((Int8.ofInt (-4)).toInt32)), m3)
    else
      G_X9_duel_25 S 10000 v0 v1 (Int32.ofInt 1) (Int32.ofInt 0) m3
def F_X9_duel (S : xi_S) : xi_F := fun As m => match As with
  | [.ref v0, .int v1] => E_X9_duel S v0 v1 m
  | _ => none
set_option maxRecDepth 100000 in
set_option maxHeartbeats 4000000 in
theorem xe_X9_duel {S : xi_S} {res : xi_R} (v0 : Nat) (v1 : Int32) (m : xi_M) (h : E_X9_duel S v0 v1 m = some res) : xi_X S (P_X9_duel S) (0, [some (.ref v0), some (.int v1), none, none, none, none, none, none, none], [], m) res := by
  unfold E_X9_duel at h
  refine xr_iload_n i_X9_duel_0 rfl (q := 1) rfl ?_
  refine xr_iconst i_X9_duel_1 (q := 2) rfl ?_
  refine xr_iconst i_X9_duel_2 (q := 3) rfl ?_
  obtain ⟨x2, m1, em1, h⟩ := xi_bI_some h
  refine xr_SI i_X9_duel_3 xcse_X9_63 rfl (As := [.int v1, .int (Int32.ofInt 0), .int (Int32.ofInt 2)]) rfl (rest := []) rfl ((cc_X9_duel_63 S _ _ _ _).trans em1) (q := 6) rfl ?_
  by_cases c6 : x2 = 0
  · replace h := (if_pos c6).symm.trans h
    refine xr_ifCond_ne_p i_X9_duel_6 c6 (q := 11) t_X9_duel_6 (q2 := 9) rfl ?_
    refine xr_iconst i_X9_duel_9 (q := 10) rfl ?_
    exact xr_ireturn i_X9_duel_10 rfl h
  · replace h := (if_neg c6).symm.trans h
    refine xr_ifCond_ne_n i_X9_duel_6 c6 (q := 11) t_X9_duel_6 (q2 := 9) rfl ?_
    refine xr_aload_n i_X9_duel_11 rfl (q := 12) rfl ?_
    obtain ⟨x4, m3, em3, h⟩ := xi_bI_some h
    refine xr_VI i_X9_duel_12 xcve_X9_183 rfl (As := [.ref v0]) rfl (rest := []) rfl ((cc_X9_duel_183 S _ _).trans em3) (q := 15) rfl ?_
    by_cases c5 : x4 = 0
    · replace h := (if_pos c5).symm.trans h
      refine xr_ifCond_ne_p i_X9_duel_15 c5 (q := 21) t_X9_duel_15 (q2 := 18) rfl ?_
      refine xr_bipush i_X9_duel_18 (q := 20) rfl ?_
      exact xr_ireturn i_X9_duel_20 rfl h
    · replace h := (if_neg c5).symm.trans h
      refine xr_ifCond_ne_n i_X9_duel_15 c5 (q := 21) t_X9_duel_15 (q2 := 18) rfl ?_
      refine xr_iconst i_X9_duel_21 (q := 22) rfl ?_
      refine xr_istore_n i_X9_duel_22 rfl (L2 := [some (.ref v0), some (.int v1), some (.int (Int32.ofInt 1)), none, none, none, none, none, none]) rfl (q := 23) rfl ?_
      refine xr_iconst i_X9_duel_23 (q := 24) rfl ?_
      refine xr_istore_n i_X9_duel_24 rfl (L2 := [some (.ref v0), some (.int v1), some (.int (Int32.ofInt 1)), some (.int (Int32.ofInt 0)), none, none, none, none, none]) rfl (q := 25) rfl ?_
      exact xi_X_le (xi_le_s (xi_le_s (xi_le_s (xi_le_s (xi_le_n (xi_le_n (xi_le_n (xi_le_n (xi_le_n xi_le_z))))))))) (xs_X9_duel_25 10000 _ _ _ _ _ h)
set_option maxRecDepth 100000 in
theorem po_X9_duel {l : Launch} {E : xi_E} {S : xi_S} {D : va_G} {tys : List (ClassId × FieldType)} (hC : xCx E S tys) : xi_Pok l E S D vwCl tys xNs RX9 xTs cX9_duel 9 8 (P_X9_duel S) := ⟨xi_dc_ok, by rw [hC.2]; exact xfo_X9, xkio_X9, xklo_X9, xi_calls_ok (ins := .invokestatic) (List.forall_mem_cons.mpr ⟨(xc_X9_63 (sn_X9_in0 hC) (by decide)), fun _ h => absurd h List.not_mem_nil⟩), xi_calls_ok (ins := .invokevirtual) (List.forall_mem_cons.mpr ⟨(xc_X9_75 hC.1 (sn_X9_tells hC) (by decide)), List.forall_mem_cons.mpr ⟨(xc_X9_183 hC.1 (sn_X9_isAny hC) (by decide)), List.forall_mem_cons.mpr ⟨(xc_X9_233 hC.1 (sn_X9_comes hC) (by decide)), fun _ h => absurd h List.not_mem_nil⟩⟩⟩)⟩
theorem sn_X9_duel {l : Launch} {E : xi_E} {S : xi_S} {D : va_G} {tys : List (ClassId × FieldType)} (hC : xCx E S tys) : ∀ As m1 r m2, F_X9_duel S As m1 = some (r, m2) → xi_Sound l E S D vwCl tys xNs xTs yX9_duel cX9_duel 9 (some .int) 8 As m1 r m2 := by
  intro As m1 r m2 h
  unfold F_X9_duel at h
  split at h
  · exact xi_meth (P := P_X9_duel S) (by decide) hC.1 (po_X9_duel hC) (Nat.le_of_ble_eq_true rfl) rfl (xe_X9_duel _ _ _ h)
  · exact xi_no h
theorem i_X9_isInBy_0 : xi_dc cX9_isInBy 0 = some (.aload_n 0, 1) := by decide +kernel
theorem i_X9_isInBy_1 : xi_dc cX9_isInBy 1 = some (.getfield 25, 3) := by decide +kernel
theorem i_X9_isInBy_4 : xi_dc cX9_isInBy 4 = some (.iload_n 1, 1) := by decide +kernel
theorem i_X9_isInBy_5 : xi_dc cX9_isInBy 5 = some (.invokestatic 154, 3) := by decide +kernel
theorem i_X9_isInBy_8 : xi_dc cX9_isInBy 8 = some (.istore_n 3, 1) := by decide +kernel
theorem i_X9_isInBy_9 : xi_dc cX9_isInBy 9 = some (.iload_n 3, 1) := by decide +kernel
theorem i_X9_isInBy_10 : xi_dc cX9_isInBy 10 = some (.bipush (-9), 2) := by decide +kernel
theorem i_X9_isInBy_12 : xi_dc cX9_isInBy 12 = some (.if_icmp .ne 5, 3) := by decide +kernel
theorem t_X9_isInBy_12 : ((12 : Nat) : Int) + 5 = ((17 : Nat) : Int) := by decide +kernel
theorem i_X9_isInBy_15 : xi_dc cX9_isInBy 15 = some (.iconst 0, 1) := by decide +kernel
theorem i_X9_isInBy_16 : xi_dc cX9_isInBy 16 = some (.ireturn, 1) := by decide +kernel
theorem i_X9_isInBy_17 : xi_dc cX9_isInBy 17 = some (.aload_n 0, 1) := by decide +kernel
theorem i_X9_isInBy_18 : xi_dc cX9_isInBy 18 = some (.getfield 25, 3) := by decide +kernel
theorem i_X9_isInBy_21 : xi_dc cX9_isInBy 21 = some (.iconst 1, 1) := by decide +kernel
theorem i_X9_isInBy_22 : xi_dc cX9_isInBy 22 = some (.aload_n 0, 1) := by decide +kernel
theorem i_X9_isInBy_23 : xi_dc cX9_isInBy 23 = some (.getfield 25, 3) := by decide +kernel
theorem i_X9_isInBy_26 : xi_dc cX9_isInBy 26 = some (.bipush 10, 2) := by decide +kernel
theorem i_X9_isInBy_28 : xi_dc cX9_isInBy 28 = some (.iconst 4, 1) := by decide +kernel
theorem i_X9_isInBy_29 : xi_dc cX9_isInBy 29 = some (.iload_n 1, 1) := by decide +kernel
theorem i_X9_isInBy_30 : xi_dc cX9_isInBy 30 = some (.imul, 1) := by decide +kernel
theorem i_X9_isInBy_31 : xi_dc cX9_isInBy 31 = some (.iadd, 1) := by decide +kernel
theorem i_X9_isInBy_32 : xi_dc cX9_isInBy 32 = some (.iconst 1, 1) := by decide +kernel
theorem i_X9_isInBy_33 : xi_dc cX9_isInBy 33 = some (.iadd, 1) := by decide +kernel
theorem i_X9_isInBy_34 : xi_dc cX9_isInBy 34 = some (.iaload, 1) := by decide +kernel
theorem i_X9_isInBy_35 : xi_dc cX9_isInBy 35 = some (.isub, 1) := by decide +kernel
theorem i_X9_isInBy_36 : xi_dc cX9_isInBy 36 = some (.iload_n 3, 1) := by decide +kernel
theorem i_X9_isInBy_37 : xi_dc cX9_isInBy 37 = some (.iload_n 2, 1) := by decide +kernel
theorem i_X9_isInBy_38 : xi_dc cX9_isInBy 38 = some (.iadd, 1) := by decide +kernel
theorem i_X9_isInBy_39 : xi_dc cX9_isInBy 39 = some (.bipush 20, 2) := by decide +kernel
theorem i_X9_isInBy_41 : xi_dc cX9_isInBy 41 = some (.if_icmp .le 8, 3) := by decide +kernel
theorem t_X9_isInBy_41 : ((41 : Nat) : Int) + 8 = ((49 : Nat) : Int) := by decide +kernel
theorem i_X9_isInBy_44 : xi_dc cX9_isInBy 44 = some (.bipush 20, 2) := by decide +kernel
theorem i_X9_isInBy_46 : xi_dc cX9_isInBy 46 = some (.goto 6, 3) := by decide +kernel
theorem t_X9_isInBy_46 : ((46 : Nat) : Int) + 6 = ((52 : Nat) : Int) := by decide +kernel
theorem i_X9_isInBy_49 : xi_dc cX9_isInBy 49 = some (.iload_n 3, 1) := by decide +kernel
theorem i_X9_isInBy_50 : xi_dc cX9_isInBy 50 = some (.iload_n 2, 1) := by decide +kernel
theorem i_X9_isInBy_51 : xi_dc cX9_isInBy 51 = some (.iadd, 1) := by decide +kernel
theorem i_X9_isInBy_52 : xi_dc cX9_isInBy 52 = some (.invokestatic 157, 3) := by decide +kernel
theorem i_X9_isInBy_55 : xi_dc cX9_isInBy 55 = some (.ireturn, 1) := by decide +kernel
def P_X9_isInBy (S : xi_S) : xi_P := (xi_dc cX9_isInBy, xi_tab xfl_X9, xi_tab xki_X9, xi_tab xkl_X9, xi_tab xcs_X9, xi_tab xcv_X9, xi_calls [(154, xi_wS 2 (F_X9_ball S)), (157, xi_wS 3 (F_X9_isIn S))], xi_calls [], 2)
theorem cc_X9_isInBy_154 (S : xi_S) (a0 : Nat) (a1 : Int32) (m : xi_M) : (P_X9_isInBy S).2.2.2.2.2.2.1 154 [.ref a0, .int a1] m = (E_X9_ball S a0 a1 m) := by
  show xi_calls [(154, xi_wS 2 (F_X9_ball S)), (157, xi_wS 3 (F_X9_isIn S))] 154 [.ref a0, .int a1] m = _
  refine Eq.trans (b := xi_wS 2 (F_X9_ball S) [.ref a0, .int a1] m) (xi_calls_hit rfl) ?_
  exact xi_wS_eq rfl
theorem cc_X9_isInBy_157 (S : xi_S) (a0 : Nat) (a1 : Int32) (a2 : Int32) (m : xi_M) : (P_X9_isInBy S).2.2.2.2.2.2.1 157 [.ref a0, .int a1, .int a2] m = (E_X9_isIn S a0 a1 a2 m) := by
  show xi_calls [(154, xi_wS 2 (F_X9_ball S)), (157, xi_wS 3 (F_X9_isIn S))] 157 [.ref a0, .int a1, .int a2] m = _
  refine Eq.trans (b := xi_calls [(157, xi_wS 3 (F_X9_isIn S))] 157 [.ref a0, .int a1, .int a2] m) (xi_calls_miss rfl) ?_
  refine Eq.trans (b := xi_wS 3 (F_X9_isIn S) [.ref a0, .int a1, .int a2] m) (xi_calls_hit rfl) ?_
  exact xi_wS_eq rfl
def E_X9_isInBy (S : xi_S) (v0 : Nat) (v1 : Int32) (v2 : Int32) (m : xi_M) : Option xi_R :=
  if S.1 v0 = 11 then (S.2.2 v0 5).bind fun b2 =>
    xi_bI (E_X9_ball S b2 v1 m) fun x4 m3 =>
    if x4 = ((Int8.ofInt (-9)).toInt32) then
      if (Int32.ofInt 0) = 0 ∨ (Int32.ofInt 0) = 1 then some (some (.int (Int32.ofInt 0)), m3) else none
    else
      if S.1 v0 = 11 then (S.2.2 v0 5).bind fun b6 =>
        if S.1 v0 = 11 then (S.2.2 v0 5).bind fun b8 =>
          if S.1 b8 = 0 ∧ ¬ (((((Int8.ofInt 10).toInt32) + ((Int32.ofInt 4) * v1)) + (Int32.ofInt 1)) < 0 ∨ S.2.1 b8 ≤ Int32.toNatClampNeg ((((Int8.ofInt 10).toInt32) + ((Int32.ofInt 4) * v1)) + (Int32.ofInt 1))) then
            if (x4 + v2) ≤ ((Int8.ofInt 20).toInt32) then
              xi_bI (E_X9_isIn S b6 ((Int32.ofInt 1) - (m3.1 b8 (Int32.toNatClampNeg ((((Int8.ofInt 10).toInt32) + ((Int32.ofInt 4) * v1)) + (Int32.ofInt 1))))) (x4 + v2) m3) fun x11 m10 =>
              if x11 = 0 ∨ x11 = 1 then some (some (.int x11), m10) else none
            else
              xi_bI (E_X9_isIn S b6 ((Int32.ofInt 1) - (m3.1 b8 (Int32.toNatClampNeg ((((Int8.ofInt 10).toInt32) + ((Int32.ofInt 4) * v1)) + (Int32.ofInt 1))))) ((Int8.ofInt 20).toInt32) m3) fun x13 m12 =>
              if x13 = 0 ∨ x13 = 1 then some (some (.int x13), m12) else none
          else none
        else none
      else none
  else none
def F_X9_isInBy (S : xi_S) : xi_F := fun As m => match As with
  | [.ref v0, .int v1, .int v2] => E_X9_isInBy S v0 v1 v2 m
  | _ => none
set_option maxRecDepth 100000 in
set_option maxHeartbeats 4000000 in
theorem xe_X9_isInBy {S : xi_S} {res : xi_R} (v0 : Nat) (v1 : Int32) (v2 : Int32) (m : xi_M) (h : E_X9_isInBy S v0 v1 v2 m = some res) : xi_X S (P_X9_isInBy S) (0, [some (.ref v0), some (.int v1), some (.int v2), none], [], m) res := by
  unfold E_X9_isInBy at h
  refine xr_aload_n i_X9_isInBy_0 rfl (q := 1) rfl ?_
  obtain ⟨c1, h⟩ := xi_if_some h
  obtain ⟨b2, eb2, h⟩ := xi_bind_some h
  refine xr_getR i_X9_isInBy_1 xfe_X9_25 c1 eb2 (q := 4) rfl ?_
  refine xr_iload_n i_X9_isInBy_4 rfl (q := 5) rfl ?_
  obtain ⟨x4, m3, em3, h⟩ := xi_bI_some h
  refine xr_SI i_X9_isInBy_5 xcse_X9_154 rfl (As := [.ref b2, .int v1]) rfl (rest := []) rfl ((cc_X9_isInBy_154 S _ _ _).trans em3) (q := 8) rfl ?_
  refine xr_istore_n i_X9_isInBy_8 rfl (L2 := [some (.ref v0), some (.int v1), some (.int v2), some (.int x4)]) rfl (q := 9) rfl ?_
  refine xr_iload_n i_X9_isInBy_9 rfl (q := 10) rfl ?_
  refine xr_bipush i_X9_isInBy_10 (q := 12) rfl ?_
  by_cases c15 : x4 = ((Int8.ofInt (-9)).toInt32)
  · replace h := (if_pos c15).symm.trans h
    refine xr_if_icmp_ne_p i_X9_isInBy_12 c15 (q := 17) t_X9_isInBy_12 (q2 := 15) rfl ?_
    refine xr_iconst i_X9_isInBy_15 (q := 16) rfl ?_
    exact xr_zreturn i_X9_isInBy_16 rfl h
  · replace h := (if_neg c15).symm.trans h
    refine xr_if_icmp_ne_n i_X9_isInBy_12 c15 (q := 17) t_X9_isInBy_12 (q2 := 15) rfl ?_
    refine xr_aload_n i_X9_isInBy_17 rfl (q := 18) rfl ?_
    obtain ⟨c5, h⟩ := xi_if_some h
    obtain ⟨b6, eb6, h⟩ := xi_bind_some h
    refine xr_getR i_X9_isInBy_18 xfe_X9_25 c5 eb6 (q := 21) rfl ?_
    refine xr_iconst i_X9_isInBy_21 (q := 22) rfl ?_
    refine xr_aload_n i_X9_isInBy_22 rfl (q := 23) rfl ?_
    obtain ⟨c7, h⟩ := xi_if_some h
    obtain ⟨b8, eb8, h⟩ := xi_bind_some h
    refine xr_getR i_X9_isInBy_23 xfe_X9_25 c7 eb8 (q := 26) rfl ?_
    refine xr_bipush i_X9_isInBy_26 (q := 28) rfl ?_
    refine xr_iconst i_X9_isInBy_28 (q := 29) rfl ?_
    refine xr_iload_n i_X9_isInBy_29 rfl (q := 30) rfl ?_
    refine xr_imul i_X9_isInBy_30 (q := 31) rfl ?_
    refine xr_iadd i_X9_isInBy_31 (q := 32) rfl ?_
    refine xr_iconst i_X9_isInBy_32 (q := 33) rfl ?_
    refine xr_iadd i_X9_isInBy_33 (q := 34) rfl ?_
    obtain ⟨c9, h⟩ := xi_if_some h
    refine xr_iaload i_X9_isInBy_34 c9 (q := 35) rfl ?_
    refine xr_isub i_X9_isInBy_35 (q := 36) rfl ?_
    refine xr_iload_n i_X9_isInBy_36 rfl (q := 37) rfl ?_
    refine xr_iload_n i_X9_isInBy_37 rfl (q := 38) rfl ?_
    refine xr_iadd i_X9_isInBy_38 (q := 39) rfl ?_
    refine xr_bipush i_X9_isInBy_39 (q := 41) rfl ?_
    by_cases c14 : (x4 + v2) ≤ ((Int8.ofInt 20).toInt32)
    · replace h := (if_pos c14).symm.trans h
      refine xr_if_icmp_le_p i_X9_isInBy_41 c14 (q := 49) t_X9_isInBy_41 (q2 := 44) rfl ?_
      refine xr_iload_n i_X9_isInBy_49 rfl (q := 50) rfl ?_
      refine xr_iload_n i_X9_isInBy_50 rfl (q := 51) rfl ?_
      refine xr_iadd i_X9_isInBy_51 (q := 52) rfl ?_
      obtain ⟨x11, m10, em10, h⟩ := xi_bI_some h
      refine xr_SI i_X9_isInBy_52 xcse_X9_157 rfl (As := [.ref b6, .int ((Int32.ofInt 1) - (m3.1 b8 (Int32.toNatClampNeg ((((Int8.ofInt 10).toInt32) + ((Int32.ofInt 4) * v1)) + (Int32.ofInt 1))))), .int (x4 + v2)]) rfl (rest := []) rfl ((cc_X9_isInBy_157 S _ _ _ _).trans em10) (q := 55) rfl ?_
      exact xr_zreturn i_X9_isInBy_55 rfl h
    · replace h := (if_neg c14).symm.trans h
      refine xr_if_icmp_le_n i_X9_isInBy_41 c14 (q := 49) t_X9_isInBy_41 (q2 := 44) rfl ?_
      refine xr_bipush i_X9_isInBy_44 (q := 46) rfl ?_
      refine xr_goto i_X9_isInBy_46 (q := 52) t_X9_isInBy_46 ?_
      obtain ⟨x13, m12, em12, h⟩ := xi_bI_some h
      refine xr_SI i_X9_isInBy_52 xcse_X9_157 rfl (As := [.ref b6, .int ((Int32.ofInt 1) - (m3.1 b8 (Int32.toNatClampNeg ((((Int8.ofInt 10).toInt32) + ((Int32.ofInt 4) * v1)) + (Int32.ofInt 1))))), .int ((Int8.ofInt 20).toInt32)]) rfl (rest := []) rfl ((cc_X9_isInBy_157 S _ _ _ _).trans em12) (q := 55) rfl ?_
      exact xr_zreturn i_X9_isInBy_55 rfl h
set_option maxRecDepth 100000 in
theorem po_X9_isInBy {l : Launch} {E : xi_E} {S : xi_S} {D : va_G} {tys : List (ClassId × FieldType)} (hC : xCx E S tys) : xi_Pok l E S D vwCl tys xNs RX9 xTs cX9_isInBy 4 5 (P_X9_isInBy S) := ⟨xi_dc_ok, by rw [hC.2]; exact xfo_X9, xkio_X9, xklo_X9, xi_calls_ok (ins := .invokestatic) (List.forall_mem_cons.mpr ⟨(xc_X9_154 (sn_X9_ball hC) (by decide)), List.forall_mem_cons.mpr ⟨(xc_X9_157 (sn_X9_isIn hC) (by decide)), fun _ h => absurd h List.not_mem_nil⟩⟩), xi_calls_ok (ins := .invokevirtual) (fun _ h => absurd h List.not_mem_nil)⟩
theorem sn_X9_isInBy {l : Launch} {E : xi_E} {S : xi_S} {D : va_G} {tys : List (ClassId × FieldType)} (hC : xCx E S tys) : ∀ As m1 r m2, F_X9_isInBy S As m1 = some (r, m2) → xi_Sound l E S D vwCl tys xNs xTs yX9_isInBy cX9_isInBy 4 (some .boolean) 5 As m1 r m2 := by
  intro As m1 r m2 h
  unfold F_X9_isInBy at h
  split at h
  · exact xi_meth (P := P_X9_isInBy S) (by decide) hC.1 (po_X9_isInBy hC) (Nat.le_of_ble_eq_true rfl) rfl (xe_X9_isInBy _ _ _ _ h)
  · exact xi_no h
theorem i_X9_told_0 : xi_dc cX9_told 0 = some (.lload_n 1, 1) := by decide +kernel
theorem i_X9_told_1 : xi_dc cX9_told 1 = some (.lstore 5, 2) := by decide +kernel
theorem i_X9_told_3 : xi_dc cX9_told 3 = some (.lload_n 3, 1) := by decide +kernel
theorem i_X9_told_4 : xi_dc cX9_told 4 = some (.lstore 7, 2) := by decide +kernel
theorem i_X9_told_6 : xi_dc cX9_told 6 = some (.lload 7, 2) := by decide +kernel
theorem i_X9_told_8 : xi_dc cX9_told 8 = some (.lconst 0, 1) := by decide +kernel
theorem i_X9_told_9 : xi_dc cX9_told 9 = some (.lcmp, 1) := by decide +kernel
theorem i_X9_told_10 : xi_dc cX9_told 10 = some (.ifCond .eq 21, 3) := by decide +kernel
theorem t_X9_told_10 : ((10 : Nat) : Int) + 21 = ((31 : Nat) : Int) := by decide +kernel
theorem i_X9_told_13 : xi_dc cX9_told 13 = some (.lload 5, 2) := by decide +kernel
theorem i_X9_told_15 : xi_dc cX9_told 15 = some (.lload 7, 2) := by decide +kernel
theorem i_X9_told_17 : xi_dc cX9_told 17 = some (.lrem, 1) := by decide +kernel
theorem i_X9_told_18 : xi_dc cX9_told 18 = some (.lstore 9, 2) := by decide +kernel
theorem i_X9_told_20 : xi_dc cX9_told 20 = some (.lload 7, 2) := by decide +kernel
theorem i_X9_told_22 : xi_dc cX9_told 22 = some (.lstore 5, 2) := by decide +kernel
theorem i_X9_told_24 : xi_dc cX9_told 24 = some (.lload 9, 2) := by decide +kernel
theorem i_X9_told_26 : xi_dc cX9_told 26 = some (.lstore 7, 2) := by decide +kernel
theorem i_X9_told_28 : xi_dc cX9_told 28 = some (.goto (-22), 3) := by decide +kernel
theorem t_X9_told_28 : ((28 : Nat) : Int) + (-22) = ((6 : Nat) : Int) := by decide +kernel
theorem i_X9_told_31 : xi_dc cX9_told 31 = some (.aload_n 0, 1) := by decide +kernel
theorem i_X9_told_32 : xi_dc cX9_told 32 = some (.lload_n 1, 1) := by decide +kernel
theorem i_X9_told_33 : xi_dc cX9_told 33 = some (.lload 5, 2) := by decide +kernel
theorem i_X9_told_35 : xi_dc cX9_told 35 = some (.ldiv, 1) := by decide +kernel
theorem i_X9_told_36 : xi_dc cX9_told 36 = some (.putfield 214, 3) := by decide +kernel
theorem i_X9_told_39 : xi_dc cX9_told 39 = some (.aload_n 0, 1) := by decide +kernel
theorem i_X9_told_40 : xi_dc cX9_told 40 = some (.lload_n 3, 1) := by decide +kernel
theorem i_X9_told_41 : xi_dc cX9_told 41 = some (.lload 5, 2) := by decide +kernel
theorem i_X9_told_43 : xi_dc cX9_told 43 = some (.ldiv, 1) := by decide +kernel
theorem i_X9_told_44 : xi_dc cX9_told 44 = some (.putfield 49, 3) := by decide +kernel
theorem i_X9_told_47 : xi_dc cX9_told 47 = some (.iconst 1, 1) := by decide +kernel
theorem i_X9_told_48 : xi_dc cX9_told 48 = some (.ireturn, 1) := by decide +kernel
def P_X9_told (S : xi_S) : xi_P := (xi_dc cX9_told, xi_tab xfl_X9, xi_tab xki_X9, xi_tab xkl_X9, xi_tab xcs_X9, xi_tab xcv_X9, xi_calls [], xi_calls [], 1)
def G_X9_told_6 (S : xi_S) : Nat → Nat → Int64 → Int64 → Int64 → Int64 → xi_M → Option xi_R
  | 0, _, _, _, _, _, _ => none
  | n + 1, v0, v1, v3, v5, v7, m =>
    if (lg_cmp v7 (Int64.ofNat ((0 : Fin 2) : Nat))) = 0 then
      if v5 = 0 then none else
      if S.1 v0 = 11 then
        if v5 = 0 then none else
        if S.1 v0 = 11 then
          some (some (.int (Int32.ofInt 1)), (xi_wJ (xi_wJ m v0 16 (v1 / v5)) v0 17 (v3 / v5)))
        else none
      else none
    else
      if v7 = 0 then none else
      G_X9_told_6 S n v0 v1 v3 v7 (v5 - v5 / v7 * v7) m
set_option maxRecDepth 100000 in
set_option maxHeartbeats 4000000 in
theorem xs_X9_told_6 {S : xi_S} {res : xi_R} : ∀ (n : Nat) (v0 : Nat) (v1 : Int64) (v3 : Int64) (v5 : Int64) (v7 : Int64) (m : xi_M), G_X9_told_6 S n v0 v1 v3 v5 v7 m = some res → xi_X S (P_X9_told S) (6, [some (.ref v0), some (.long v1), none, some (.long v3), none, some (.long v5), none, some (.long v7), none, none, none], [], m) res := by
  intro n
  induction n with
  | zero => intro v0 v1 v3 v5 v7 m h; exact xi_no h
  | succ n ih =>
    intro v0 v1 v3 v5 v7 m h
    unfold G_X9_told_6 at h
    refine xr_lload i_X9_told_6 rfl (q := 8) rfl ?_
    refine xr_lconst i_X9_told_8 (q := 9) rfl ?_
    refine xr_lcmp i_X9_told_9 (q := 10) rfl ?_
    by_cases c6 : (lg_cmp v7 (Int64.ofNat ((0 : Fin 2) : Nat))) = 0
    · replace h := (if_pos c6).symm.trans h
      refine xr_ifCond_eq_p i_X9_told_10 c6 (q := 31) t_X9_told_10 (q2 := 13) rfl ?_
      refine xr_aload_n i_X9_told_31 rfl (q := 32) rfl ?_
      refine xr_lload_n i_X9_told_32 rfl (q := 33) rfl ?_
      refine xr_lload i_X9_told_33 rfl (q := 35) rfl ?_
      obtain ⟨c1, h⟩ := xi_ifn_some h
      refine xr_ldiv i_X9_told_35 c1 (q := 36) rfl ?_
      obtain ⟨c2, h⟩ := xi_if_some h
      refine xr_putJ i_X9_told_36 xfe_X9_214 c2 (q := 39) rfl ?_
      refine xr_aload_n i_X9_told_39 rfl (q := 40) rfl ?_
      refine xr_lload_n i_X9_told_40 rfl (q := 41) rfl ?_
      refine xr_lload i_X9_told_41 rfl (q := 43) rfl ?_
      obtain ⟨c3, h⟩ := xi_ifn_some h
      refine xr_ldiv i_X9_told_43 c3 (q := 44) rfl ?_
      obtain ⟨c4, h⟩ := xi_if_some h
      refine xr_putJ i_X9_told_44 xfe_X9_49 c4 (q := 47) rfl ?_
      refine xr_iconst i_X9_told_47 (q := 48) rfl ?_
      exact xr_ireturn i_X9_told_48 rfl h
    · replace h := (if_neg c6).symm.trans h
      refine xr_ifCond_eq_n i_X9_told_10 c6 (q := 31) t_X9_told_10 (q2 := 13) rfl ?_
      refine xr_lload i_X9_told_13 rfl (q := 15) rfl ?_
      refine xr_lload i_X9_told_15 rfl (q := 17) rfl ?_
      obtain ⟨c5, h⟩ := xi_ifn_some h
      refine xr_lrem i_X9_told_17 c5 (q := 18) rfl ?_
      refine xr_lstore i_X9_told_18 rfl (L2 := [some (.ref v0), some (.long v1), none, some (.long v3), none, some (.long v5), none, some (.long v7), none, some (.long (v5 - v5 / v7 * v7)), none]) rfl (q := 20) rfl ?_
      refine xr_lload i_X9_told_20 rfl (q := 22) rfl ?_
      refine xr_lstore i_X9_told_22 rfl (L2 := [some (.ref v0), some (.long v1), none, some (.long v3), none, some (.long v7), none, some (.long v7), none, some (.long (v5 - v5 / v7 * v7)), none]) rfl (q := 24) rfl ?_
      refine xr_lload i_X9_told_24 rfl (q := 26) rfl ?_
      refine xr_lstore i_X9_told_26 rfl (L2 := [some (.ref v0), some (.long v1), none, some (.long v3), none, some (.long v7), none, some (.long (v5 - v5 / v7 * v7)), none, some (.long (v5 - v5 / v7 * v7)), none]) rfl (q := 28) rfl ?_
      refine xr_goto i_X9_told_28 (q := 6) t_X9_told_28 ?_
      exact xi_X_le (xi_le_s (xi_le_s (xi_le_n (xi_le_s (xi_le_n (xi_le_s (xi_le_n (xi_le_s (xi_le_n (xi_le_n (xi_le_n xi_le_z))))))))))) (ih _ _ _ _ _ _ h)
def E_X9_told (S : xi_S) (v0 : Nat) (v1 : Int64) (v3 : Int64) (m : xi_M) : Option xi_R :=
  G_X9_told_6 S 10000 v0 v1 v3 v1 v3 m
def F_X9_told (S : xi_S) : xi_F := fun As m => match As with
  | [.ref v0, .long v1, .long v3] => E_X9_told S v0 v1 v3 m
  | _ => none
set_option maxRecDepth 100000 in
set_option maxHeartbeats 4000000 in
theorem xe_X9_told {S : xi_S} {res : xi_R} (v0 : Nat) (v1 : Int64) (v3 : Int64) (m : xi_M) (h : E_X9_told S v0 v1 v3 m = some res) : xi_X S (P_X9_told S) (0, [some (.ref v0), some (.long v1), none, some (.long v3), none, none, none, none, none, none, none], [], m) res := by
  unfold E_X9_told at h
  refine xr_lload_n i_X9_told_0 rfl (q := 1) rfl ?_
  refine xr_lstore i_X9_told_1 rfl (L2 := [some (.ref v0), some (.long v1), none, some (.long v3), none, some (.long v1), none, none, none, none, none]) rfl (q := 3) rfl ?_
  refine xr_lload_n i_X9_told_3 rfl (q := 4) rfl ?_
  refine xr_lstore i_X9_told_4 rfl (L2 := [some (.ref v0), some (.long v1), none, some (.long v3), none, some (.long v1), none, some (.long v3), none, none, none]) rfl (q := 6) rfl ?_
  exact xi_X_le (xi_le_s (xi_le_s (xi_le_n (xi_le_s (xi_le_n (xi_le_s (xi_le_n (xi_le_s (xi_le_n (xi_le_n (xi_le_n xi_le_z))))))))))) (xs_X9_told_6 10000 _ _ _ _ _ _ h)
set_option maxRecDepth 100000 in
theorem po_X9_told {l : Launch} {E : xi_E} {S : xi_S} {D : va_G} {tys : List (ClassId × FieldType)} (hC : xCx E S tys) : xi_Pok l E S D vwCl tys xNs RX9 xTs cX9_told 11 0 (P_X9_told S) := ⟨xi_dc_ok, by rw [hC.2]; exact xfo_X9, xkio_X9, xklo_X9, xi_calls_ok (ins := .invokestatic) (fun _ h => absurd h List.not_mem_nil), xi_calls_ok (ins := .invokevirtual) (fun _ h => absurd h List.not_mem_nil)⟩
theorem sn_X9_told {l : Launch} {E : xi_E} {S : xi_S} {D : va_G} {tys : List (ClassId × FieldType)} (hC : xCx E S tys) : ∀ As m1 r m2, F_X9_told S As m1 = some (r, m2) → xi_Sound l E S D vwCl tys xNs xTs yX9_told cX9_told 11 (some .int) 0 As m1 r m2 := by
  intro As m1 r m2 h
  unfold F_X9_told at h
  split at h
  · exact xi_meth (P := P_X9_told S) (by decide) hC.1 (po_X9_told hC) (Nat.le_of_ble_eq_true rfl) rfl (xe_X9_told _ _ _ _ h)
  · exact xi_no h
theorem i_X9_odds_0 : xi_dc cX9_odds 0 = some (.iload_n 1, 1) := by decide +kernel
theorem i_X9_odds_1 : xi_dc cX9_odds 1 = some (.iconst 0, 1) := by decide +kernel
theorem i_X9_odds_2 : xi_dc cX9_odds 2 = some (.iconst 1, 1) := by decide +kernel
theorem i_X9_odds_3 : xi_dc cX9_odds 3 = some (.invokestatic 63, 3) := by decide +kernel
theorem i_X9_odds_6 : xi_dc cX9_odds 6 = some (.ifCond .eq 13, 3) := by decide +kernel
theorem t_X9_odds_6 : ((6 : Nat) : Int) + 13 = ((19 : Nat) : Int) := by decide +kernel
theorem i_X9_odds_9 : xi_dc cX9_odds 9 = some (.iload_n 2, 1) := by decide +kernel
theorem i_X9_odds_10 : xi_dc cX9_odds 10 = some (.iconst 0, 1) := by decide +kernel
theorem i_X9_odds_11 : xi_dc cX9_odds 11 = some (.bipush 12, 2) := by decide +kernel
theorem i_X9_odds_13 : xi_dc cX9_odds 13 = some (.invokestatic 63, 3) := by decide +kernel
theorem i_X9_odds_16 : xi_dc cX9_odds 16 = some (.ifCond .ne 5, 3) := by decide +kernel
theorem t_X9_odds_16 : ((16 : Nat) : Int) + 5 = ((21 : Nat) : Int) := by decide +kernel
theorem i_X9_odds_19 : xi_dc cX9_odds 19 = some (.iconst (-1), 1) := by decide +kernel
theorem i_X9_odds_20 : xi_dc cX9_odds 20 = some (.ireturn, 1) := by decide +kernel
theorem i_X9_odds_21 : xi_dc cX9_odds 21 = some (.aload_n 0, 1) := by decide +kernel
theorem i_X9_odds_22 : xi_dc cX9_odds 22 = some (.invokevirtual 183, 3) := by decide +kernel
theorem i_X9_odds_25 : xi_dc cX9_odds 25 = some (.ifCond .ne 6, 3) := by decide +kernel
theorem t_X9_odds_25 : ((25 : Nat) : Int) + 6 = ((31 : Nat) : Int) := by decide +kernel
theorem i_X9_odds_28 : xi_dc cX9_odds 28 = some (.bipush (-4), 2) := by decide +kernel
theorem i_X9_odds_30 : xi_dc cX9_odds 30 = some (.ireturn, 1) := by decide +kernel
theorem i_X9_odds_31 : xi_dc cX9_odds 31 = some (.lconst 0, 1) := by decide +kernel
theorem i_X9_odds_32 : xi_dc cX9_odds 32 = some (.lstore_n 3, 1) := by decide +kernel
theorem i_X9_odds_33 : xi_dc cX9_odds 33 = some (.lconst 1, 1) := by decide +kernel
theorem i_X9_odds_34 : xi_dc cX9_odds 34 = some (.lstore 5, 2) := by decide +kernel
theorem i_X9_odds_36 : xi_dc cX9_odds 36 = some (.iconst 0, 1) := by decide +kernel
theorem i_X9_odds_37 : xi_dc cX9_odds 37 = some (.istore 7, 2) := by decide +kernel
theorem i_X9_odds_39 : xi_dc cX9_odds 39 = some (.iload 7, 2) := by decide +kernel
theorem i_X9_odds_41 : xi_dc cX9_odds 41 = some (.aload_n 0, 1) := by decide +kernel
theorem i_X9_odds_42 : xi_dc cX9_odds 42 = some (.getfield 25, 3) := by decide +kernel
theorem i_X9_odds_45 : xi_dc cX9_odds 45 = some (.iconst 1, 1) := by decide +kernel
theorem i_X9_odds_46 : xi_dc cX9_odds 46 = some (.iaload, 1) := by decide +kernel
theorem i_X9_odds_47 : xi_dc cX9_odds 47 = some (.if_icmp .ge 17, 3) := by decide +kernel
theorem t_X9_odds_47 : ((47 : Nat) : Int) + 17 = ((64 : Nat) : Int) := by decide +kernel
theorem i_X9_odds_50 : xi_dc cX9_odds 50 = some (.lload 5, 2) := by decide +kernel
theorem i_X9_odds_52 : xi_dc cX9_odds 52 = some (.ldc2_w 236, 3) := by decide +kernel
theorem i_X9_odds_55 : xi_dc cX9_odds 55 = some (.lmul, 1) := by decide +kernel
theorem i_X9_odds_56 : xi_dc cX9_odds 56 = some (.lstore 5, 2) := by decide +kernel
theorem i_X9_odds_58 : xi_dc cX9_odds 58 = some (.iinc 7 1, 3) := by decide +kernel
theorem i_X9_odds_61 : xi_dc cX9_odds 61 = some (.goto (-22), 3) := by decide +kernel
theorem t_X9_odds_61 : ((61 : Nat) : Int) + (-22) = ((39 : Nat) : Int) := by decide +kernel
theorem i_X9_odds_64 : xi_dc cX9_odds 64 = some (.iconst 0, 1) := by decide +kernel
theorem i_X9_odds_65 : xi_dc cX9_odds 65 = some (.istore 7, 2) := by decide +kernel
theorem i_X9_odds_67 : xi_dc cX9_odds 67 = some (.iload 7, 2) := by decide +kernel
theorem i_X9_odds_69 : xi_dc cX9_odds 69 = some (.iconst 1, 1) := by decide +kernel
theorem i_X9_odds_70 : xi_dc cX9_odds 70 = some (.aload_n 0, 1) := by decide +kernel
theorem i_X9_odds_71 : xi_dc cX9_odds 71 = some (.getfield 25, 3) := by decide +kernel
theorem i_X9_odds_74 : xi_dc cX9_odds 74 = some (.iconst 1, 1) := by decide +kernel
theorem i_X9_odds_75 : xi_dc cX9_odds 75 = some (.iaload, 1) := by decide +kernel
theorem i_X9_odds_76 : xi_dc cX9_odds 76 = some (.ishl, 1) := by decide +kernel
theorem i_X9_odds_77 : xi_dc cX9_odds 77 = some (.if_icmp .ge 126, 3) := by decide +kernel
theorem t_X9_odds_77 : ((77 : Nat) : Int) + 126 = ((203 : Nat) : Int) := by decide +kernel
theorem i_X9_odds_80 : xi_dc cX9_odds 80 = some (.lconst 1, 1) := by decide +kernel
theorem i_X9_odds_81 : xi_dc cX9_odds 81 = some (.lstore 8, 2) := by decide +kernel
theorem i_X9_odds_83 : xi_dc cX9_odds 83 = some (.iconst 0, 1) := by decide +kernel
theorem i_X9_odds_84 : xi_dc cX9_odds 84 = some (.istore 10, 2) := by decide +kernel
theorem i_X9_odds_86 : xi_dc cX9_odds 86 = some (.iconst 0, 1) := by decide +kernel
theorem i_X9_odds_87 : xi_dc cX9_odds 87 = some (.istore 11, 2) := by decide +kernel
theorem i_X9_odds_89 : xi_dc cX9_odds 89 = some (.iload 11, 2) := by decide +kernel
theorem i_X9_odds_91 : xi_dc cX9_odds 91 = some (.aload_n 0, 1) := by decide +kernel
theorem i_X9_odds_92 : xi_dc cX9_odds 92 = some (.getfield 25, 3) := by decide +kernel
theorem i_X9_odds_95 : xi_dc cX9_odds 95 = some (.iconst 1, 1) := by decide +kernel
theorem i_X9_odds_96 : xi_dc cX9_odds 96 = some (.iaload, 1) := by decide +kernel
theorem i_X9_odds_97 : xi_dc cX9_odds 97 = some (.if_icmp .ge 86, 3) := by decide +kernel
theorem t_X9_odds_97 : ((97 : Nat) : Int) + 86 = ((183 : Nat) : Int) := by decide +kernel
theorem i_X9_odds_100 : xi_dc cX9_odds 100 = some (.lload 8, 2) := by decide +kernel
theorem i_X9_odds_102 : xi_dc cX9_odds 102 = some (.iload 7, 2) := by decide +kernel
theorem i_X9_odds_104 : xi_dc cX9_odds 104 = some (.iload 11, 2) := by decide +kernel
theorem i_X9_odds_106 : xi_dc cX9_odds 106 = some (.invokestatic 221, 3) := by decide +kernel
theorem i_X9_odds_109 : xi_dc cX9_odds 109 = some (.ifCond .eq 8, 3) := by decide +kernel
theorem t_X9_odds_109 : ((109 : Nat) : Int) + 8 = ((117 : Nat) : Int) := by decide +kernel
theorem i_X9_odds_112 : xi_dc cX9_odds 112 = some (.iload_n 2, 1) := by decide +kernel
theorem i_X9_odds_113 : xi_dc cX9_odds 113 = some (.i2l, 1) := by decide +kernel
theorem i_X9_odds_114 : xi_dc cX9_odds 114 = some (.goto 8, 3) := by decide +kernel
theorem t_X9_odds_114 : ((114 : Nat) : Int) + 8 = ((122 : Nat) : Int) := by decide +kernel
theorem i_X9_odds_117 : xi_dc cX9_odds 117 = some (.bipush 12, 2) := by decide +kernel
theorem i_X9_odds_119 : xi_dc cX9_odds 119 = some (.iload_n 2, 1) := by decide +kernel
theorem i_X9_odds_120 : xi_dc cX9_odds 120 = some (.isub, 1) := by decide +kernel
theorem i_X9_odds_121 : xi_dc cX9_odds 121 = some (.i2l, 1) := by decide +kernel
theorem i_X9_odds_122 : xi_dc cX9_odds 122 = some (.lmul, 1) := by decide +kernel
theorem i_X9_odds_123 : xi_dc cX9_odds 123 = some (.lstore 8, 2) := by decide +kernel
theorem i_X9_odds_125 : xi_dc cX9_odds 125 = some (.aload_n 0, 1) := by decide +kernel
theorem i_X9_odds_126 : xi_dc cX9_odds 126 = some (.iload 11, 2) := by decide +kernel
theorem i_X9_odds_128 : xi_dc cX9_odds 128 = some (.iload 7, 2) := by decide +kernel
theorem i_X9_odds_130 : xi_dc cX9_odds 130 = some (.iload 11, 2) := by decide +kernel
theorem i_X9_odds_132 : xi_dc cX9_odds 132 = some (.ishr, 1) := by decide +kernel
theorem i_X9_odds_133 : xi_dc cX9_odds 133 = some (.iconst 1, 1) := by decide +kernel
theorem i_X9_odds_134 : xi_dc cX9_odds 134 = some (.iand, 1) := by decide +kernel
theorem i_X9_odds_135 : xi_dc cX9_odds 135 = some (.invokevirtual 238, 3) := by decide +kernel
theorem i_X9_odds_138 : xi_dc cX9_odds 138 = some (.istore 12, 2) := by decide +kernel
theorem i_X9_odds_140 : xi_dc cX9_odds 140 = some (.iload 10, 2) := by decide +kernel
theorem i_X9_odds_142 : xi_dc cX9_odds 142 = some (.iload 12, 2) := by decide +kernel
theorem i_X9_odds_144 : xi_dc cX9_odds 144 = some (.ifCond .ne 7, 3) := by decide +kernel
theorem t_X9_odds_144 : ((144 : Nat) : Int) + 7 = ((151 : Nat) : Int) := by decide +kernel
theorem i_X9_odds_147 : xi_dc cX9_odds 147 = some (.iconst 0, 1) := by decide +kernel
theorem i_X9_odds_148 : xi_dc cX9_odds 148 = some (.goto 26, 3) := by decide +kernel
theorem t_X9_odds_148 : ((148 : Nat) : Int) + 26 = ((174 : Nat) : Int) := by decide +kernel
theorem i_X9_odds_151 : xi_dc cX9_odds 151 = some (.aload_n 0, 1) := by decide +kernel
theorem i_X9_odds_152 : xi_dc cX9_odds 152 = some (.getfield 25, 3) := by decide +kernel
theorem i_X9_odds_155 : xi_dc cX9_odds 155 = some (.bipush 10, 2) := by decide +kernel
theorem i_X9_odds_157 : xi_dc cX9_odds 157 = some (.iconst 4, 1) := by decide +kernel
theorem i_X9_odds_158 : xi_dc cX9_odds 158 = some (.iload 11, 2) := by decide +kernel
theorem i_X9_odds_160 : xi_dc cX9_odds 160 = some (.imul, 1) := by decide +kernel
theorem i_X9_odds_161 : xi_dc cX9_odds 161 = some (.iadd, 1) := by decide +kernel
theorem i_X9_odds_162 : xi_dc cX9_odds 162 = some (.iconst 1, 1) := by decide +kernel
theorem i_X9_odds_163 : xi_dc cX9_odds 163 = some (.iadd, 1) := by decide +kernel
theorem i_X9_odds_164 : xi_dc cX9_odds 164 = some (.iaload, 1) := by decide +kernel
theorem i_X9_odds_165 : xi_dc cX9_odds 165 = some (.iload_n 1, 1) := by decide +kernel
theorem i_X9_odds_166 : xi_dc cX9_odds 166 = some (.if_icmp .ne 7, 3) := by decide +kernel
theorem t_X9_odds_166 : ((166 : Nat) : Int) + 7 = ((173 : Nat) : Int) := by decide +kernel
theorem i_X9_odds_169 : xi_dc cX9_odds 169 = some (.iconst 1, 1) := by decide +kernel
theorem i_X9_odds_170 : xi_dc cX9_odds 170 = some (.goto 4, 3) := by decide +kernel
theorem t_X9_odds_170 : ((170 : Nat) : Int) + 4 = ((174 : Nat) : Int) := by decide +kernel
theorem i_X9_odds_173 : xi_dc cX9_odds 173 = some (.iconst (-1), 1) := by decide +kernel
theorem i_X9_odds_174 : xi_dc cX9_odds 174 = some (.iadd, 1) := by decide +kernel
theorem i_X9_odds_175 : xi_dc cX9_odds 175 = some (.istore 10, 2) := by decide +kernel
theorem i_X9_odds_177 : xi_dc cX9_odds 177 = some (.iinc 11 1, 3) := by decide +kernel
theorem i_X9_odds_180 : xi_dc cX9_odds 180 = some (.goto (-91), 3) := by decide +kernel
theorem t_X9_odds_180 : ((180 : Nat) : Int) + (-91) = ((89 : Nat) : Int) := by decide +kernel
theorem i_X9_odds_183 : xi_dc cX9_odds 183 = some (.lload_n 3, 1) := by decide +kernel
theorem i_X9_odds_184 : xi_dc cX9_odds 184 = some (.iload 10, 2) := by decide +kernel
theorem i_X9_odds_186 : xi_dc cX9_odds 186 = some (.ifCond .le 8, 3) := by decide +kernel
theorem t_X9_odds_186 : ((186 : Nat) : Int) + 8 = ((194 : Nat) : Int) := by decide +kernel
theorem i_X9_odds_189 : xi_dc cX9_odds 189 = some (.lload 8, 2) := by decide +kernel
theorem i_X9_odds_191 : xi_dc cX9_odds 191 = some (.goto 4, 3) := by decide +kernel
theorem t_X9_odds_191 : ((191 : Nat) : Int) + 4 = ((195 : Nat) : Int) := by decide +kernel
theorem i_X9_odds_194 : xi_dc cX9_odds 194 = some (.lconst 0, 1) := by decide +kernel
theorem i_X9_odds_195 : xi_dc cX9_odds 195 = some (.ladd, 1) := by decide +kernel
theorem i_X9_odds_196 : xi_dc cX9_odds 196 = some (.lstore_n 3, 1) := by decide +kernel
theorem i_X9_odds_197 : xi_dc cX9_odds 197 = some (.iinc 7 1, 3) := by decide +kernel
theorem i_X9_odds_200 : xi_dc cX9_odds 200 = some (.goto (-133), 3) := by decide +kernel
theorem t_X9_odds_200 : ((200 : Nat) : Int) + (-133) = ((67 : Nat) : Int) := by decide +kernel
theorem i_X9_odds_203 : xi_dc cX9_odds 203 = some (.aload_n 0, 1) := by decide +kernel
theorem i_X9_odds_204 : xi_dc cX9_odds 204 = some (.lload_n 3, 1) := by decide +kernel
theorem i_X9_odds_205 : xi_dc cX9_odds 205 = some (.lload 5, 2) := by decide +kernel
theorem i_X9_odds_207 : xi_dc cX9_odds 207 = some (.invokevirtual 241, 3) := by decide +kernel
theorem i_X9_odds_210 : xi_dc cX9_odds 210 = some (.ireturn, 1) := by decide +kernel
def P_X9_odds (S : xi_S) : xi_P := (xi_dc cX9_odds, xi_tab xfl_X9, xi_tab xki_X9, xi_tab xkl_X9, xi_tab xcs_X9, xi_tab xcv_X9, xi_calls [(63, xi_wS 3 (F_X9_in0 S)), (221, xi_wS 2 (F_X9_has S))], xi_calls [(183, xi_wV S 11 0 (F_X9_isAny S)), (238, xi_wV S 11 2 (F_X9_isInBy S)), (241, xi_wV S 11 2 (F_X9_told S))], 1)
theorem cc_X9_odds_63 (S : xi_S) (a0 : Int32) (a1 : Int32) (a2 : Int32) (m : xi_M) : (P_X9_odds S).2.2.2.2.2.2.1 63 [.int a0, .int a1, .int a2] m = (E_X9_in0 S a0 a1 a2 m) := by
  show xi_calls [(63, xi_wS 3 (F_X9_in0 S)), (221, xi_wS 2 (F_X9_has S))] 63 [.int a0, .int a1, .int a2] m = _
  refine Eq.trans (b := xi_wS 3 (F_X9_in0 S) [.int a0, .int a1, .int a2] m) (xi_calls_hit rfl) ?_
  exact xi_wS_eq rfl
theorem cc_X9_odds_221 (S : xi_S) (a0 : Int32) (a1 : Int32) (m : xi_M) : (P_X9_odds S).2.2.2.2.2.2.1 221 [.int a0, .int a1] m = (E_X9_has S a0 a1 m) := by
  show xi_calls [(63, xi_wS 3 (F_X9_in0 S)), (221, xi_wS 2 (F_X9_has S))] 221 [.int a0, .int a1] m = _
  refine Eq.trans (b := xi_calls [(221, xi_wS 2 (F_X9_has S))] 221 [.int a0, .int a1] m) (xi_calls_miss rfl) ?_
  refine Eq.trans (b := xi_wS 2 (F_X9_has S) [.int a0, .int a1] m) (xi_calls_hit rfl) ?_
  exact xi_wS_eq rfl
theorem cc_X9_odds_183 (S : xi_S) (a0 : Nat) (m : xi_M) : (P_X9_odds S).2.2.2.2.2.2.2.1 183 [.ref a0] m = (if S.1 a0 = 11 then E_X9_isAny S a0 m else none) := by
  show xi_calls [(183, xi_wV S 11 0 (F_X9_isAny S)), (238, xi_wV S 11 2 (F_X9_isInBy S)), (241, xi_wV S 11 2 (F_X9_told S))] 183 [.ref a0] m = _
  refine Eq.trans (b := xi_wV S 11 0 (F_X9_isAny S) [.ref a0] m) (xi_calls_hit rfl) ?_
  exact xi_wV_eq rfl
theorem cc_X9_odds_238 (S : xi_S) (a0 : Nat) (a1 : Int32) (a2 : Int32) (m : xi_M) : (P_X9_odds S).2.2.2.2.2.2.2.1 238 [.ref a0, .int a1, .int a2] m = (if S.1 a0 = 11 then E_X9_isInBy S a0 a1 a2 m else none) := by
  show xi_calls [(183, xi_wV S 11 0 (F_X9_isAny S)), (238, xi_wV S 11 2 (F_X9_isInBy S)), (241, xi_wV S 11 2 (F_X9_told S))] 238 [.ref a0, .int a1, .int a2] m = _
  refine Eq.trans (b := xi_calls [(238, xi_wV S 11 2 (F_X9_isInBy S)), (241, xi_wV S 11 2 (F_X9_told S))] 238 [.ref a0, .int a1, .int a2] m) (xi_calls_miss rfl) ?_
  refine Eq.trans (b := xi_wV S 11 2 (F_X9_isInBy S) [.ref a0, .int a1, .int a2] m) (xi_calls_hit rfl) ?_
  exact xi_wV_eq rfl
theorem cc_X9_odds_241 (S : xi_S) (a0 : Nat) (a1 : Int64) (a2 : Int64) (m : xi_M) : (P_X9_odds S).2.2.2.2.2.2.2.1 241 [.ref a0, .long a1, .long a2] m = (if S.1 a0 = 11 then E_X9_told S a0 a1 a2 m else none) := by
  show xi_calls [(183, xi_wV S 11 0 (F_X9_isAny S)), (238, xi_wV S 11 2 (F_X9_isInBy S)), (241, xi_wV S 11 2 (F_X9_told S))] 241 [.ref a0, .long a1, .long a2] m = _
  refine Eq.trans (b := xi_calls [(238, xi_wV S 11 2 (F_X9_isInBy S)), (241, xi_wV S 11 2 (F_X9_told S))] 241 [.ref a0, .long a1, .long a2] m) (xi_calls_miss rfl) ?_
  refine Eq.trans (b := xi_calls [(241, xi_wV S 11 2 (F_X9_told S))] 241 [.ref a0, .long a1, .long a2] m) (xi_calls_miss rfl) ?_
  refine Eq.trans (b := xi_wV S 11 2 (F_X9_told S) [.ref a0, .long a1, .long a2] m) (xi_calls_hit rfl) ?_
  exact xi_wV_eq rfl
def G_X9_odds_89 (S : xi_S) (k67 : Nat → Int32 → Int32 → Int64 → Int64 → Int32 → xi_M → Option xi_R) : Nat → Nat → Int32 → Int32 → Int64 → Int64 → Int32 → Int64 → Int32 → Int32 → xi_M → Option xi_R
  | 0, _, _, _, _, _, _, _, _, _, _ => none
  | n + 1, v0, v1, v2, v3, v5, v7, v8, v10, v11, m =>
    if S.1 v0 = 11 then (S.2.2 v0 5).bind fun b2 =>
      if S.1 b2 = 0 ∧ ¬ ((Int32.ofInt 1) < 0 ∨ S.2.1 b2 ≤ Int32.toNatClampNeg (Int32.ofInt 1)) then
        if (m.1 b2 (Int32.toNatClampNeg (Int32.ofInt 1))) ≤ v11 then
          if v10 ≤ 0 then
            k67 v0 v1 v2 (v3 + (Int64.ofNat ((0 : Fin 2) : Nat))) v5 (v7 + Int32.ofInt 1) m
          else
            k67 v0 v1 v2 (v3 + v8) v5 (v7 + Int32.ofInt 1) m
        else
          xi_bI (E_X9_has S v7 v11 m) fun x6 m5 =>
          if x6 = 0 then
            xi_bI (if S.1 v0 = 11 then E_X9_isInBy S v0 v11 ((v7 >>> (v11 &&& 31)) &&& (Int32.ofInt 1)) m5 else none) fun x8 m7 =>
            if x8 = 0 then
              G_X9_odds_89 S k67 n v0 v1 v2 v3 v5 v7 (v8 * (Int32.toInt64 (((Int8.ofInt 12).toInt32) - v2))) (v10 + (Int32.ofInt 0)) (v11 + Int32.ofInt 1) m7
            else
              if S.1 v0 = 11 then (S.2.2 v0 5).bind fun b10 =>
                if S.1 b10 = 0 ∧ ¬ (((((Int8.ofInt 10).toInt32) + ((Int32.ofInt 4) * v11)) + (Int32.ofInt 1)) < 0 ∨ S.2.1 b10 ≤ Int32.toNatClampNeg ((((Int8.ofInt 10).toInt32) + ((Int32.ofInt 4) * v11)) + (Int32.ofInt 1))) then
                  if (m7.1 b10 (Int32.toNatClampNeg ((((Int8.ofInt 10).toInt32) + ((Int32.ofInt 4) * v11)) + (Int32.ofInt 1)))) = v1 then
                    G_X9_odds_89 S k67 n v0 v1 v2 v3 v5 v7 (v8 * (Int32.toInt64 (((Int8.ofInt 12).toInt32) - v2))) (v10 + (Int32.ofInt 1)) (v11 + Int32.ofInt 1) m7
                  else
                    G_X9_odds_89 S k67 n v0 v1 v2 v3 v5 v7 (v8 * (Int32.toInt64 (((Int8.ofInt 12).toInt32) - v2))) (v10 + (Int32.ofInt (-1))) (v11 + Int32.ofInt 1) m7
                else none
              else none
          else
            xi_bI (if S.1 v0 = 11 then E_X9_isInBy S v0 v11 ((v7 >>> (v11 &&& 31)) &&& (Int32.ofInt 1)) m5 else none) fun x15 m14 =>
            if x15 = 0 then
              G_X9_odds_89 S k67 n v0 v1 v2 v3 v5 v7 (v8 * (Int32.toInt64 v2)) (v10 + (Int32.ofInt 0)) (v11 + Int32.ofInt 1) m14
            else
              if S.1 v0 = 11 then (S.2.2 v0 5).bind fun b17 =>
                if S.1 b17 = 0 ∧ ¬ (((((Int8.ofInt 10).toInt32) + ((Int32.ofInt 4) * v11)) + (Int32.ofInt 1)) < 0 ∨ S.2.1 b17 ≤ Int32.toNatClampNeg ((((Int8.ofInt 10).toInt32) + ((Int32.ofInt 4) * v11)) + (Int32.ofInt 1))) then
                  if (m14.1 b17 (Int32.toNatClampNeg ((((Int8.ofInt 10).toInt32) + ((Int32.ofInt 4) * v11)) + (Int32.ofInt 1)))) = v1 then
                    G_X9_odds_89 S k67 n v0 v1 v2 v3 v5 v7 (v8 * (Int32.toInt64 v2)) (v10 + (Int32.ofInt 1)) (v11 + Int32.ofInt 1) m14
                  else
                    G_X9_odds_89 S k67 n v0 v1 v2 v3 v5 v7 (v8 * (Int32.toInt64 v2)) (v10 + (Int32.ofInt (-1))) (v11 + Int32.ofInt 1) m14
                else none
              else none
      else none
    else none
set_option maxRecDepth 100000 in
set_option maxHeartbeats 4000000 in
theorem xs_X9_odds_89 {S : xi_S} {res : xi_R} {k67 : Nat → Int32 → Int32 → Int64 → Int64 → Int32 → xi_M → Option xi_R} (hk67 : ∀ (v0 : Nat) (v1 : Int32) (v2 : Int32) (v3 : Int64) (v5 : Int64) (v7 : Int32) (m : xi_M), k67 v0 v1 v2 v3 v5 v7 m = some res → xi_X S (P_X9_odds S) (67, [some (.ref v0), some (.int v1), some (.int v2), some (.long v3), none, some (.long v5), none, some (.int v7), none, none, none, none, none], [], m) res) : ∀ (n : Nat) (v0 : Nat) (v1 : Int32) (v2 : Int32) (v3 : Int64) (v5 : Int64) (v7 : Int32) (v8 : Int64) (v10 : Int32) (v11 : Int32) (m : xi_M), G_X9_odds_89 S k67 n v0 v1 v2 v3 v5 v7 v8 v10 v11 m = some res → xi_X S (P_X9_odds S) (89, [some (.ref v0), some (.int v1), some (.int v2), some (.long v3), none, some (.long v5), none, some (.int v7), some (.long v8), none, some (.int v10), some (.int v11), none], [], m) res := by
  intro n
  induction n with
  | zero => intro v0 v1 v2 v3 v5 v7 v8 v10 v11 m h; exact xi_no h
  | succ n ih =>
    intro v0 v1 v2 v3 v5 v7 v8 v10 v11 m h
    unfold G_X9_odds_89 at h
    refine xr_iload i_X9_odds_89 rfl (q := 91) rfl ?_
    refine xr_aload_n i_X9_odds_91 rfl (q := 92) rfl ?_
    obtain ⟨c1, h⟩ := xi_if_some h
    obtain ⟨b2, eb2, h⟩ := xi_bind_some h
    refine xr_getR i_X9_odds_92 xfe_X9_25 c1 eb2 (q := 95) rfl ?_
    refine xr_iconst i_X9_odds_95 (q := 96) rfl ?_
    obtain ⟨c3, h⟩ := xi_if_some h
    refine xr_iaload i_X9_odds_96 c3 (q := 97) rfl ?_
    by_cases c22 : (m.1 b2 (Int32.toNatClampNeg (Int32.ofInt 1))) ≤ v11
    · replace h := (if_pos c22).symm.trans h
      refine xr_if_icmp_ge_p i_X9_odds_97 c22 (q := 183) t_X9_odds_97 (q2 := 100) rfl ?_
      refine xr_lload_n i_X9_odds_183 rfl (q := 184) rfl ?_
      refine xr_iload i_X9_odds_184 rfl (q := 186) rfl ?_
      by_cases c4 : v10 ≤ 0
      · replace h := (if_pos c4).symm.trans h
        refine xr_ifCond_le_p i_X9_odds_186 c4 (q := 194) t_X9_odds_186 (q2 := 189) rfl ?_
        refine xr_lconst i_X9_odds_194 (q := 195) rfl ?_
        refine xr_ladd i_X9_odds_195 (q := 196) rfl ?_
        refine xr_lstore_n i_X9_odds_196 rfl (L2 := [some (.ref v0), some (.int v1), some (.int v2), some (.long (v3 + (Int64.ofNat ((0 : Fin 2) : Nat)))), none, some (.long v5), none, some (.int v7), some (.long v8), none, some (.int v10), some (.int v11), none]) rfl (q := 197) rfl ?_
        refine xr_iinc i_X9_odds_197 rfl rfl (L2 := [some (.ref v0), some (.int v1), some (.int v2), some (.long (v3 + (Int64.ofNat ((0 : Fin 2) : Nat)))), none, some (.long v5), none, some (.int (v7 + Int32.ofInt 1)), some (.long v8), none, some (.int v10), some (.int v11), none]) rfl (q := 200) rfl ?_
        refine xr_goto i_X9_odds_200 (q := 67) t_X9_odds_200 ?_
        exact xi_X_le (xi_le_s (xi_le_s (xi_le_s (xi_le_s (xi_le_n (xi_le_s (xi_le_n (xi_le_s (xi_le_n (xi_le_n (xi_le_n (xi_le_n (xi_le_n xi_le_z))))))))))))) (hk67 _ _ _ _ _ _ _ h)
      · replace h := (if_neg c4).symm.trans h
        refine xr_ifCond_le_n i_X9_odds_186 c4 (q := 194) t_X9_odds_186 (q2 := 189) rfl ?_
        refine xr_lload i_X9_odds_189 rfl (q := 191) rfl ?_
        refine xr_goto i_X9_odds_191 (q := 195) t_X9_odds_191 ?_
        refine xr_ladd i_X9_odds_195 (q := 196) rfl ?_
        refine xr_lstore_n i_X9_odds_196 rfl (L2 := [some (.ref v0), some (.int v1), some (.int v2), some (.long (v3 + v8)), none, some (.long v5), none, some (.int v7), some (.long v8), none, some (.int v10), some (.int v11), none]) rfl (q := 197) rfl ?_
        refine xr_iinc i_X9_odds_197 rfl rfl (L2 := [some (.ref v0), some (.int v1), some (.int v2), some (.long (v3 + v8)), none, some (.long v5), none, some (.int (v7 + Int32.ofInt 1)), some (.long v8), none, some (.int v10), some (.int v11), none]) rfl (q := 200) rfl ?_
        refine xr_goto i_X9_odds_200 (q := 67) t_X9_odds_200 ?_
        exact xi_X_le (xi_le_s (xi_le_s (xi_le_s (xi_le_s (xi_le_n (xi_le_s (xi_le_n (xi_le_s (xi_le_n (xi_le_n (xi_le_n (xi_le_n (xi_le_n xi_le_z))))))))))))) (hk67 _ _ _ _ _ _ _ h)
    · replace h := (if_neg c22).symm.trans h
      refine xr_if_icmp_ge_n i_X9_odds_97 c22 (q := 183) t_X9_odds_97 (q2 := 100) rfl ?_
      refine xr_lload i_X9_odds_100 rfl (q := 102) rfl ?_
      refine xr_iload i_X9_odds_102 rfl (q := 104) rfl ?_
      refine xr_iload i_X9_odds_104 rfl (q := 106) rfl ?_
      obtain ⟨x6, m5, em5, h⟩ := xi_bI_some h
      refine xr_SI i_X9_odds_106 xcse_X9_221 rfl (As := [.int v7, .int v11]) rfl (rest := [.long v8]) rfl ((cc_X9_odds_221 S _ _ _).trans em5) (q := 109) rfl ?_
      by_cases c21 : x6 = 0
      · replace h := (if_pos c21).symm.trans h
        refine xr_ifCond_eq_p i_X9_odds_109 c21 (q := 117) t_X9_odds_109 (q2 := 112) rfl ?_
        refine xr_bipush i_X9_odds_117 (q := 119) rfl ?_
        refine xr_iload_n i_X9_odds_119 rfl (q := 120) rfl ?_
        refine xr_isub i_X9_odds_120 (q := 121) rfl ?_
        refine xr_i2l i_X9_odds_121 (q := 122) rfl ?_
        refine xr_lmul i_X9_odds_122 (q := 123) rfl ?_
        refine xr_lstore i_X9_odds_123 rfl (L2 := [some (.ref v0), some (.int v1), some (.int v2), some (.long v3), none, some (.long v5), none, some (.int v7), some (.long (v8 * (Int32.toInt64 (((Int8.ofInt 12).toInt32) - v2)))), none, some (.int v10), some (.int v11), none]) rfl (q := 125) rfl ?_
        refine xr_aload_n i_X9_odds_125 rfl (q := 126) rfl ?_
        refine xr_iload i_X9_odds_126 rfl (q := 128) rfl ?_
        refine xr_iload i_X9_odds_128 rfl (q := 130) rfl ?_
        refine xr_iload i_X9_odds_130 rfl (q := 132) rfl ?_
        refine xr_ishr i_X9_odds_132 (q := 133) rfl ?_
        refine xr_iconst i_X9_odds_133 (q := 134) rfl ?_
        refine xr_iand i_X9_odds_134 (q := 135) rfl ?_
        obtain ⟨x8, m7, em7, h⟩ := xi_bI_some h
        refine xr_VI i_X9_odds_135 xcve_X9_238 rfl (As := [.ref v0, .int v11, .int ((v7 >>> (v11 &&& 31)) &&& (Int32.ofInt 1))]) rfl (rest := []) rfl ((cc_X9_odds_238 S _ _ _ _).trans em7) (q := 138) rfl ?_
        refine xr_istore i_X9_odds_138 rfl (L2 := [some (.ref v0), some (.int v1), some (.int v2), some (.long v3), none, some (.long v5), none, some (.int v7), some (.long (v8 * (Int32.toInt64 (((Int8.ofInt 12).toInt32) - v2)))), none, some (.int v10), some (.int v11), some (.int x8)]) rfl (q := 140) rfl ?_
        refine xr_iload i_X9_odds_140 rfl (q := 142) rfl ?_
        refine xr_iload i_X9_odds_142 rfl (q := 144) rfl ?_
        by_cases c13 : x8 = 0
        · replace h := (if_pos c13).symm.trans h
          refine xr_ifCond_ne_p i_X9_odds_144 c13 (q := 151) t_X9_odds_144 (q2 := 147) rfl ?_
          refine xr_iconst i_X9_odds_147 (q := 148) rfl ?_
          refine xr_goto i_X9_odds_148 (q := 174) t_X9_odds_148 ?_
          refine xr_iadd i_X9_odds_174 (q := 175) rfl ?_
          refine xr_istore i_X9_odds_175 rfl (L2 := [some (.ref v0), some (.int v1), some (.int v2), some (.long v3), none, some (.long v5), none, some (.int v7), some (.long (v8 * (Int32.toInt64 (((Int8.ofInt 12).toInt32) - v2)))), none, some (.int (v10 + (Int32.ofInt 0))), some (.int v11), some (.int x8)]) rfl (q := 177) rfl ?_
          refine xr_iinc i_X9_odds_177 rfl rfl (L2 := [some (.ref v0), some (.int v1), some (.int v2), some (.long v3), none, some (.long v5), none, some (.int v7), some (.long (v8 * (Int32.toInt64 (((Int8.ofInt 12).toInt32) - v2)))), none, some (.int (v10 + (Int32.ofInt 0))), some (.int (v11 + Int32.ofInt 1)), some (.int x8)]) rfl (q := 180) rfl ?_
          refine xr_goto i_X9_odds_180 (q := 89) t_X9_odds_180 ?_
          exact xi_X_le (xi_le_s (xi_le_s (xi_le_s (xi_le_s (xi_le_n (xi_le_s (xi_le_n (xi_le_s (xi_le_s (xi_le_n (xi_le_s (xi_le_s (xi_le_n xi_le_z))))))))))))) (ih _ _ _ _ _ _ _ _ _ _ h)
        · replace h := (if_neg c13).symm.trans h
          refine xr_ifCond_ne_n i_X9_odds_144 c13 (q := 151) t_X9_odds_144 (q2 := 147) rfl ?_
          refine xr_aload_n i_X9_odds_151 rfl (q := 152) rfl ?_
          obtain ⟨c9, h⟩ := xi_if_some h
          obtain ⟨b10, eb10, h⟩ := xi_bind_some h
          refine xr_getR i_X9_odds_152 xfe_X9_25 c9 eb10 (q := 155) rfl ?_
          refine xr_bipush i_X9_odds_155 (q := 157) rfl ?_
          refine xr_iconst i_X9_odds_157 (q := 158) rfl ?_
          refine xr_iload i_X9_odds_158 rfl (q := 160) rfl ?_
          refine xr_imul i_X9_odds_160 (q := 161) rfl ?_
          refine xr_iadd i_X9_odds_161 (q := 162) rfl ?_
          refine xr_iconst i_X9_odds_162 (q := 163) rfl ?_
          refine xr_iadd i_X9_odds_163 (q := 164) rfl ?_
          obtain ⟨c11, h⟩ := xi_if_some h
          refine xr_iaload i_X9_odds_164 c11 (q := 165) rfl ?_
          refine xr_iload_n i_X9_odds_165 rfl (q := 166) rfl ?_
          by_cases c12 : (m7.1 b10 (Int32.toNatClampNeg ((((Int8.ofInt 10).toInt32) + ((Int32.ofInt 4) * v11)) + (Int32.ofInt 1)))) = v1
          · replace h := (if_pos c12).symm.trans h
            refine xr_if_icmp_ne_p i_X9_odds_166 c12 (q := 173) t_X9_odds_166 (q2 := 169) rfl ?_
            refine xr_iconst i_X9_odds_169 (q := 170) rfl ?_
            refine xr_goto i_X9_odds_170 (q := 174) t_X9_odds_170 ?_
            refine xr_iadd i_X9_odds_174 (q := 175) rfl ?_
            refine xr_istore i_X9_odds_175 rfl (L2 := [some (.ref v0), some (.int v1), some (.int v2), some (.long v3), none, some (.long v5), none, some (.int v7), some (.long (v8 * (Int32.toInt64 (((Int8.ofInt 12).toInt32) - v2)))), none, some (.int (v10 + (Int32.ofInt 1))), some (.int v11), some (.int x8)]) rfl (q := 177) rfl ?_
            refine xr_iinc i_X9_odds_177 rfl rfl (L2 := [some (.ref v0), some (.int v1), some (.int v2), some (.long v3), none, some (.long v5), none, some (.int v7), some (.long (v8 * (Int32.toInt64 (((Int8.ofInt 12).toInt32) - v2)))), none, some (.int (v10 + (Int32.ofInt 1))), some (.int (v11 + Int32.ofInt 1)), some (.int x8)]) rfl (q := 180) rfl ?_
            refine xr_goto i_X9_odds_180 (q := 89) t_X9_odds_180 ?_
            exact xi_X_le (xi_le_s (xi_le_s (xi_le_s (xi_le_s (xi_le_n (xi_le_s (xi_le_n (xi_le_s (xi_le_s (xi_le_n (xi_le_s (xi_le_s (xi_le_n xi_le_z))))))))))))) (ih _ _ _ _ _ _ _ _ _ _ h)
          · replace h := (if_neg c12).symm.trans h
            refine xr_if_icmp_ne_n i_X9_odds_166 c12 (q := 173) t_X9_odds_166 (q2 := 169) rfl ?_
            refine xr_iconst i_X9_odds_173 (q := 174) rfl ?_
            refine xr_iadd i_X9_odds_174 (q := 175) rfl ?_
            refine xr_istore i_X9_odds_175 rfl (L2 := [some (.ref v0), some (.int v1), some (.int v2), some (.long v3), none, some (.long v5), none, some (.int v7), some (.long (v8 * (Int32.toInt64 (((Int8.ofInt 12).toInt32) - v2)))), none, some (.int (v10 + (Int32.ofInt (-1)))), some (.int v11), some (.int x8)]) rfl (q := 177) rfl ?_
            refine xr_iinc i_X9_odds_177 rfl rfl (L2 := [some (.ref v0), some (.int v1), some (.int v2), some (.long v3), none, some (.long v5), none, some (.int v7), some (.long (v8 * (Int32.toInt64 (((Int8.ofInt 12).toInt32) - v2)))), none, some (.int (v10 + (Int32.ofInt (-1)))), some (.int (v11 + Int32.ofInt 1)), some (.int x8)]) rfl (q := 180) rfl ?_
            refine xr_goto i_X9_odds_180 (q := 89) t_X9_odds_180 ?_
            exact xi_X_le (xi_le_s (xi_le_s (xi_le_s (xi_le_s (xi_le_n (xi_le_s (xi_le_n (xi_le_s (xi_le_s (xi_le_n (xi_le_s (xi_le_s (xi_le_n xi_le_z))))))))))))) (ih _ _ _ _ _ _ _ _ _ _ h)
      · replace h := (if_neg c21).symm.trans h
        refine xr_ifCond_eq_n i_X9_odds_109 c21 (q := 117) t_X9_odds_109 (q2 := 112) rfl ?_
        refine xr_iload_n i_X9_odds_112 rfl (q := 113) rfl ?_
        refine xr_i2l i_X9_odds_113 (q := 114) rfl ?_
        refine xr_goto i_X9_odds_114 (q := 122) t_X9_odds_114 ?_
        refine xr_lmul i_X9_odds_122 (q := 123) rfl ?_
        refine xr_lstore i_X9_odds_123 rfl (L2 := [some (.ref v0), some (.int v1), some (.int v2), some (.long v3), none, some (.long v5), none, some (.int v7), some (.long (v8 * (Int32.toInt64 v2))), none, some (.int v10), some (.int v11), none]) rfl (q := 125) rfl ?_
        refine xr_aload_n i_X9_odds_125 rfl (q := 126) rfl ?_
        refine xr_iload i_X9_odds_126 rfl (q := 128) rfl ?_
        refine xr_iload i_X9_odds_128 rfl (q := 130) rfl ?_
        refine xr_iload i_X9_odds_130 rfl (q := 132) rfl ?_
        refine xr_ishr i_X9_odds_132 (q := 133) rfl ?_
        refine xr_iconst i_X9_odds_133 (q := 134) rfl ?_
        refine xr_iand i_X9_odds_134 (q := 135) rfl ?_
        obtain ⟨x15, m14, em14, h⟩ := xi_bI_some h
        refine xr_VI i_X9_odds_135 xcve_X9_238 rfl (As := [.ref v0, .int v11, .int ((v7 >>> (v11 &&& 31)) &&& (Int32.ofInt 1))]) rfl (rest := []) rfl ((cc_X9_odds_238 S _ _ _ _).trans em14) (q := 138) rfl ?_
        refine xr_istore i_X9_odds_138 rfl (L2 := [some (.ref v0), some (.int v1), some (.int v2), some (.long v3), none, some (.long v5), none, some (.int v7), some (.long (v8 * (Int32.toInt64 v2))), none, some (.int v10), some (.int v11), some (.int x15)]) rfl (q := 140) rfl ?_
        refine xr_iload i_X9_odds_140 rfl (q := 142) rfl ?_
        refine xr_iload i_X9_odds_142 rfl (q := 144) rfl ?_
        by_cases c20 : x15 = 0
        · replace h := (if_pos c20).symm.trans h
          refine xr_ifCond_ne_p i_X9_odds_144 c20 (q := 151) t_X9_odds_144 (q2 := 147) rfl ?_
          refine xr_iconst i_X9_odds_147 (q := 148) rfl ?_
          refine xr_goto i_X9_odds_148 (q := 174) t_X9_odds_148 ?_
          refine xr_iadd i_X9_odds_174 (q := 175) rfl ?_
          refine xr_istore i_X9_odds_175 rfl (L2 := [some (.ref v0), some (.int v1), some (.int v2), some (.long v3), none, some (.long v5), none, some (.int v7), some (.long (v8 * (Int32.toInt64 v2))), none, some (.int (v10 + (Int32.ofInt 0))), some (.int v11), some (.int x15)]) rfl (q := 177) rfl ?_
          refine xr_iinc i_X9_odds_177 rfl rfl (L2 := [some (.ref v0), some (.int v1), some (.int v2), some (.long v3), none, some (.long v5), none, some (.int v7), some (.long (v8 * (Int32.toInt64 v2))), none, some (.int (v10 + (Int32.ofInt 0))), some (.int (v11 + Int32.ofInt 1)), some (.int x15)]) rfl (q := 180) rfl ?_
          refine xr_goto i_X9_odds_180 (q := 89) t_X9_odds_180 ?_
          exact xi_X_le (xi_le_s (xi_le_s (xi_le_s (xi_le_s (xi_le_n (xi_le_s (xi_le_n (xi_le_s (xi_le_s (xi_le_n (xi_le_s (xi_le_s (xi_le_n xi_le_z))))))))))))) (ih _ _ _ _ _ _ _ _ _ _ h)
        · replace h := (if_neg c20).symm.trans h
          refine xr_ifCond_ne_n i_X9_odds_144 c20 (q := 151) t_X9_odds_144 (q2 := 147) rfl ?_
          refine xr_aload_n i_X9_odds_151 rfl (q := 152) rfl ?_
          obtain ⟨c16, h⟩ := xi_if_some h
          obtain ⟨b17, eb17, h⟩ := xi_bind_some h
          refine xr_getR i_X9_odds_152 xfe_X9_25 c16 eb17 (q := 155) rfl ?_
          refine xr_bipush i_X9_odds_155 (q := 157) rfl ?_
          refine xr_iconst i_X9_odds_157 (q := 158) rfl ?_
          refine xr_iload i_X9_odds_158 rfl (q := 160) rfl ?_
          refine xr_imul i_X9_odds_160 (q := 161) rfl ?_
          refine xr_iadd i_X9_odds_161 (q := 162) rfl ?_
          refine xr_iconst i_X9_odds_162 (q := 163) rfl ?_
          refine xr_iadd i_X9_odds_163 (q := 164) rfl ?_
          obtain ⟨c18, h⟩ := xi_if_some h
          refine xr_iaload i_X9_odds_164 c18 (q := 165) rfl ?_
          refine xr_iload_n i_X9_odds_165 rfl (q := 166) rfl ?_
          by_cases c19 : (m14.1 b17 (Int32.toNatClampNeg ((((Int8.ofInt 10).toInt32) + ((Int32.ofInt 4) * v11)) + (Int32.ofInt 1)))) = v1
          · replace h := (if_pos c19).symm.trans h
            refine xr_if_icmp_ne_p i_X9_odds_166 c19 (q := 173) t_X9_odds_166 (q2 := 169) rfl ?_
            refine xr_iconst i_X9_odds_169 (q := 170) rfl ?_
            refine xr_goto i_X9_odds_170 (q := 174) t_X9_odds_170 ?_
            refine xr_iadd i_X9_odds_174 (q := 175) rfl ?_
            refine xr_istore i_X9_odds_175 rfl (L2 := [some (.ref v0), some (.int v1), some (.int v2), some (.long v3), none, some (.long v5), none, some (.int v7), some (.long (v8 * (Int32.toInt64 v2))), none, some (.int (v10 + (Int32.ofInt 1))), some (.int v11), some (.int x15)]) rfl (q := 177) rfl ?_
            refine xr_iinc i_X9_odds_177 rfl rfl (L2 := [some (.ref v0), some (.int v1), some (.int v2), some (.long v3), none, some (.long v5), none, some (.int v7), some (.long (v8 * (Int32.toInt64 v2))), none, some (.int (v10 + (Int32.ofInt 1))), some (.int (v11 + Int32.ofInt 1)), some (.int x15)]) rfl (q := 180) rfl ?_
            refine xr_goto i_X9_odds_180 (q := 89) t_X9_odds_180 ?_
            exact xi_X_le (xi_le_s (xi_le_s (xi_le_s (xi_le_s (xi_le_n (xi_le_s (xi_le_n (xi_le_s (xi_le_s (xi_le_n (xi_le_s (xi_le_s (xi_le_n xi_le_z))))))))))))) (ih _ _ _ _ _ _ _ _ _ _ h)
          · replace h := (if_neg c19).symm.trans h
            refine xr_if_icmp_ne_n i_X9_odds_166 c19 (q := 173) t_X9_odds_166 (q2 := 169) rfl ?_
            refine xr_iconst i_X9_odds_173 (q := 174) rfl ?_
            refine xr_iadd i_X9_odds_174 (q := 175) rfl ?_
            refine xr_istore i_X9_odds_175 rfl (L2 := [some (.ref v0), some (.int v1), some (.int v2), some (.long v3), none, some (.long v5), none, some (.int v7), some (.long (v8 * (Int32.toInt64 v2))), none, some (.int (v10 + (Int32.ofInt (-1)))), some (.int v11), some (.int x15)]) rfl (q := 177) rfl ?_
            refine xr_iinc i_X9_odds_177 rfl rfl (L2 := [some (.ref v0), some (.int v1), some (.int v2), some (.long v3), none, some (.long v5), none, some (.int v7), some (.long (v8 * (Int32.toInt64 v2))), none, some (.int (v10 + (Int32.ofInt (-1)))), some (.int (v11 + Int32.ofInt 1)), some (.int x15)]) rfl (q := 180) rfl ?_
            refine xr_goto i_X9_odds_180 (q := 89) t_X9_odds_180 ?_
            exact xi_X_le (xi_le_s (xi_le_s (xi_le_s (xi_le_s (xi_le_n (xi_le_s (xi_le_n (xi_le_s (xi_le_s (xi_le_n (xi_le_s (xi_le_s (xi_le_n xi_le_z))))))))))))) (ih _ _ _ _ _ _ _ _ _ _ h)
def G_X9_odds_67 (S : xi_S) : Nat → Nat → Int32 → Int32 → Int64 → Int64 → Int32 → xi_M → Option xi_R
  | 0, _, _, _, _, _, _, _ => none
  | n + 1, v0, v1, v2, v3, v5, v7, m =>
    if S.1 v0 = 11 then (S.2.2 v0 5).bind fun b2 =>
      if S.1 b2 = 0 ∧ ¬ ((Int32.ofInt 1) < 0 ∨ S.2.1 b2 ≤ Int32.toNatClampNeg (Int32.ofInt 1)) then
        if ((Int32.ofInt 1) <<< ((m.1 b2 (Int32.toNatClampNeg (Int32.ofInt 1))) &&& 31)) ≤ v7 then
          xi_bI (if S.1 v0 = 11 then E_X9_told S v0 v3 v5 m else none) fun x5 m4 =>
          some (some (.int x5), m4)
        else
          G_X9_odds_89 S (G_X9_odds_67 S n) 10000 v0 v1 v2 v3 v5 v7 (Int64.ofNat ((1 : Fin 2) : Nat)) (Int32.ofInt 0) (Int32.ofInt 0) m
      else none
    else none
set_option maxRecDepth 100000 in
set_option maxHeartbeats 4000000 in
theorem xs_X9_odds_67 {S : xi_S} {res : xi_R} : ∀ (n : Nat) (v0 : Nat) (v1 : Int32) (v2 : Int32) (v3 : Int64) (v5 : Int64) (v7 : Int32) (m : xi_M), G_X9_odds_67 S n v0 v1 v2 v3 v5 v7 m = some res → xi_X S (P_X9_odds S) (67, [some (.ref v0), some (.int v1), some (.int v2), some (.long v3), none, some (.long v5), none, some (.int v7), none, none, none, none, none], [], m) res := by
  intro n
  induction n with
  | zero => intro v0 v1 v2 v3 v5 v7 m h; exact xi_no h
  | succ n ih =>
    intro v0 v1 v2 v3 v5 v7 m h
    unfold G_X9_odds_67 at h
    refine xr_iload i_X9_odds_67 rfl (q := 69) rfl ?_
    refine xr_iconst i_X9_odds_69 (q := 70) rfl ?_
    refine xr_aload_n i_X9_odds_70 rfl (q := 71) rfl ?_
    obtain ⟨c1, h⟩ := xi_if_some h
    obtain ⟨b2, eb2, h⟩ := xi_bind_some h
    refine xr_getR i_X9_odds_71 xfe_X9_25 c1 eb2 (q := 74) rfl ?_
    refine xr_iconst i_X9_odds_74 (q := 75) rfl ?_
    obtain ⟨c3, h⟩ := xi_if_some h
    refine xr_iaload i_X9_odds_75 c3 (q := 76) rfl ?_
    refine xr_ishl i_X9_odds_76 (q := 77) rfl ?_
    by_cases c6 : ((Int32.ofInt 1) <<< ((m.1 b2 (Int32.toNatClampNeg (Int32.ofInt 1))) &&& 31)) ≤ v7
    · replace h := (if_pos c6).symm.trans h
      refine xr_if_icmp_ge_p i_X9_odds_77 c6 (q := 203) t_X9_odds_77 (q2 := 80) rfl ?_
      refine xr_aload_n i_X9_odds_203 rfl (q := 204) rfl ?_
      refine xr_lload_n i_X9_odds_204 rfl (q := 205) rfl ?_
      refine xr_lload i_X9_odds_205 rfl (q := 207) rfl ?_
      obtain ⟨x5, m4, em4, h⟩ := xi_bI_some h
      refine xr_VI i_X9_odds_207 xcve_X9_241 rfl (As := [.ref v0, .long v3, .long v5]) rfl (rest := []) rfl ((cc_X9_odds_241 S _ _ _ _).trans em4) (q := 210) rfl ?_
      exact xr_ireturn i_X9_odds_210 rfl h
    · replace h := (if_neg c6).symm.trans h
      refine xr_if_icmp_ge_n i_X9_odds_77 c6 (q := 203) t_X9_odds_77 (q2 := 80) rfl ?_
      refine xr_lconst i_X9_odds_80 (q := 81) rfl ?_
      refine xr_lstore i_X9_odds_81 rfl (L2 := [some (.ref v0), some (.int v1), some (.int v2), some (.long v3), none, some (.long v5), none, some (.int v7), some (.long (Int64.ofNat ((1 : Fin 2) : Nat))), none, none, none, none]) rfl (q := 83) rfl ?_
      refine xr_iconst i_X9_odds_83 (q := 84) rfl ?_
      refine xr_istore i_X9_odds_84 rfl (L2 := [some (.ref v0), some (.int v1), some (.int v2), some (.long v3), none, some (.long v5), none, some (.int v7), some (.long (Int64.ofNat ((1 : Fin 2) : Nat))), none, some (.int (Int32.ofInt 0)), none, none]) rfl (q := 86) rfl ?_
      refine xr_iconst i_X9_odds_86 (q := 87) rfl ?_
      refine xr_istore i_X9_odds_87 rfl (L2 := [some (.ref v0), some (.int v1), some (.int v2), some (.long v3), none, some (.long v5), none, some (.int v7), some (.long (Int64.ofNat ((1 : Fin 2) : Nat))), none, some (.int (Int32.ofInt 0)), some (.int (Int32.ofInt 0)), none]) rfl (q := 89) rfl ?_
      exact xi_X_le (xi_le_s (xi_le_s (xi_le_s (xi_le_s (xi_le_n (xi_le_s (xi_le_n (xi_le_s (xi_le_s (xi_le_n (xi_le_s (xi_le_s (xi_le_n xi_le_z))))))))))))) (xs_X9_odds_89 ih 10000 _ _ _ _ _ _ _ _ _ _ h)
def G_X9_odds_39 (S : xi_S) : Nat → Nat → Int32 → Int32 → Int64 → Int64 → Int32 → xi_M → Option xi_R
  | 0, _, _, _, _, _, _, _ => none
  | n + 1, v0, v1, v2, v3, v5, v7, m =>
    if S.1 v0 = 11 then (S.2.2 v0 5).bind fun b2 =>
      if S.1 b2 = 0 ∧ ¬ ((Int32.ofInt 1) < 0 ∨ S.2.1 b2 ≤ Int32.toNatClampNeg (Int32.ofInt 1)) then
        if (m.1 b2 (Int32.toNatClampNeg (Int32.ofInt 1))) ≤ v7 then
          G_X9_odds_67 S 10000 v0 v1 v2 v3 v5 (Int32.ofInt 0) m
        else
          G_X9_odds_39 S n v0 v1 v2 v3 (v5 * (12 : Int64)) (v7 + Int32.ofInt 1) m
      else none
    else none
set_option maxRecDepth 100000 in
set_option maxHeartbeats 4000000 in
theorem xs_X9_odds_39 {S : xi_S} {res : xi_R} : ∀ (n : Nat) (v0 : Nat) (v1 : Int32) (v2 : Int32) (v3 : Int64) (v5 : Int64) (v7 : Int32) (m : xi_M), G_X9_odds_39 S n v0 v1 v2 v3 v5 v7 m = some res → xi_X S (P_X9_odds S) (39, [some (.ref v0), some (.int v1), some (.int v2), some (.long v3), none, some (.long v5), none, some (.int v7), none, none, none, none, none], [], m) res := by
  intro n
  induction n with
  | zero => intro v0 v1 v2 v3 v5 v7 m h; exact xi_no h
  | succ n ih =>
    intro v0 v1 v2 v3 v5 v7 m h
    unfold G_X9_odds_39 at h
    refine xr_iload i_X9_odds_39 rfl (q := 41) rfl ?_
    refine xr_aload_n i_X9_odds_41 rfl (q := 42) rfl ?_
    obtain ⟨c1, h⟩ := xi_if_some h
    obtain ⟨b2, eb2, h⟩ := xi_bind_some h
    refine xr_getR i_X9_odds_42 xfe_X9_25 c1 eb2 (q := 45) rfl ?_
    refine xr_iconst i_X9_odds_45 (q := 46) rfl ?_
    obtain ⟨c3, h⟩ := xi_if_some h
    refine xr_iaload i_X9_odds_46 c3 (q := 47) rfl ?_
    by_cases c4 : (m.1 b2 (Int32.toNatClampNeg (Int32.ofInt 1))) ≤ v7
    · replace h := (if_pos c4).symm.trans h
      refine xr_if_icmp_ge_p i_X9_odds_47 c4 (q := 64) t_X9_odds_47 (q2 := 50) rfl ?_
      refine xr_iconst i_X9_odds_64 (q := 65) rfl ?_
      refine xr_istore i_X9_odds_65 rfl (L2 := [some (.ref v0), some (.int v1), some (.int v2), some (.long v3), none, some (.long v5), none, some (.int (Int32.ofInt 0)), none, none, none, none, none]) rfl (q := 67) rfl ?_
      exact xi_X_le (xi_le_s (xi_le_s (xi_le_s (xi_le_s (xi_le_n (xi_le_s (xi_le_n (xi_le_s (xi_le_n (xi_le_n (xi_le_n (xi_le_n (xi_le_n xi_le_z))))))))))))) (xs_X9_odds_67 10000 _ _ _ _ _ _ _ h)
    · replace h := (if_neg c4).symm.trans h
      refine xr_if_icmp_ge_n i_X9_odds_47 c4 (q := 64) t_X9_odds_47 (q2 := 50) rfl ?_
      refine xr_lload i_X9_odds_50 rfl (q := 52) rfl ?_
      refine xr_ldc2_w i_X9_odds_52 xkle_X9_236 (q := 55) rfl ?_
      refine xr_lmul i_X9_odds_55 (q := 56) rfl ?_
      refine xr_lstore i_X9_odds_56 rfl (L2 := [some (.ref v0), some (.int v1), some (.int v2), some (.long v3), none, some (.long (v5 * (12 : Int64))), none, some (.int v7), none, none, none, none, none]) rfl (q := 58) rfl ?_
      refine xr_iinc i_X9_odds_58 rfl rfl (L2 := [some (.ref v0), some (.int v1), some (.int v2), some (.long v3), none, some (.long (v5 * (12 : Int64))), none, some (.int (v7 + Int32.ofInt 1)), none, none, none, none, none]) rfl (q := 61) rfl ?_
      refine xr_goto i_X9_odds_61 (q := 39) t_X9_odds_61 ?_
      exact xi_X_le (xi_le_s (xi_le_s (xi_le_s (xi_le_s (xi_le_n (xi_le_s (xi_le_n (xi_le_s (xi_le_n (xi_le_n (xi_le_n (xi_le_n (xi_le_n xi_le_z))))))))))))) (ih _ _ _ _ _ _ _ h)
def E_X9_odds (S : xi_S) (v0 : Nat) (v1 : Int32) (v2 : Int32) (m : xi_M) : Option xi_R :=
  xi_bI (E_X9_in0 S v1 (Int32.ofInt 0) (Int32.ofInt 1) m) fun x2 m1 =>
  if x2 = 0 then
    some (some (.int (Int32.ofInt (-1))), m1)
  else
    xi_bI (E_X9_in0 S v2 (Int32.ofInt 0) ((Int8.ofInt 12).toInt32) m1) fun x4 m3 =>
    if x4 = 0 then
      some (some (.int (Int32.ofInt (-1))), m3)
    else
      xi_bI (if S.1 v0 = 11 then E_X9_isAny S v0 m3 else none) fun x6 m5 =>
      if x6 = 0 then
        some (some (.int ((Int8.ofInt (-4)).toInt32)), m5)
      else
        G_X9_odds_39 S 10000 v0 v1 v2 (Int64.ofNat ((0 : Fin 2) : Nat)) (Int64.ofNat ((1 : Fin 2) : Nat)) (Int32.ofInt 0) m5
def F_X9_odds (S : xi_S) : xi_F := fun As m => match As with
  | [.ref v0, .int v1, .int v2] => E_X9_odds S v0 v1 v2 m
  | _ => none
set_option maxRecDepth 100000 in
set_option maxHeartbeats 4000000 in
theorem xe_X9_odds {S : xi_S} {res : xi_R} (v0 : Nat) (v1 : Int32) (v2 : Int32) (m : xi_M) (h : E_X9_odds S v0 v1 v2 m = some res) : xi_X S (P_X9_odds S) (0, [some (.ref v0), some (.int v1), some (.int v2), none, none, none, none, none, none, none, none, none, none], [], m) res := by
  unfold E_X9_odds at h
  refine xr_iload_n i_X9_odds_0 rfl (q := 1) rfl ?_
  refine xr_iconst i_X9_odds_1 (q := 2) rfl ?_
  refine xr_iconst i_X9_odds_2 (q := 3) rfl ?_
  obtain ⟨x2, m1, em1, h⟩ := xi_bI_some h
  refine xr_SI i_X9_odds_3 xcse_X9_63 rfl (As := [.int v1, .int (Int32.ofInt 0), .int (Int32.ofInt 1)]) rfl (rest := []) rfl ((cc_X9_odds_63 S _ _ _ _).trans em1) (q := 6) rfl ?_
  by_cases c9 : x2 = 0
  · replace h := (if_pos c9).symm.trans h
    refine xr_ifCond_eq_p i_X9_odds_6 c9 (q := 19) t_X9_odds_6 (q2 := 9) rfl ?_
    refine xr_iconst i_X9_odds_19 (q := 20) rfl ?_
    exact xr_ireturn i_X9_odds_20 rfl h
  · replace h := (if_neg c9).symm.trans h
    refine xr_ifCond_eq_n i_X9_odds_6 c9 (q := 19) t_X9_odds_6 (q2 := 9) rfl ?_
    refine xr_iload_n i_X9_odds_9 rfl (q := 10) rfl ?_
    refine xr_iconst i_X9_odds_10 (q := 11) rfl ?_
    refine xr_bipush i_X9_odds_11 (q := 13) rfl ?_
    obtain ⟨x4, m3, em3, h⟩ := xi_bI_some h
    refine xr_SI i_X9_odds_13 xcse_X9_63 rfl (As := [.int v2, .int (Int32.ofInt 0), .int ((Int8.ofInt 12).toInt32)]) rfl (rest := []) rfl ((cc_X9_odds_63 S _ _ _ _).trans em3) (q := 16) rfl ?_
    by_cases c8 : x4 = 0
    · replace h := (if_pos c8).symm.trans h
      refine xr_ifCond_ne_p i_X9_odds_16 c8 (q := 21) t_X9_odds_16 (q2 := 19) rfl ?_
      refine xr_iconst i_X9_odds_19 (q := 20) rfl ?_
      exact xr_ireturn i_X9_odds_20 rfl h
    · replace h := (if_neg c8).symm.trans h
      refine xr_ifCond_ne_n i_X9_odds_16 c8 (q := 21) t_X9_odds_16 (q2 := 19) rfl ?_
      refine xr_aload_n i_X9_odds_21 rfl (q := 22) rfl ?_
      obtain ⟨x6, m5, em5, h⟩ := xi_bI_some h
      refine xr_VI i_X9_odds_22 xcve_X9_183 rfl (As := [.ref v0]) rfl (rest := []) rfl ((cc_X9_odds_183 S _ _).trans em5) (q := 25) rfl ?_
      by_cases c7 : x6 = 0
      · replace h := (if_pos c7).symm.trans h
        refine xr_ifCond_ne_p i_X9_odds_25 c7 (q := 31) t_X9_odds_25 (q2 := 28) rfl ?_
        refine xr_bipush i_X9_odds_28 (q := 30) rfl ?_
        exact xr_ireturn i_X9_odds_30 rfl h
      · replace h := (if_neg c7).symm.trans h
        refine xr_ifCond_ne_n i_X9_odds_25 c7 (q := 31) t_X9_odds_25 (q2 := 28) rfl ?_
        refine xr_lconst i_X9_odds_31 (q := 32) rfl ?_
        refine xr_lstore_n i_X9_odds_32 rfl (L2 := [some (.ref v0), some (.int v1), some (.int v2), some (.long (Int64.ofNat ((0 : Fin 2) : Nat))), none, none, none, none, none, none, none, none, none]) rfl (q := 33) rfl ?_
        refine xr_lconst i_X9_odds_33 (q := 34) rfl ?_
        refine xr_lstore i_X9_odds_34 rfl (L2 := [some (.ref v0), some (.int v1), some (.int v2), some (.long (Int64.ofNat ((0 : Fin 2) : Nat))), none, some (.long (Int64.ofNat ((1 : Fin 2) : Nat))), none, none, none, none, none, none, none]) rfl (q := 36) rfl ?_
        refine xr_iconst i_X9_odds_36 (q := 37) rfl ?_
        refine xr_istore i_X9_odds_37 rfl (L2 := [some (.ref v0), some (.int v1), some (.int v2), some (.long (Int64.ofNat ((0 : Fin 2) : Nat))), none, some (.long (Int64.ofNat ((1 : Fin 2) : Nat))), none, some (.int (Int32.ofInt 0)), none, none, none, none, none]) rfl (q := 39) rfl ?_
        exact xi_X_le (xi_le_s (xi_le_s (xi_le_s (xi_le_s (xi_le_n (xi_le_s (xi_le_n (xi_le_s (xi_le_n (xi_le_n (xi_le_n (xi_le_n (xi_le_n xi_le_z))))))))))))) (xs_X9_odds_39 10000 _ _ _ _ _ _ _ h)
set_option maxRecDepth 100000 in
theorem po_X9_odds {l : Launch} {E : xi_E} {S : xi_S} {D : va_G} {tys : List (ClassId × FieldType)} (hC : xCx E S tys) : xi_Pok l E S D vwCl tys xNs RX9 xTs cX9_odds 13 6 (P_X9_odds S) := ⟨xi_dc_ok, by rw [hC.2]; exact xfo_X9, xkio_X9, xklo_X9, xi_calls_ok (ins := .invokestatic) (List.forall_mem_cons.mpr ⟨(xc_X9_63 (sn_X9_in0 hC) (by decide)), List.forall_mem_cons.mpr ⟨(xc_X9_221 (sn_X9_has hC) (by decide)), fun _ h => absurd h List.not_mem_nil⟩⟩), xi_calls_ok (ins := .invokevirtual) (List.forall_mem_cons.mpr ⟨(xc_X9_183 hC.1 (sn_X9_isAny hC) (by decide)), List.forall_mem_cons.mpr ⟨(xc_X9_238 hC.1 (sn_X9_isInBy hC) (by decide)), List.forall_mem_cons.mpr ⟨(xc_X9_241 hC.1 (sn_X9_told hC) (by decide)), fun _ h => absurd h List.not_mem_nil⟩⟩⟩)⟩
theorem sn_X9_odds {l : Launch} {E : xi_E} {S : xi_S} {D : va_G} {tys : List (ClassId × FieldType)} (hC : xCx E S tys) : ∀ As m1 r m2, F_X9_odds S As m1 = some (r, m2) → xi_Sound l E S D vwCl tys xNs xTs yX9_odds cX9_odds 13 (some .int) 6 As m1 r m2 := by
  intro As m1 r m2 h
  unfold F_X9_odds at h
  split at h
  · exact xi_meth (P := P_X9_odds S) (by decide) hC.1 (po_X9_odds hC) (Nat.le_of_ble_eq_true rfl) rfl (xe_X9_odds _ _ _ _ h)
  · exact xi_no h
