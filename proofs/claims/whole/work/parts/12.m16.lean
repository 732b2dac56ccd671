theorem i_X9_mid_0 : xi_dc cX9_mid 0 = some (.iload_n 1, 1) := by decide +kernel
theorem i_X9_mid_1 : xi_dc cX9_mid 1 = some (.iconst 0, 1) := by decide +kernel
theorem i_X9_mid_2 : xi_dc cX9_mid 2 = some (.bipush 12, 2) := by decide +kernel
theorem i_X9_mid_4 : xi_dc cX9_mid 4 = some (.invokestatic 63, 3) := by decide +kernel
theorem i_X9_mid_7 : xi_dc cX9_mid 7 = some (.ifCond .ne 5, 3) := by decide +kernel
theorem t_X9_mid_7 : ((7 : Nat) : Int) + 5 = ((12 : Nat) : Int) := by decide +kernel
theorem i_X9_mid_10 : xi_dc cX9_mid 10 = some (.iconst (-1), 1) := by decide +kernel
theorem i_X9_mid_11 : xi_dc cX9_mid 11 = some (.ireturn, 1) := by decide +kernel
theorem i_X9_mid_12 : xi_dc cX9_mid 12 = some (.aload_n 0, 1) := by decide +kernel
theorem i_X9_mid_13 : xi_dc cX9_mid 13 = some (.invokevirtual 183, 3) := by decide +kernel
theorem i_X9_mid_16 : xi_dc cX9_mid 16 = some (.ifCond .ne 6, 3) := by decide +kernel
theorem t_X9_mid_16 : ((16 : Nat) : Int) + 6 = ((22 : Nat) : Int) := by decide +kernel
theorem i_X9_mid_19 : xi_dc cX9_mid 19 = some (.bipush (-4), 2) := by decide +kernel
theorem i_X9_mid_21 : xi_dc cX9_mid 21 = some (.ireturn, 1) := by decide +kernel
theorem i_X9_mid_22 : xi_dc cX9_mid 22 = some (.lconst 0, 1) := by decide +kernel
theorem i_X9_mid_23 : xi_dc cX9_mid 23 = some (.lstore_n 2, 1) := by decide +kernel
theorem i_X9_mid_24 : xi_dc cX9_mid 24 = some (.iconst 0, 1) := by decide +kernel
theorem i_X9_mid_25 : xi_dc cX9_mid 25 = some (.istore 4, 2) := by decide +kernel
theorem i_X9_mid_27 : xi_dc cX9_mid 27 = some (.iload 4, 2) := by decide +kernel
theorem i_X9_mid_29 : xi_dc cX9_mid 29 = some (.aload_n 0, 1) := by decide +kernel
theorem i_X9_mid_30 : xi_dc cX9_mid 30 = some (.getfield 25, 3) := by decide +kernel
theorem i_X9_mid_33 : xi_dc cX9_mid 33 = some (.iconst 1, 1) := by decide +kernel
theorem i_X9_mid_34 : xi_dc cX9_mid 34 = some (.iaload, 1) := by decide +kernel
theorem i_X9_mid_35 : xi_dc cX9_mid 35 = some (.if_icmp .ge 47, 3) := by decide +kernel
theorem t_X9_mid_35 : ((35 : Nat) : Int) + 47 = ((82 : Nat) : Int) := by decide +kernel
theorem i_X9_mid_38 : xi_dc cX9_mid 38 = some (.lload_n 2, 1) := by decide +kernel
theorem i_X9_mid_39 : xi_dc cX9_mid 39 = some (.aload_n 0, 1) := by decide +kernel
theorem i_X9_mid_40 : xi_dc cX9_mid 40 = some (.iload 4, 2) := by decide +kernel
theorem i_X9_mid_42 : xi_dc cX9_mid 42 = some (.iconst 1, 1) := by decide +kernel
theorem i_X9_mid_43 : xi_dc cX9_mid 43 = some (.invokevirtual 238, 3) := by decide +kernel
theorem i_X9_mid_46 : xi_dc cX9_mid 46 = some (.ifCond .eq 7, 3) := by decide +kernel
theorem t_X9_mid_46 : ((46 : Nat) : Int) + 7 = ((53 : Nat) : Int) := by decide +kernel
theorem i_X9_mid_49 : xi_dc cX9_mid 49 = some (.iload_n 1, 1) := by decide +kernel
theorem i_X9_mid_50 : xi_dc cX9_mid 50 = some (.goto 4, 3) := by decide +kernel
theorem t_X9_mid_50 : ((50 : Nat) : Int) + 4 = ((54 : Nat) : Int) := by decide +kernel
theorem i_X9_mid_53 : xi_dc cX9_mid 53 = some (.iconst 0, 1) := by decide +kernel
theorem i_X9_mid_54 : xi_dc cX9_mid 54 = some (.aload_n 0, 1) := by decide +kernel
theorem i_X9_mid_55 : xi_dc cX9_mid 55 = some (.iload 4, 2) := by decide +kernel
theorem i_X9_mid_57 : xi_dc cX9_mid 57 = some (.iconst 0, 1) := by decide +kernel
theorem i_X9_mid_58 : xi_dc cX9_mid 58 = some (.invokevirtual 238, 3) := by decide +kernel
theorem i_X9_mid_61 : xi_dc cX9_mid 61 = some (.ifCond .eq 10, 3) := by decide +kernel
theorem t_X9_mid_61 : ((61 : Nat) : Int) + 10 = ((71 : Nat) : Int) := by decide +kernel
theorem i_X9_mid_64 : xi_dc cX9_mid 64 = some (.bipush 12, 2) := by decide +kernel
theorem i_X9_mid_66 : xi_dc cX9_mid 66 = some (.iload_n 1, 1) := by decide +kernel
theorem i_X9_mid_67 : xi_dc cX9_mid 67 = some (.isub, 1) := by decide +kernel
theorem i_X9_mid_68 : xi_dc cX9_mid 68 = some (.goto 4, 3) := by decide +kernel
theorem t_X9_mid_68 : ((68 : Nat) : Int) + 4 = ((72 : Nat) : Int) := by decide +kernel
theorem i_X9_mid_71 : xi_dc cX9_mid 71 = some (.iconst 0, 1) := by decide +kernel
theorem i_X9_mid_72 : xi_dc cX9_mid 72 = some (.iadd, 1) := by decide +kernel
theorem i_X9_mid_73 : xi_dc cX9_mid 73 = some (.i2l, 1) := by decide +kernel
theorem i_X9_mid_74 : xi_dc cX9_mid 74 = some (.ladd, 1) := by decide +kernel
theorem i_X9_mid_75 : xi_dc cX9_mid 75 = some (.lstore_n 2, 1) := by decide +kernel
theorem i_X9_mid_76 : xi_dc cX9_mid 76 = some (.iinc 4 1, 3) := by decide +kernel
theorem i_X9_mid_79 : xi_dc cX9_mid 79 = some (.goto (-52), 3) := by decide +kernel
theorem t_X9_mid_79 : ((79 : Nat) : Int) + (-52) = ((27 : Nat) : Int) := by decide +kernel
theorem i_X9_mid_82 : xi_dc cX9_mid 82 = some (.aload_n 0, 1) := by decide +kernel
theorem i_X9_mid_83 : xi_dc cX9_mid 83 = some (.lload_n 2, 1) := by decide +kernel
theorem i_X9_mid_84 : xi_dc cX9_mid 84 = some (.ldc2_w 236, 3) := by decide +kernel
theorem i_X9_mid_87 : xi_dc cX9_mid 87 = some (.invokevirtual 241, 3) := by decide +kernel
theorem i_X9_mid_90 : xi_dc cX9_mid 90 = some (.ireturn, 1) := by decide +kernel
def P_X9_mid (S : xi_S) : xi_P := (xi_dc cX9_mid, xi_tab xfl_X9, xi_tab xki_X9, xi_tab xkl_X9, xi_tab xcs_X9, xi_tab xcv_X9, xi_calls [(63, xi_wS 3 (F_X9_in0 S))], xi_calls [(183, xi_wV S 11 0 (F_X9_isAny S)), (238, xi_wV S 11 2 (F_X9_isInBy S)), (241, xi_wV S 11 2 (F_X9_told S))], 1)
theorem cc_X9_mid_63 (S : xi_S) (a0 : Int32) (a1 : Int32) (a2 : Int32) (m : xi_M) : (P_X9_mid S).2.2.2.2.2.2.1 63 [.int a0, .int a1, .int a2] m = (E_X9_in0 S a0 a1 a2 m) := by
  show xi_calls [(63, xi_wS 3 (F_X9_in0 S))] 63 [.int a0, .int a1, .int a2] m = _
  refine Eq.trans (b := xi_wS 3 (F_X9_in0 S) [.int a0, .int a1, .int a2] m) (xi_calls_hit rfl) ?_
  exact xi_wS_eq rfl
theorem cc_X9_mid_183 (S : xi_S) (a0 : Nat) (m : xi_M) : (P_X9_mid S).2.2.2.2.2.2.2.1 183 [.ref a0] m = (if S.1 a0 = 11 then E_X9_isAny S a0 m else none) := by
  show xi_calls [(183, xi_wV S 11 0 (F_X9_isAny S)), (238, xi_wV S 11 2 (F_X9_isInBy S)), (241, xi_wV S 11 2 (F_X9_told S))] 183 [.ref a0] m = _
  refine Eq.trans (b := xi_wV S 11 0 (F_X9_isAny S) [.ref a0] m) (xi_calls_hit rfl) ?_
  exact xi_wV_eq rfl
theorem cc_X9_mid_238 (S : xi_S) (a0 : Nat) (a1 : Int32) (a2 : Int32) (m : xi_M) : (P_X9_mid S).2.2.2.2.2.2.2.1 238 [.ref a0, .int a1, .int a2] m = (if S.1 a0 = 11 then E_X9_isInBy S a0 a1 a2 m else none) := by
  show xi_calls [(183, xi_wV S 11 0 (F_X9_isAny S)), (238, xi_wV S 11 2 (F_X9_isInBy S)), (241, xi_wV S 11 2 (F_X9_told S))] 238 [.ref a0, .int a1, .int a2] m = _
  refine Eq.trans (b := xi_calls [(238, xi_wV S 11 2 (F_X9_isInBy S)), (241, xi_wV S 11 2 (F_X9_told S))] 238 [.ref a0, .int a1, .int a2] m) (xi_calls_miss rfl) ?_
  refine Eq.trans (b := xi_wV S 11 2 (F_X9_isInBy S) [.ref a0, .int a1, .int a2] m) (xi_calls_hit rfl) ?_
  exact xi_wV_eq rfl
theorem cc_X9_mid_241 (S : xi_S) (a0 : Nat) (a1 : Int64) (a2 : Int64) (m : xi_M) : (P_X9_mid S).2.2.2.2.2.2.2.1 241 [.ref a0, .long a1, .long a2] m = (if S.1 a0 = 11 then E_X9_told S a0 a1 a2 m else none) := by
  show xi_calls [(183, xi_wV S 11 0 (F_X9_isAny S)), (238, xi_wV S 11 2 (F_X9_isInBy S)), (241, xi_wV S 11 2 (F_X9_told S))] 241 [.ref a0, .long a1, .long a2] m = _
  refine Eq.trans (b := xi_calls [(238, xi_wV S 11 2 (F_X9_isInBy S)), (241, xi_wV S 11 2 (F_X9_told S))] 241 [.ref a0, .long a1, .long a2] m) (xi_calls_miss rfl) ?_
  refine Eq.trans (b := xi_calls [(241, xi_wV S 11 2 (F_X9_told S))] 241 [.ref a0, .long a1, .long a2] m) (xi_calls_miss rfl) ?_
  refine Eq.trans (b := xi_wV S 11 2 (F_X9_told S) [.ref a0, .long a1, .long a2] m) (xi_calls_hit rfl) ?_
  exact xi_wV_eq rfl
def G_X9_mid_27 (S : xi_S) : Nat → Nat → Int32 → Int64 → Int32 → xi_M → Option xi_R
  | 0, _, _, _, _, _ => none
  | n + 1, v0, v1, v2, v4, m =>
    if S.1 v0 = 11 then (S.2.2 v0 5).bind fun b2 =>
      if S.1 b2 = 0 ∧ ¬ ((Int32.ofInt 1) < 0 ∨ S.2.1 b2 ≤ Int32.toNatClampNeg (Int32.ofInt 1)) then
        if (m.1 b2 (Int32.toNatClampNeg (Int32.ofInt 1))) ≤ v4 then
          xi_bI (if S.1 v0 = 11 then E_X9_told S v0 v2 (12 : Int64) m else none) fun x5 m4 =>
          some (some (.int x5), m4)
        else
          xi_bI (if S.1 v0 = 11 then E_X9_isInBy S v0 v4 (Int32.ofInt 1) m else none) fun x7 m6 =>
          if x7 = 0 then
            xi_bI (if S.1 v0 = 11 then E_X9_isInBy S v0 v4 (Int32.ofInt 0) m6 else none) fun x9 m8 =>
            if x9 = 0 then
              G_X9_mid_27 S n v0 v1 (v2 + (Int32.toInt64 ((Int32.ofInt 0) + (Int32.ofInt 0)))) (v4 + Int32.ofInt 1) m8
            else
              G_X9_mid_27 S n v0 v1 (v2 + (Int32.toInt64 ((Int32.ofInt 0) + (((Int8.ofInt 12).toInt32) - v1)))) (v4 + Int32.ofInt 1) m8
          else
            xi_bI (if S.1 v0 = 11 then E_X9_isInBy S v0 v4 (Int32.ofInt 0) m6 else none) fun x12 m11 =>
            if x12 = 0 then
              G_X9_mid_27 S n v0 v1 (v2 + (Int32.toInt64 (v1 + (Int32.ofInt 0)))) (v4 + Int32.ofInt 1) m11
            else
              G_X9_mid_27 S n v0 v1 (v2 + (Int32.toInt64 (v1 + (((Int8.ofInt 12).toInt32) - v1)))) (v4 + Int32.ofInt 1) m11
      else none
    else none
set_option maxRecDepth 100000 in
set_option maxHeartbeats 4000000 in
theorem xs_X9_mid_27 {S : xi_S} {res : xi_R} : ∀ (n : Nat) (v0 : Nat) (v1 : Int32) (v2 : Int64) (v4 : Int32) (m : xi_M), G_X9_mid_27 S n v0 v1 v2 v4 m = some res → xi_X S (P_X9_mid S) (27, [some (.ref v0), some (.int v1), some (.long v2), none, some (.int v4)], [], m) res := by
  intro n
  induction n with
  | zero => intro v0 v1 v2 v4 m h; exact xi_no h
  | succ n ih =>
    intro v0 v1 v2 v4 m h
    unfold G_X9_mid_27 at h
    refine xr_iload i_X9_mid_27 rfl (q := 29) rfl ?_
    refine xr_aload_n i_X9_mid_29 rfl (q := 30) rfl ?_
    obtain ⟨c1, h⟩ := xi_if_some h
    obtain ⟨b2, eb2, h⟩ := xi_bind_some h
    refine xr_getR i_X9_mid_30 xfe_X9_25 c1 eb2 (q := 33) rfl ?_
    refine xr_iconst i_X9_mid_33 (q := 34) rfl ?_
    obtain ⟨c3, h⟩ := xi_if_some h
    refine xr_iaload i_X9_mid_34 c3 (q := 35) rfl ?_
    by_cases c15 : (m.1 b2 (Int32.toNatClampNeg (Int32.ofInt 1))) ≤ v4
    · replace h := (if_pos c15).symm.trans h
      refine xr_if_icmp_ge_p i_X9_mid_35 c15 (q := 82) t_X9_mid_35 (q2 := 38) rfl ?_
      refine xr_aload_n i_X9_mid_82 rfl (q := 83) rfl ?_
      refine xr_lload_n i_X9_mid_83 rfl (q := 84) rfl ?_
      refine xr_ldc2_w i_X9_mid_84 xkle_X9_236 (q := 87) rfl ?_
      obtain ⟨x5, m4, em4, h⟩ := xi_bI_some h
      refine xr_VI i_X9_mid_87 xcve_X9_241 rfl (As := [.ref v0, .long v2, .long (12 : Int64)]) rfl (rest := []) rfl ((cc_X9_mid_241 S _ _ _ _).trans em4) (q := 90) rfl ?_
      exact xr_ireturn i_X9_mid_90 rfl h
    · replace h := (if_neg c15).symm.trans h
      refine xr_if_icmp_ge_n i_X9_mid_35 c15 (q := 82) t_X9_mid_35 (q2 := 38) rfl ?_
      refine xr_lload_n i_X9_mid_38 rfl (q := 39) rfl ?_
      refine xr_aload_n i_X9_mid_39 rfl (q := 40) rfl ?_
      refine xr_iload i_X9_mid_40 rfl (q := 42) rfl ?_
      refine xr_iconst i_X9_mid_42 (q := 43) rfl ?_
      obtain ⟨x7, m6, em6, h⟩ := xi_bI_some h
      refine xr_VI i_X9_mid_43 xcve_X9_238 rfl (As := [.ref v0, .int v4, .int (Int32.ofInt 1)]) rfl (rest := [.long v2]) rfl ((cc_X9_mid_238 S _ _ _ _).trans em6) (q := 46) rfl ?_
      by_cases c14 : x7 = 0
      · replace h := (if_pos c14).symm.trans h
        refine xr_ifCond_eq_p i_X9_mid_46 c14 (q := 53) t_X9_mid_46 (q2 := 49) rfl ?_
        refine xr_iconst i_X9_mid_53 (q := 54) rfl ?_
        refine xr_aload_n i_X9_mid_54 rfl (q := 55) rfl ?_
        refine xr_iload i_X9_mid_55 rfl (q := 57) rfl ?_
        refine xr_iconst i_X9_mid_57 (q := 58) rfl ?_
        obtain ⟨x9, m8, em8, h⟩ := xi_bI_some h
        refine xr_VI i_X9_mid_58 xcve_X9_238 rfl (As := [.ref v0, .int v4, .int (Int32.ofInt 0)]) rfl (rest := [.int (Int32.ofInt 0), .long v2]) rfl ((cc_X9_mid_238 S _ _ _ _).trans em8) (q := 61) rfl ?_
        by_cases c10 : x9 = 0
        · replace h := (if_pos c10).symm.trans h
          refine xr_ifCond_eq_p i_X9_mid_61 c10 (q := 71) t_X9_mid_61 (q2 := 64) rfl ?_
          refine xr_iconst i_X9_mid_71 (q := 72) rfl ?_
          refine xr_iadd i_X9_mid_72 (q := 73) rfl ?_
          refine xr_i2l i_X9_mid_73 (q := 74) rfl ?_
          refine xr_ladd i_X9_mid_74 (q := 75) rfl ?_
          refine xr_lstore_n i_X9_mid_75 rfl (L2 := [some (.ref v0), some (.int v1), some (.long (v2 + (Int32.toInt64 ((Int32.ofInt 0) + (Int32.ofInt 0))))), none, some (.int v4)]) rfl (q := 76) rfl ?_
          refine xr_iinc i_X9_mid_76 rfl rfl (L2 := [some (.ref v0), some (.int v1), some (.long (v2 + (Int32.toInt64 ((Int32.ofInt 0) + (Int32.ofInt 0))))), none, some (.int (v4 + Int32.ofInt 1))]) rfl (q := 79) rfl ?_
          refine xr_goto i_X9_mid_79 (q := 27) t_X9_mid_79 ?_
          exact xi_X_le (xi_le_s (xi_le_s (xi_le_s (xi_le_n (xi_le_s xi_le_z))))) (ih _ _ _ _ _ h)
        · replace h := (if_neg c10).symm.trans h
          refine xr_ifCond_eq_n i_X9_mid_61 c10 (q := 71) t_X9_mid_61 (q2 := 64) rfl ?_
          refine xr_bipush i_X9_mid_64 (q := 66) rfl ?_
          refine xr_iload_n i_X9_mid_66 rfl (q := 67) rfl ?_
          refine xr_isub i_X9_mid_67 (q := 68) rfl ?_
          refine xr_goto i_X9_mid_68 (q := 72) t_X9_mid_68 ?_
          refine xr_iadd i_X9_mid_72 (q := 73) rfl ?_
          refine xr_i2l i_X9_mid_73 (q := 74) rfl ?_
          refine xr_ladd i_X9_mid_74 (q := 75) rfl ?_
          refine xr_lstore_n i_X9_mid_75 rfl (L2 := [some (.ref v0), some (.int v1), some (.long (v2 + (Int32.toInt64 ((Int32.ofInt 0) + (((Int8.ofInt 12).toInt32) - v1))))), none, some (.int v4)]) rfl (q := 76) rfl ?_
          refine xr_iinc i_X9_mid_76 rfl rfl (L2 := [some (.ref v0), some (.int v1), some (.long (v2 + (Int32.toInt64 ((Int32.ofInt 0) + (((Int8.ofInt 12).toInt32) - v1))))), none, some (.int (v4 + Int32.ofInt 1))]) rfl (q := 79) rfl ?_
          refine xr_goto i_X9_mid_79 (q := 27) t_X9_mid_79 ?_
          exact xi_X_le (xi_le_s (xi_le_s (xi_le_s (xi_le_n (xi_le_s xi_le_z))))) (ih _ _ _ _ _ h)
      · replace h := (if_neg c14).symm.trans h
        refine xr_ifCond_eq_n i_X9_mid_46 c14 (q := 53) t_X9_mid_46 (q2 := 49) rfl ?_
        refine xr_iload_n i_X9_mid_49 rfl (q := 50) rfl ?_
        refine xr_goto i_X9_mid_50 (q := 54) t_X9_mid_50 ?_
        refine xr_aload_n i_X9_mid_54 rfl (q := 55) rfl ?_
        refine xr_iload i_X9_mid_55 rfl (q := 57) rfl ?_
        refine xr_iconst i_X9_mid_57 (q := 58) rfl ?_
        obtain ⟨x12, m11, em11, h⟩ := xi_bI_some h
        refine xr_VI i_X9_mid_58 xcve_X9_238 rfl (As := [.ref v0, .int v4, .int (Int32.ofInt 0)]) rfl (rest := [.int v1, .long v2]) rfl ((cc_X9_mid_238 S _ _ _ _).trans em11) (q := 61) rfl ?_
        by_cases c13 : x12 = 0
        · replace h := (if_pos c13).symm.trans h
          refine xr_ifCond_eq_p i_X9_mid_61 c13 (q := 71) t_X9_mid_61 (q2 := 64) rfl ?_
          refine xr_iconst i_X9_mid_71 (q := 72) rfl ?_
          refine xr_iadd i_X9_mid_72 (q := 73) rfl ?_
          refine xr_i2l i_X9_mid_73 (q := 74) rfl ?_
          refine xr_ladd i_X9_mid_74 (q := 75) rfl ?_
          refine xr_lstore_n i_X9_mid_75 rfl (L2 := [some (.ref v0), some (.int v1), some (.long (v2 + (Int32.toInt64 (v1 + (Int32.ofInt 0))))), none, some (.int v4)]) rfl (q := 76) rfl ?_
          refine xr_iinc i_X9_mid_76 rfl rfl (L2 := [some (.ref v0), some (.int v1), some (.long (v2 + (Int32.toInt64 (v1 + (Int32.ofInt 0))))), none, some (.int (v4 + Int32.ofInt 1))]) rfl (q := 79) rfl ?_
          refine xr_goto i_X9_mid_79 (q := 27) t_X9_mid_79 ?_
          exact xi_X_le (xi_le_s (xi_le_s (xi_le_s (xi_le_n (xi_le_s xi_le_z))))) (ih _ _ _ _ _ h)
        · replace h := (if_neg c13).symm.trans h
          refine xr_ifCond_eq_n i_X9_mid_61 c13 (q := 71) t_X9_mid_61 (q2 := 64) rfl ?_
          refine xr_bipush i_X9_mid_64 (q := 66) rfl ?_
          refine xr_iload_n i_X9_mid_66 rfl (q := 67) rfl ?_
          refine xr_isub i_X9_mid_67 (q := 68) rfl ?_
          refine xr_goto i_X9_mid_68 (q := 72) t_X9_mid_68 ?_
          refine xr_iadd i_X9_mid_72 (q := 73) rfl ?_
          refine xr_i2l i_X9_mid_73 (q := 74) rfl ?_
          refine xr_ladd i_X9_mid_74 (q := 75) rfl ?_
          refine xr_lstore_n i_X9_mid_75 rfl (L2 := [some (.ref v0), some (.int v1), some (.long (v2 + (Int32.toInt64 (v1 + (((Int8.ofInt 12).toInt32) - v1))))), none, some (.int v4)]) rfl (q := 76) rfl ?_
          refine xr_iinc i_X9_mid_76 rfl rfl (L2 := [some (.ref v0), some (.int v1), some (.long (v2 + (Int32.toInt64 (v1 + (((Int8.ofInt 12).toInt32) - v1))))), none, some (.int (v4 + Int32.ofInt 1))]) rfl (q := 79) rfl ?_
          refine xr_goto i_X9_mid_79 (q := 27) t_X9_mid_79 ?_
          exact xi_X_le (xi_le_s (xi_le_s (xi_le_s (xi_le_n (xi_le_s xi_le_z))))) (ih _ _ _ _ _ h)
def E_X9_mid (S : xi_S) (v0 : Nat) (v1 : Int32) (m : xi_M) : Option xi_R :=
  xi_bI (E_X9_in0 S v1 (Int32.ofInt 0) ((Int8.ofInt 12).toInt32) m) fun x2 m1 =>
  if x2 = 0 then
    some (some (.int (Int32.ofInt (-1))), m1)
  else
    xi_bI (if S.1 v0 = 11 then E_X9_isAny S v0 m1 else none) fun x4 m3 =>
    if x4 = 0 then
      some (some (.int ((Int8.ofInt (-4)).toInt32)), m3)
    else
      G_X9_mid_27 S 10000 v0 v1 (Int64.ofNat ((0 : Fin 2) : Nat)) (Int32.ofInt 0) m3
def F_X9_mid (S : xi_S) : xi_F := fun As m => match As with
  | [.ref v0, .int v1] => E_X9_mid S v0 v1 m
  | _ => none
set_option maxRecDepth 100000 in
set_option maxHeartbeats 4000000 in
theorem xe_X9_mid {S : xi_S} {res : xi_R} (v0 : Nat) (v1 : Int32) (m : xi_M) (h : E_X9_mid S v0 v1 m = some res) : xi_X S (P_X9_mid S) (0, [some (.ref v0), some (.int v1), none, none, none], [], m) res := by
  unfold E_X9_mid at h
  refine xr_iload_n i_X9_mid_0 rfl (q := 1) rfl ?_
  refine xr_iconst i_X9_mid_1 (q := 2) rfl ?_
  refine xr_bipush i_X9_mid_2 (q := 4) rfl ?_
  obtain ⟨x2, m1, em1, h⟩ := xi_bI_some h
  refine xr_SI i_X9_mid_4 xcse_X9_63 rfl (As := [.int v1, .int (Int32.ofInt 0), .int ((Int8.ofInt 12).toInt32)]) rfl (rest := []) rfl ((cc_X9_mid_63 S _ _ _ _).trans em1) (q := 7) rfl ?_
  by_cases c6 : x2 = 0
  · replace h := (if_pos c6).symm.trans h
    refine xr_ifCond_ne_p i_X9_mid_7 c6 (q := 12) t_X9_mid_7 (q2 := 10) rfl ?_
    refine xr_iconst i_X9_mid_10 (q := 11) rfl ?_
    exact xr_ireturn i_X9_mid_11 rfl h
  · replace h := (if_neg c6).symm.trans h
    refine xr_ifCond_ne_n i_X9_mid_7 c6 (q := 12) t_X9_mid_7 (q2 := 10) rfl ?_
    refine xr_aload_n i_X9_mid_12 rfl (q := 13) rfl ?_
    obtain ⟨x4, m3, em3, h⟩ := xi_bI_some h
    refine xr_VI i_X9_mid_13 xcve_X9_183 rfl (As := [.ref v0]) rfl (rest := []) rfl ((cc_X9_mid_183 S _ _).trans em3) (q := 16) rfl ?_
    by_cases c5 : x4 = 0
    · replace h := (if_pos c5).symm.trans h
      refine xr_ifCond_ne_p i_X9_mid_16 c5 (q := 22) t_X9_mid_16 (q2 := 19) rfl ?_
      refine xr_bipush i_X9_mid_19 (q := 21) rfl ?_
      exact xr_ireturn i_X9_mid_21 rfl h
    · replace h := (if_neg c5).symm.trans h
      refine xr_ifCond_ne_n i_X9_mid_16 c5 (q := 22) t_X9_mid_16 (q2 := 19) rfl ?_
      refine xr_lconst i_X9_mid_22 (q := 23) rfl ?_
      refine xr_lstore_n i_X9_mid_23 rfl (L2 := [some (.ref v0), some (.int v1), some (.long (Int64.ofNat ((0 : Fin 2) : Nat))), none, none]) rfl (q := 24) rfl ?_
      refine xr_iconst i_X9_mid_24 (q := 25) rfl ?_
      refine xr_istore i_X9_mid_25 rfl (L2 := [some (.ref v0), some (.int v1), some (.long (Int64.ofNat ((0 : Fin 2) : Nat))), none, some (.int (Int32.ofInt 0))]) rfl (q := 27) rfl ?_
      exact xi_X_le (xi_le_s (xi_le_s (xi_le_s (xi_le_n (xi_le_s xi_le_z))))) (xs_X9_mid_27 10000 _ _ _ _ _ h)
set_option maxRecDepth 100000 in
theorem po_X9_mid {l : Launch} {E : xi_E} {S : xi_S} {D : va_G} {tys : List (ClassId × FieldType)} (hC : xCx E S tys) : xi_Pok l E S D vwCl tys xNs RX9 xTs cX9_mid 5 6 (P_X9_mid S) := ⟨xi_dc_ok, by rw [hC.2]; exact xfo_X9, xkio_X9, xklo_X9, xi_calls_ok (ins := .invokestatic) (List.forall_mem_cons.mpr ⟨(xc_X9_63 (sn_X9_in0 hC) (by decide)), fun _ h => absurd h List.not_mem_nil⟩), xi_calls_ok (ins := .invokevirtual) (List.forall_mem_cons.mpr ⟨(xc_X9_183 hC.1 (sn_X9_isAny hC) (by decide)), List.forall_mem_cons.mpr ⟨(xc_X9_238 hC.1 (sn_X9_isInBy hC) (by decide)), List.forall_mem_cons.mpr ⟨(xc_X9_241 hC.1 (sn_X9_told hC) (by decide)), fun _ h => absurd h List.not_mem_nil⟩⟩⟩)⟩
theorem sn_X9_mid {l : Launch} {E : xi_E} {S : xi_S} {D : va_G} {tys : List (ClassId × FieldType)} (hC : xCx E S tys) : ∀ As m1 r m2, F_X9_mid S As m1 = some (r, m2) → xi_Sound l E S D vwCl tys xNs xTs yX9_mid cX9_mid 5 (some .int) 6 As m1 r m2 := by
  intro As m1 r m2 h
  unfold F_X9_mid at h
  split at h
  · exact xi_meth (P := P_X9_mid S) (by decide) hC.1 (po_X9_mid hC) (Nat.le_of_ble_eq_true rfl) rfl (xe_X9_mid _ _ _ h)
  · exact xi_no h
theorem i_X9_lot_0 : xi_dc cX9_lot 0 = some (.lload_n 1, 1) := by decide +kernel
theorem i_X9_lot_1 : xi_dc cX9_lot 1 = some (.ldc2_w 254, 3) := by decide +kernel
theorem i_X9_lot_4 : xi_dc cX9_lot 4 = some (.ldiv, 1) := by decide +kernel
theorem i_X9_lot_5 : xi_dc cX9_lot 5 = some (.ldc2_w 254, 3) := by decide +kernel
theorem i_X9_lot_8 : xi_dc cX9_lot 8 = some (.lrem, 1) := by decide +kernel
theorem i_X9_lot_9 : xi_dc cX9_lot 9 = some (.l2i, 1) := by decide +kernel
theorem i_X9_lot_10 : xi_dc cX9_lot 10 = some (.istore_n 3, 1) := by decide +kernel
theorem i_X9_lot_11 : xi_dc cX9_lot 11 = some (.iload_n 3, 1) := by decide +kernel
theorem i_X9_lot_12 : xi_dc cX9_lot 12 = some (.iconst 3, 1) := by decide +kernel
theorem i_X9_lot_13 : xi_dc cX9_lot 13 = some (.if_icmp .ge 14, 3) := by decide +kernel
theorem t_X9_lot_13 : ((13 : Nat) : Int) + 14 = ((27 : Nat) : Int) := by decide +kernel
theorem i_X9_lot_16 : xi_dc cX9_lot 16 = some (.aload_n 0, 1) := by decide +kernel
theorem i_X9_lot_17 : xi_dc cX9_lot 17 = some (.getfield 25, 3) := by decide +kernel
theorem i_X9_lot_20 : xi_dc cX9_lot 20 = some (.invokestatic 190, 3) := by decide +kernel
theorem i_X9_lot_23 : xi_dc cX9_lot 23 = some (.pop, 1) := by decide +kernel
theorem i_X9_lot_24 : xi_dc cX9_lot 24 = some (.goto 122, 3) := by decide +kernel
theorem t_X9_lot_24 : ((24 : Nat) : Int) + 122 = ((146 : Nat) : Int) := by decide +kernel
theorem i_X9_lot_27 : xi_dc cX9_lot 27 = some (.iload_n 3, 1) := by decide +kernel
theorem i_X9_lot_28 : xi_dc cX9_lot 28 = some (.iconst 5, 1) := by decide +kernel
theorem i_X9_lot_29 : xi_dc cX9_lot 29 = some (.if_icmp .ge 63, 3) := by decide +kernel
theorem t_X9_lot_29 : ((29 : Nat) : Int) + 63 = ((92 : Nat) : Int) := by decide +kernel
theorem i_X9_lot_32 : xi_dc cX9_lot 32 = some (.lload_n 1, 1) := by decide +kernel
theorem i_X9_lot_33 : xi_dc cX9_lot 33 = some (.ldc2_w 256, 3) := by decide +kernel
theorem i_X9_lot_36 : xi_dc cX9_lot 36 = some (.ldiv, 1) := by decide +kernel
theorem i_X9_lot_37 : xi_dc cX9_lot 37 = some (.ldc2_w 258, 3) := by decide +kernel
theorem i_X9_lot_40 : xi_dc cX9_lot 40 = some (.lrem, 1) := by decide +kernel
theorem i_X9_lot_41 : xi_dc cX9_lot 41 = some (.l2i, 1) := by decide +kernel
theorem i_X9_lot_42 : xi_dc cX9_lot 42 = some (.istore 4, 2) := by decide +kernel
theorem i_X9_lot_44 : xi_dc cX9_lot 44 = some (.iload_n 3, 1) := by decide +kernel
theorem i_X9_lot_45 : xi_dc cX9_lot 45 = some (.iconst 3, 1) := by decide +kernel
theorem i_X9_lot_46 : xi_dc cX9_lot 46 = some (.if_icmp .ne 7, 3) := by decide +kernel
theorem t_X9_lot_46 : ((46 : Nat) : Int) + 7 = ((53 : Nat) : Int) := by decide +kernel
theorem i_X9_lot_49 : xi_dc cX9_lot 49 = some (.iconst (-1), 1) := by decide +kernel
theorem i_X9_lot_50 : xi_dc cX9_lot 50 = some (.goto 4, 3) := by decide +kernel
theorem t_X9_lot_50 : ((50 : Nat) : Int) + 4 = ((54 : Nat) : Int) := by decide +kernel
theorem i_X9_lot_53 : xi_dc cX9_lot 53 = some (.iconst 1, 1) := by decide +kernel
theorem i_X9_lot_54 : xi_dc cX9_lot 54 = some (.istore 5, 2) := by decide +kernel
theorem i_X9_lot_56 : xi_dc cX9_lot 56 = some (.aload_n 0, 1) := by decide +kernel
theorem i_X9_lot_57 : xi_dc cX9_lot 57 = some (.getfield 25, 3) := by decide +kernel
theorem i_X9_lot_60 : xi_dc cX9_lot 60 = some (.bipush 6, 2) := by decide +kernel
theorem i_X9_lot_62 : xi_dc cX9_lot 62 = some (.iload 4, 2) := by decide +kernel
theorem i_X9_lot_64 : xi_dc cX9_lot 64 = some (.iadd, 1) := by decide +kernel
theorem i_X9_lot_65 : xi_dc cX9_lot 65 = some (.dup2, 1) := by decide +kernel
theorem i_X9_lot_66 : xi_dc cX9_lot 66 = some (.iaload, 1) := by decide +kernel
theorem i_X9_lot_67 : xi_dc cX9_lot 67 = some (.aload_n 0, 1) := by decide +kernel
theorem i_X9_lot_68 : xi_dc cX9_lot 68 = some (.getfield 25, 3) := by decide +kernel
theorem i_X9_lot_71 : xi_dc cX9_lot 71 = some (.iload 4, 2) := by decide +kernel
theorem i_X9_lot_73 : xi_dc cX9_lot 73 = some (.iload 5, 2) := by decide +kernel
theorem i_X9_lot_75 : xi_dc cX9_lot 75 = some (.invokestatic 193, 3) := by decide +kernel
theorem i_X9_lot_78 : xi_dc cX9_lot 78 = some (.ifCond .eq 8, 3) := by decide +kernel
theorem t_X9_lot_78 : ((78 : Nat) : Int) + 8 = ((86 : Nat) : Int) := by decide +kernel
theorem i_X9_lot_81 : xi_dc cX9_lot 81 = some (.iload 5, 2) := by decide +kernel
theorem i_X9_lot_83 : xi_dc cX9_lot 83 = some (.goto 4, 3) := by decide +kernel
theorem t_X9_lot_83 : ((83 : Nat) : Int) + 4 = ((87 : Nat) : Int) := by decide +kernel
theorem i_X9_lot_86 : xi_dc cX9_lot 86 = some (.iconst 0, 1) := by decide +kernel
theorem i_X9_lot_87 : xi_dc cX9_lot 87 = some (.iadd, 1) := by decide +kernel
theorem i_X9_lot_88 : xi_dc cX9_lot 88 = some (.iastore, 1) := by decide +kernel
theorem i_X9_lot_89 : xi_dc cX9_lot 89 = some (.goto 57, 3) := by decide +kernel
theorem t_X9_lot_89 : ((89 : Nat) : Int) + 57 = ((146 : Nat) : Int) := by decide +kernel
theorem i_X9_lot_92 : xi_dc cX9_lot 92 = some (.iload_n 3, 1) := by decide +kernel
theorem i_X9_lot_93 : xi_dc cX9_lot 93 = some (.iconst 5, 1) := by decide +kernel
theorem i_X9_lot_94 : xi_dc cX9_lot 94 = some (.if_icmp .ne 20, 3) := by decide +kernel
theorem t_X9_lot_94 : ((94 : Nat) : Int) + 20 = ((114 : Nat) : Int) := by decide +kernel
theorem i_X9_lot_97 : xi_dc cX9_lot 97 = some (.aload_n 0, 1) := by decide +kernel
theorem i_X9_lot_98 : xi_dc cX9_lot 98 = some (.getfield 25, 3) := by decide +kernel
theorem i_X9_lot_101 : xi_dc cX9_lot 101 = some (.iconst 3, 1) := by decide +kernel
theorem i_X9_lot_102 : xi_dc cX9_lot 102 = some (.iconst 1, 1) := by decide +kernel
theorem i_X9_lot_103 : xi_dc cX9_lot 103 = some (.aload_n 0, 1) := by decide +kernel
theorem i_X9_lot_104 : xi_dc cX9_lot 104 = some (.getfield 25, 3) := by decide +kernel
theorem i_X9_lot_107 : xi_dc cX9_lot 107 = some (.iconst 3, 1) := by decide +kernel
theorem i_X9_lot_108 : xi_dc cX9_lot 108 = some (.iaload, 1) := by decide +kernel
theorem i_X9_lot_109 : xi_dc cX9_lot 109 = some (.isub, 1) := by decide +kernel
theorem i_X9_lot_110 : xi_dc cX9_lot 110 = some (.iastore, 1) := by decide +kernel
theorem i_X9_lot_111 : xi_dc cX9_lot 111 = some (.goto 35, 3) := by decide +kernel
theorem t_X9_lot_111 : ((111 : Nat) : Int) + 35 = ((146 : Nat) : Int) := by decide +kernel
theorem i_X9_lot_114 : xi_dc cX9_lot 114 = some (.aload_n 0, 1) := by decide +kernel
theorem i_X9_lot_115 : xi_dc cX9_lot 115 = some (.getfield 25, 3) := by decide +kernel
theorem i_X9_lot_118 : xi_dc cX9_lot 118 = some (.bipush 10, 2) := by decide +kernel
theorem i_X9_lot_120 : xi_dc cX9_lot 120 = some (.iconst 4, 1) := by decide +kernel
theorem i_X9_lot_121 : xi_dc cX9_lot 121 = some (.lload_n 1, 1) := by decide +kernel
theorem i_X9_lot_122 : xi_dc cX9_lot 122 = some (.aload_n 0, 1) := by decide +kernel
theorem i_X9_lot_123 : xi_dc cX9_lot 123 = some (.getfield 25, 3) := by decide +kernel
theorem i_X9_lot_126 : xi_dc cX9_lot 126 = some (.iconst 1, 1) := by decide +kernel
theorem i_X9_lot_127 : xi_dc cX9_lot 127 = some (.iaload, 1) := by decide +kernel
theorem i_X9_lot_128 : xi_dc cX9_lot 128 = some (.i2l, 1) := by decide +kernel
theorem i_X9_lot_129 : xi_dc cX9_lot 129 = some (.lrem, 1) := by decide +kernel
theorem i_X9_lot_130 : xi_dc cX9_lot 130 = some (.l2i, 1) := by decide +kernel
theorem i_X9_lot_131 : xi_dc cX9_lot 131 = some (.imul, 1) := by decide +kernel
theorem i_X9_lot_132 : xi_dc cX9_lot 132 = some (.iadd, 1) := by decide +kernel
theorem i_X9_lot_133 : xi_dc cX9_lot 133 = some (.iconst 2, 1) := by decide +kernel
theorem i_X9_lot_134 : xi_dc cX9_lot 134 = some (.iadd, 1) := by decide +kernel
theorem i_X9_lot_135 : xi_dc cX9_lot 135 = some (.lload_n 1, 1) := by decide +kernel
theorem i_X9_lot_136 : xi_dc cX9_lot 136 = some (.ldc2_w 256, 3) := by decide +kernel
theorem i_X9_lot_139 : xi_dc cX9_lot 139 = some (.ldiv, 1) := by decide +kernel
theorem i_X9_lot_140 : xi_dc cX9_lot 140 = some (.ldc2_w 260, 3) := by decide +kernel
theorem i_X9_lot_143 : xi_dc cX9_lot 143 = some (.lrem, 1) := by decide +kernel
theorem i_X9_lot_144 : xi_dc cX9_lot 144 = some (.l2i, 1) := by decide +kernel
theorem i_X9_lot_145 : xi_dc cX9_lot 145 = some (.iastore, 1) := by decide +kernel
theorem i_X9_lot_146 : xi_dc cX9_lot 146 = some (.return_, 1) := by decide +kernel
def P_X9_lot (S : xi_S) : xi_P := (xi_dc cX9_lot, xi_tab xfl_X9, xi_tab xki_X9, xi_tab xkl_X9, xi_tab xcs_X9, xi_tab xcv_X9, xi_calls [(190, xi_wS 1 (F_X9_plays S)), (193, xi_wS 3 (F_X9_mayMove S))], xi_calls [], 0)
theorem cc_X9_lot_190 (S : xi_S) (a0 : Nat) (m : xi_M) : (P_X9_lot S).2.2.2.2.2.2.1 190 [.ref a0] m = (E_X9_plays S a0 m) := by
  show xi_calls [(190, xi_wS 1 (F_X9_plays S)), (193, xi_wS 3 (F_X9_mayMove S))] 190 [.ref a0] m = _
  refine Eq.trans (b := xi_wS 1 (F_X9_plays S) [.ref a0] m) (xi_calls_hit rfl) ?_
  exact xi_wS_eq rfl
theorem cc_X9_lot_193 (S : xi_S) (a0 : Nat) (a1 : Int32) (a2 : Int32) (m : xi_M) : (P_X9_lot S).2.2.2.2.2.2.1 193 [.ref a0, .int a1, .int a2] m = (E_X9_mayMove S a0 a1 a2 m) := by
  show xi_calls [(190, xi_wS 1 (F_X9_plays S)), (193, xi_wS 3 (F_X9_mayMove S))] 193 [.ref a0, .int a1, .int a2] m = _
  refine Eq.trans (b := xi_calls [(193, xi_wS 3 (F_X9_mayMove S))] 193 [.ref a0, .int a1, .int a2] m) (xi_calls_miss rfl) ?_
  refine Eq.trans (b := xi_wS 3 (F_X9_mayMove S) [.ref a0, .int a1, .int a2] m) (xi_calls_hit rfl) ?_
  exact xi_wS_eq rfl
def E_X9_lot (S : xi_S) (v0 : Nat) (v1 : Int64) (m : xi_M) : Option xi_R :=
  if (8 : Int64) = 0 then none else
  if (8 : Int64) = 0 then none else
  if (Int32.ofInt 3) ≤ (Int64.toInt32 ((v1 / (8 : Int64)) - (v1 / (8 : Int64)) / (8 : Int64) * (8 : Int64))) then
    if (Int32.ofInt 5) ≤ (Int64.toInt32 ((v1 / (8 : Int64)) - (v1 / (8 : Int64)) / (8 : Int64) * (8 : Int64))) then
      if (Int64.toInt32 ((v1 / (8 : Int64)) - (v1 / (8 : Int64)) / (8 : Int64) * (8 : Int64))) = (Int32.ofInt 5) then
        if S.1 v0 = 11 then (S.2.2 v0 5).bind fun b13 =>
          if S.1 v0 = 11 then (S.2.2 v0 5).bind fun b15 =>
            if S.1 b15 = 0 ∧ ¬ ((Int32.ofInt 3) < 0 ∨ S.2.1 b15 ≤ Int32.toNatClampNeg (Int32.ofInt 3)) then
              if S.1 b13 = 0 ∧ ¬ ((Int32.ofInt 3) < 0 ∨ S.2.1 b13 ≤ Int32.toNatClampNeg (Int32.ofInt 3)) then
                some (none, (xi_wI m b13 (Int32.toNatClampNeg (Int32.ofInt 3)) ((Int32.ofInt 1) - (m.1 b15 (Int32.toNatClampNeg (Int32.ofInt 3))))))
              else none
            else none
          else none
        else none
      else
        if S.1 v0 = 11 then (S.2.2 v0 5).bind fun b4 =>
          if S.1 v0 = 11 then (S.2.2 v0 5).bind fun b6 =>
            if S.1 b6 = 0 ∧ ¬ ((Int32.ofInt 1) < 0 ∨ S.2.1 b6 ≤ Int32.toNatClampNeg (Int32.ofInt 1)) then
              if (Int32.toInt64 (m.1 b6 (Int32.toNatClampNeg (Int32.ofInt 1)))) = 0 then none else
              if (64 : Int64) = 0 then none else
              if (21 : Int64) = 0 then none else
              if S.1 b4 = 0 ∧ ¬ (((((Int8.ofInt 10).toInt32) + ((Int32.ofInt 4) * (Int64.toInt32 (v1 - v1 / (Int32.toInt64 (m.1 b6 (Int32.toNatClampNeg (Int32.ofInt 1)))) * (Int32.toInt64 (m.1 b6 (Int32.toNatClampNeg (Int32.ofInt 1)))))))) + (Int32.ofInt 2)) < 0 ∨ S.2.1 b4 ≤ Int32.toNatClampNeg ((((Int8.ofInt 10).toInt32) + ((Int32.ofInt 4) * (Int64.toInt32 (v1 - v1 / (Int32.toInt64 (m.1 b6 (Int32.toNatClampNeg (Int32.ofInt 1)))) * (Int32.toInt64 (m.1 b6 (Int32.toNatClampNeg (Int32.ofInt 1)))))))) + (Int32.ofInt 2))) then
                some (none, (xi_wI m b4 (Int32.toNatClampNeg ((((Int8.ofInt 10).toInt32) + ((Int32.ofInt 4) * (Int64.toInt32 (v1 - v1 / (Int32.toInt64 (m.1 b6 (Int32.toNatClampNeg (Int32.ofInt 1)))) * (Int32.toInt64 (m.1 b6 (Int32.toNatClampNeg (Int32.ofInt 1)))))))) + (Int32.ofInt 2))) (Int64.toInt32 ((v1 / (64 : Int64)) - (v1 / (64 : Int64)) / (21 : Int64) * (21 : Int64)))))
              else none
            else none
          else none
        else none
    else
      if (64 : Int64) = 0 then none else
      if (4 : Int64) = 0 then none else
      if (Int64.toInt32 ((v1 / (8 : Int64)) - (v1 / (8 : Int64)) / (8 : Int64) * (8 : Int64))) = (Int32.ofInt 3) then
        if S.1 v0 = 11 then (S.2.2 v0 5).bind fun b32 =>
          if S.1 b32 = 0 ∧ ¬ ((((Int8.ofInt 6).toInt32) + (Int64.toInt32 ((v1 / (64 : Int64)) - (v1 / (64 : Int64)) / (4 : Int64) * (4 : Int64)))) < 0 ∨ S.2.1 b32 ≤ Int32.toNatClampNeg (((Int8.ofInt 6).toInt32) + (Int64.toInt32 ((v1 / (64 : Int64)) - (v1 / (64 : Int64)) / (4 : Int64) * (4 : Int64))))) then
            if S.1 v0 = 11 then (S.2.2 v0 5).bind fun b35 =>
              xi_bI (E_X9_mayMove S b35 (Int64.toInt32 ((v1 / (64 : Int64)) - (v1 / (64 : Int64)) / (4 : Int64) * (4 : Int64))) (Int32.ofInt (-1)) m) fun x37 m36 =>
              if x37 = 0 then
                if S.1 b32 = 0 ∧ ¬ ((((Int8.ofInt 6).toInt32) + (Int64.toInt32 ((v1 / (64 : Int64)) - (v1 / (64 : Int64)) / (4 : Int64) * (4 : Int64)))) < 0 ∨ S.2.1 b32 ≤ Int32.toNatClampNeg (((Int8.ofInt 6).toInt32) + (Int64.toInt32 ((v1 / (64 : Int64)) - (v1 / (64 : Int64)) / (4 : Int64) * (4 : Int64))))) then
                  some (none, (xi_wI m36 b32 (Int32.toNatClampNeg (((Int8.ofInt 6).toInt32) + (Int64.toInt32 ((v1 / (64 : Int64)) - (v1 / (64 : Int64)) / (4 : Int64) * (4 : Int64))))) ((m.1 b32 (Int32.toNatClampNeg (((Int8.ofInt 6).toInt32) + (Int64.toInt32 ((v1 / (64 : Int64)) - (v1 / (64 : Int64)) / (4 : Int64) * (4 : Int64)))))) + (Int32.ofInt 0))))
                else none
              else
                if S.1 b32 = 0 ∧ ¬ ((((Int8.ofInt 6).toInt32) + (Int64.toInt32 ((v1 / (64 : Int64)) - (v1 / (64 : Int64)) / (4 : Int64) * (4 : Int64)))) < 0 ∨ S.2.1 b32 ≤ Int32.toNatClampNeg (((Int8.ofInt 6).toInt32) + (Int64.toInt32 ((v1 / (64 : Int64)) - (v1 / (64 : Int64)) / (4 : Int64) * (4 : Int64))))) then
                  some (none, (xi_wI m36 b32 (Int32.toNatClampNeg (((Int8.ofInt 6).toInt32) + (Int64.toInt32 ((v1 / (64 : Int64)) - (v1 / (64 : Int64)) / (4 : Int64) * (4 : Int64))))) ((m.1 b32 (Int32.toNatClampNeg (((Int8.ofInt 6).toInt32) + (Int64.toInt32 ((v1 / (64 : Int64)) - (v1 / (64 : Int64)) / (4 : Int64) * (4 : Int64)))))) + (Int32.ofInt (-1)))))
                else none
            else none
          else none
        else none
      else
        if S.1 v0 = 11 then (S.2.2 v0 5).bind fun b22 =>
          if S.1 b22 = 0 ∧ ¬ ((((Int8.ofInt 6).toInt32) + (Int64.toInt32 ((v1 / (64 : Int64)) - (v1 / (64 : Int64)) / (4 : Int64) * (4 : Int64)))) < 0 ∨ S.2.1 b22 ≤ Int32.toNatClampNeg (((Int8.ofInt 6).toInt32) + (Int64.toInt32 ((v1 / (64 : Int64)) - (v1 / (64 : Int64)) / (4 : Int64) * (4 : Int64))))) then
            if S.1 v0 = 11 then (S.2.2 v0 5).bind fun b25 =>
              xi_bI (E_X9_mayMove S b25 (Int64.toInt32 ((v1 / (64 : Int64)) - (v1 / (64 : Int64)) / (4 : Int64) * (4 : Int64))) (Int32.ofInt 1) m) fun x27 m26 =>
              if x27 = 0 then
                if S.1 b22 = 0 ∧ ¬ ((((Int8.ofInt 6).toInt32) + (Int64.toInt32 ((v1 / (64 : Int64)) - (v1 / (64 : Int64)) / (4 : Int64) * (4 : Int64)))) < 0 ∨ S.2.1 b22 ≤ Int32.toNatClampNeg (((Int8.ofInt 6).toInt32) + (Int64.toInt32 ((v1 / (64 : Int64)) - (v1 / (64 : Int64)) / (4 : Int64) * (4 : Int64))))) then
                  some (none, (xi_wI m26 b22 (Int32.toNatClampNeg (((Int8.ofInt 6).toInt32) + (Int64.toInt32 ((v1 / (64 : Int64)) - (v1 / (64 : Int64)) / (4 : Int64) * (4 : Int64))))) ((m.1 b22 (Int32.toNatClampNeg (((Int8.ofInt 6).toInt32) + (Int64.toInt32 ((v1 / (64 : Int64)) - (v1 / (64 : Int64)) / (4 : Int64) * (4 : Int64)))))) + (Int32.ofInt 0))))
                else none
              else
                if S.1 b22 = 0 ∧ ¬ ((((Int8.ofInt 6).toInt32) + (Int64.toInt32 ((v1 / (64 : Int64)) - (v1 / (64 : Int64)) / (4 : Int64) * (4 : Int64)))) < 0 ∨ S.2.1 b22 ≤ Int32.toNatClampNeg (((Int8.ofInt 6).toInt32) + (Int64.toInt32 ((v1 / (64 : Int64)) - (v1 / (64 : Int64)) / (4 : Int64) * (4 : Int64))))) then
                  some (none, (xi_wI m26 b22 (Int32.toNatClampNeg (((Int8.ofInt 6).toInt32) + (Int64.toInt32 ((v1 / (64 : Int64)) - (v1 / (64 : Int64)) / (4 : Int64) * (4 : Int64))))) ((m.1 b22 (Int32.toNatClampNeg (((Int8.ofInt 6).toInt32) + (Int64.toInt32 ((v1 / (64 : Int64)) - (v1 / (64 : Int64)) / (4 : Int64) * (4 : Int64)))))) + (Int32.ofInt 1))))
                else none
            else none
          else none
        else none
  else
    if S.1 v0 = 11 then (S.2.2 v0 5).bind fun b44 =>
      xi_bI (E_X9_plays S b44 m) fun x46 m45 =>
      some (none, m45)
    else none
def F_X9_lot (S : xi_S) : xi_F := fun As m => match As with
  | [.ref v0, .long v1] => E_X9_lot S v0 v1 m
  | _ => none
set_option maxRecDepth 100000 in
set_option maxHeartbeats 4000000 in
theorem xe_X9_lot {S : xi_S} {res : xi_R} (v0 : Nat) (v1 : Int64) (m : xi_M) (h : E_X9_lot S v0 v1 m = some res) : xi_X S (P_X9_lot S) (0, [some (.ref v0), some (.long v1), none, none, none, none], [], m) res := by
  unfold E_X9_lot at h
  refine xr_lload_n i_X9_lot_0 rfl (q := 1) rfl ?_
  refine xr_ldc2_w i_X9_lot_1 xkle_X9_254 (q := 4) rfl ?_
  obtain ⟨c1, h⟩ := xi_ifn_some h
  refine xr_ldiv i_X9_lot_4 c1 (q := 5) rfl ?_
  refine xr_ldc2_w i_X9_lot_5 xkle_X9_254 (q := 8) rfl ?_
  obtain ⟨c2, h⟩ := xi_ifn_some h
  refine xr_lrem i_X9_lot_8 c2 (q := 9) rfl ?_
  refine xr_l2i i_X9_lot_9 (q := 10) rfl ?_
  refine xr_istore_n i_X9_lot_10 rfl (L2 := [some (.ref v0), some (.long v1), none, some (.int (Int64.toInt32 ((v1 / (8 : Int64)) - (v1 / (8 : Int64)) / (8 : Int64) * (8 : Int64)))), none, none]) rfl (q := 11) rfl ?_
  refine xr_iload_n i_X9_lot_11 rfl (q := 12) rfl ?_
  refine xr_iconst i_X9_lot_12 (q := 13) rfl ?_
  by_cases c47 : (Int32.ofInt 3) ≤ (Int64.toInt32 ((v1 / (8 : Int64)) - (v1 / (8 : Int64)) / (8 : Int64) * (8 : Int64)))
  · replace h := (if_pos c47).symm.trans h
    refine xr_if_icmp_ge_p i_X9_lot_13 c47 (q := 27) t_X9_lot_13 (q2 := 16) rfl ?_
    refine xr_iload_n i_X9_lot_27 rfl (q := 28) rfl ?_
    refine xr_iconst i_X9_lot_28 (q := 29) rfl ?_
    by_cases c42 : (Int32.ofInt 5) ≤ (Int64.toInt32 ((v1 / (8 : Int64)) - (v1 / (8 : Int64)) / (8 : Int64) * (8 : Int64)))
    · replace h := (if_pos c42).symm.trans h
      refine xr_if_icmp_ge_p i_X9_lot_29 c42 (q := 92) t_X9_lot_29 (q2 := 32) rfl ?_
      refine xr_iload_n i_X9_lot_92 rfl (q := 93) rfl ?_
      refine xr_iconst i_X9_lot_93 (q := 94) rfl ?_
      by_cases c18 : (Int64.toInt32 ((v1 / (8 : Int64)) - (v1 / (8 : Int64)) / (8 : Int64) * (8 : Int64))) = (Int32.ofInt 5)
      · replace h := (if_pos c18).symm.trans h
        refine xr_if_icmp_ne_p i_X9_lot_94 c18 (q := 114) t_X9_lot_94 (q2 := 97) rfl ?_
        refine xr_aload_n i_X9_lot_97 rfl (q := 98) rfl ?_
        obtain ⟨c12, h⟩ := xi_if_some h
        obtain ⟨b13, eb13, h⟩ := xi_bind_some h
        refine xr_getR i_X9_lot_98 xfe_X9_25 c12 eb13 (q := 101) rfl ?_
        refine xr_iconst i_X9_lot_101 (q := 102) rfl ?_
        refine xr_iconst i_X9_lot_102 (q := 103) rfl ?_
        refine xr_aload_n i_X9_lot_103 rfl (q := 104) rfl ?_
        obtain ⟨c14, h⟩ := xi_if_some h
        obtain ⟨b15, eb15, h⟩ := xi_bind_some h
        refine xr_getR i_X9_lot_104 xfe_X9_25 c14 eb15 (q := 107) rfl ?_
        refine xr_iconst i_X9_lot_107 (q := 108) rfl ?_
        obtain ⟨c16, h⟩ := xi_if_some h
        refine xr_iaload i_X9_lot_108 c16 (q := 109) rfl ?_
        refine xr_isub i_X9_lot_109 (q := 110) rfl ?_
        obtain ⟨c17, h⟩ := xi_if_some h
        refine xr_iastore i_X9_lot_110 c17 (q := 111) rfl ?_
        refine xr_goto i_X9_lot_111 (q := 146) t_X9_lot_111 ?_
        exact xr_return i_X9_lot_146 rfl h
      · replace h := (if_neg c18).symm.trans h
        refine xr_if_icmp_ne_n i_X9_lot_94 c18 (q := 114) t_X9_lot_94 (q2 := 97) rfl ?_
        refine xr_aload_n i_X9_lot_114 rfl (q := 115) rfl ?_
        obtain ⟨c3, h⟩ := xi_if_some h
        obtain ⟨b4, eb4, h⟩ := xi_bind_some h
        refine xr_getR i_X9_lot_115 xfe_X9_25 c3 eb4 (q := 118) rfl ?_
        refine xr_bipush i_X9_lot_118 (q := 120) rfl ?_
        refine xr_iconst i_X9_lot_120 (q := 121) rfl ?_
        refine xr_lload_n i_X9_lot_121 rfl (q := 122) rfl ?_
        refine xr_aload_n i_X9_lot_122 rfl (q := 123) rfl ?_
        obtain ⟨c5, h⟩ := xi_if_some h
        obtain ⟨b6, eb6, h⟩ := xi_bind_some h
        refine xr_getR i_X9_lot_123 xfe_X9_25 c5 eb6 (q := 126) rfl ?_
        refine xr_iconst i_X9_lot_126 (q := 127) rfl ?_
        obtain ⟨c7, h⟩ := xi_if_some h
        refine xr_iaload i_X9_lot_127 c7 (q := 128) rfl ?_
        refine xr_i2l i_X9_lot_128 (q := 129) rfl ?_
        obtain ⟨c8, h⟩ := xi_ifn_some h
        refine xr_lrem i_X9_lot_129 c8 (q := 130) rfl ?_
        refine xr_l2i i_X9_lot_130 (q := 131) rfl ?_
        refine xr_imul i_X9_lot_131 (q := 132) rfl ?_
        refine xr_iadd i_X9_lot_132 (q := 133) rfl ?_
        refine xr_iconst i_X9_lot_133 (q := 134) rfl ?_
        refine xr_iadd i_X9_lot_134 (q := 135) rfl ?_
        refine xr_lload_n i_X9_lot_135 rfl (q := 136) rfl ?_
        refine xr_ldc2_w i_X9_lot_136 xkle_X9_256 (q := 139) rfl ?_
        obtain ⟨c9, h⟩ := xi_ifn_some h
        refine xr_ldiv i_X9_lot_139 c9 (q := 140) rfl ?_
        refine xr_ldc2_w i_X9_lot_140 xkle_X9_260 (q := 143) rfl ?_
        obtain ⟨c10, h⟩ := xi_ifn_some h
        refine xr_lrem i_X9_lot_143 c10 (q := 144) rfl ?_
        refine xr_l2i i_X9_lot_144 (q := 145) rfl ?_
        obtain ⟨c11, h⟩ := xi_if_some h
        refine xr_iastore i_X9_lot_145 c11 (q := 146) rfl ?_
        exact xr_return i_X9_lot_146 rfl h
    · replace h := (if_neg c42).symm.trans h
      refine xr_if_icmp_ge_n i_X9_lot_29 c42 (q := 92) t_X9_lot_29 (q2 := 32) rfl ?_
      refine xr_lload_n i_X9_lot_32 rfl (q := 33) rfl ?_
      refine xr_ldc2_w i_X9_lot_33 xkle_X9_256 (q := 36) rfl ?_
      obtain ⟨c19, h⟩ := xi_ifn_some h
      refine xr_ldiv i_X9_lot_36 c19 (q := 37) rfl ?_
      refine xr_ldc2_w i_X9_lot_37 xkle_X9_258 (q := 40) rfl ?_
      obtain ⟨c20, h⟩ := xi_ifn_some h
      refine xr_lrem i_X9_lot_40 c20 (q := 41) rfl ?_
      refine xr_l2i i_X9_lot_41 (q := 42) rfl ?_
      refine xr_istore i_X9_lot_42 rfl (L2 := [some (.ref v0), some (.long v1), none, some (.int (Int64.toInt32 ((v1 / (8 : Int64)) - (v1 / (8 : Int64)) / (8 : Int64) * (8 : Int64)))), some (.int (Int64.toInt32 ((v1 / (64 : Int64)) - (v1 / (64 : Int64)) / (4 : Int64) * (4 : Int64)))), none]) rfl (q := 44) rfl ?_
      refine xr_iload_n i_X9_lot_44 rfl (q := 45) rfl ?_
      refine xr_iconst i_X9_lot_45 (q := 46) rfl ?_
      by_cases c41 : (Int64.toInt32 ((v1 / (8 : Int64)) - (v1 / (8 : Int64)) / (8 : Int64) * (8 : Int64))) = (Int32.ofInt 3)
      · replace h := (if_pos c41).symm.trans h
        refine xr_if_icmp_ne_p i_X9_lot_46 c41 (q := 53) t_X9_lot_46 (q2 := 49) rfl ?_
        refine xr_iconst i_X9_lot_49 (q := 50) rfl ?_
        refine xr_goto i_X9_lot_50 (q := 54) t_X9_lot_50 ?_
        refine xr_istore i_X9_lot_54 rfl (L2 := [some (.ref v0), some (.long v1), none, some (.int (Int64.toInt32 ((v1 / (8 : Int64)) - (v1 / (8 : Int64)) / (8 : Int64) * (8 : Int64)))), some (.int (Int64.toInt32 ((v1 / (64 : Int64)) - (v1 / (64 : Int64)) / (4 : Int64) * (4 : Int64)))), some (.int (Int32.ofInt (-1)))]) rfl (q := 56) rfl ?_
        refine xr_aload_n i_X9_lot_56 rfl (q := 57) rfl ?_
        obtain ⟨c31, h⟩ := xi_if_some h
        obtain ⟨b32, eb32, h⟩ := xi_bind_some h
        refine xr_getR i_X9_lot_57 xfe_X9_25 c31 eb32 (q := 60) rfl ?_
        refine xr_bipush i_X9_lot_60 (q := 62) rfl ?_
        refine xr_iload i_X9_lot_62 rfl (q := 64) rfl ?_
        refine xr_iadd i_X9_lot_64 (q := 65) rfl ?_
        refine xr_dup2 i_X9_lot_65 (q := 66) rfl ?_
        obtain ⟨c33, h⟩ := xi_if_some h
        refine xr_iaload i_X9_lot_66 c33 (q := 67) rfl ?_
        refine xr_aload_n i_X9_lot_67 rfl (q := 68) rfl ?_
        obtain ⟨c34, h⟩ := xi_if_some h
        obtain ⟨b35, eb35, h⟩ := xi_bind_some h
        refine xr_getR i_X9_lot_68 xfe_X9_25 c34 eb35 (q := 71) rfl ?_
        refine xr_iload i_X9_lot_71 rfl (q := 73) rfl ?_
        refine xr_iload i_X9_lot_73 rfl (q := 75) rfl ?_
        obtain ⟨x37, m36, em36, h⟩ := xi_bI_some h
        refine xr_SI i_X9_lot_75 xcse_X9_193 rfl (As := [.ref b35, .int (Int64.toInt32 ((v1 / (64 : Int64)) - (v1 / (64 : Int64)) / (4 : Int64) * (4 : Int64))), .int (Int32.ofInt (-1))]) rfl (rest := [.int (m.1 b32 (Int32.toNatClampNeg (((Int8.ofInt 6).toInt32) + (Int64.toInt32 ((v1 / (64 : Int64)) - (v1 / (64 : Int64)) / (4 : Int64) * (4 : Int64)))))), .int (((Int8.ofInt 6).toInt32) + (Int64.toInt32 ((v1 / (64 : Int64)) - (v1 / (64 : Int64)) / (4 : Int64) * (4 : Int64)))), .ref b32]) rfl ((cc_X9_lot_193 S _ _ _ _).trans em36) (q := 78) rfl ?_
        by_cases c40 : x37 = 0
        · replace h := (if_pos c40).symm.trans h
          refine xr_ifCond_eq_p i_X9_lot_78 c40 (q := 86) t_X9_lot_78 (q2 := 81) rfl ?_
          refine xr_iconst i_X9_lot_86 (q := 87) rfl ?_
          refine xr_iadd i_X9_lot_87 (q := 88) rfl ?_
          obtain ⟨c38, h⟩ := xi_if_some h
          refine xr_iastore i_X9_lot_88 c38 (q := 89) rfl ?_
          refine xr_goto i_X9_lot_89 (q := 146) t_X9_lot_89 ?_
          exact xr_return i_X9_lot_146 rfl h
        · replace h := (if_neg c40).symm.trans h
          refine xr_ifCond_eq_n i_X9_lot_78 c40 (q := 86) t_X9_lot_78 (q2 := 81) rfl ?_
          refine xr_iload i_X9_lot_81 rfl (q := 83) rfl ?_
          refine xr_goto i_X9_lot_83 (q := 87) t_X9_lot_83 ?_
          refine xr_iadd i_X9_lot_87 (q := 88) rfl ?_
          obtain ⟨c39, h⟩ := xi_if_some h
          refine xr_iastore i_X9_lot_88 c39 (q := 89) rfl ?_
          refine xr_goto i_X9_lot_89 (q := 146) t_X9_lot_89 ?_
          exact xr_return i_X9_lot_146 rfl h
      · replace h := (if_neg c41).symm.trans h
        refine xr_if_icmp_ne_n i_X9_lot_46 c41 (q := 53) t_X9_lot_46 (q2 := 49) rfl ?_
        refine xr_iconst i_X9_lot_53 (q := 54) rfl ?_
        refine xr_istore i_X9_lot_54 rfl (L2 := [some (.ref v0), some (.long v1), none, some (.int (Int64.toInt32 ((v1 / (8 : Int64)) - (v1 / (8 : Int64)) / (8 : Int64) * (8 : Int64)))), some (.int (Int64.toInt32 ((v1 / (64 : Int64)) - (v1 / (64 : Int64)) / (4 : Int64) * (4 : Int64)))), some (.int (Int32.ofInt 1))]) rfl (q := 56) rfl ?_
        refine xr_aload_n i_X9_lot_56 rfl (q := 57) rfl ?_
        obtain ⟨c21, h⟩ := xi_if_some h
        obtain ⟨b22, eb22, h⟩ := xi_bind_some h
        refine xr_getR i_X9_lot_57 xfe_X9_25 c21 eb22 (q := 60) rfl ?_
        refine xr_bipush i_X9_lot_60 (q := 62) rfl ?_
        refine xr_iload i_X9_lot_62 rfl (q := 64) rfl ?_
        refine xr_iadd i_X9_lot_64 (q := 65) rfl ?_
        refine xr_dup2 i_X9_lot_65 (q := 66) rfl ?_
        obtain ⟨c23, h⟩ := xi_if_some h
        refine xr_iaload i_X9_lot_66 c23 (q := 67) rfl ?_
        refine xr_aload_n i_X9_lot_67 rfl (q := 68) rfl ?_
        obtain ⟨c24, h⟩ := xi_if_some h
        obtain ⟨b25, eb25, h⟩ := xi_bind_some h
        refine xr_getR i_X9_lot_68 xfe_X9_25 c24 eb25 (q := 71) rfl ?_
        refine xr_iload i_X9_lot_71 rfl (q := 73) rfl ?_
        refine xr_iload i_X9_lot_73 rfl (q := 75) rfl ?_
        obtain ⟨x27, m26, em26, h⟩ := xi_bI_some h
        refine xr_SI i_X9_lot_75 xcse_X9_193 rfl (As := [.ref b25, .int (Int64.toInt32 ((v1 / (64 : Int64)) - (v1 / (64 : Int64)) / (4 : Int64) * (4 : Int64))), .int (Int32.ofInt 1)]) rfl (rest := [.int (m.1 b22 (Int32.toNatClampNeg (((Int8.ofInt 6).toInt32) + (Int64.toInt32 ((v1 / (64 : Int64)) - (v1 / (64 : Int64)) / (4 : Int64) * (4 : Int64)))))), .int (((Int8.ofInt 6).toInt32) + (Int64.toInt32 ((v1 / (64 : Int64)) - (v1 / (64 : Int64)) / (4 : Int64) * (4 : Int64)))), .ref b22]) rfl ((cc_X9_lot_193 S _ _ _ _).trans em26) (q := 78) rfl ?_
        by_cases c30 : x27 = 0
        · replace h := (if_pos c30).symm.trans h
          refine xr_ifCond_eq_p i_X9_lot_78 c30 (q := 86) t_X9_lot_78 (q2 := 81) rfl ?_
          refine xr_iconst i_X9_lot_86 (q := 87) rfl ?_
          refine xr_iadd i_X9_lot_87 (q := 88) rfl ?_
          obtain ⟨c28, h⟩ := xi_if_some h
          refine xr_iastore i_X9_lot_88 c28 (q := 89) rfl ?_
          refine xr_goto i_X9_lot_89 (q := 146) t_X9_lot_89 ?_
          exact xr_return i_X9_lot_146 rfl h
        · replace h := (if_neg c30).symm.trans h
          refine xr_ifCond_eq_n i_X9_lot_78 c30 (q := 86) t_X9_lot_78 (q2 := 81) rfl ?_
          refine xr_iload i_X9_lot_81 rfl (q := 83) rfl ?_
          refine xr_goto i_X9_lot_83 (q := 87) t_X9_lot_83 ?_
          refine xr_iadd i_X9_lot_87 (q := 88) rfl ?_
          obtain ⟨c29, h⟩ := xi_if_some h
          refine xr_iastore i_X9_lot_88 c29 (q := 89) rfl ?_
          refine xr_goto i_X9_lot_89 (q := 146) t_X9_lot_89 ?_
          exact xr_return i_X9_lot_146 rfl h
  · replace h := (if_neg c47).symm.trans h
    refine xr_if_icmp_ge_n i_X9_lot_13 c47 (q := 27) t_X9_lot_13 (q2 := 16) rfl ?_
    refine xr_aload_n i_X9_lot_16 rfl (q := 17) rfl ?_
    obtain ⟨c43, h⟩ := xi_if_some h
    obtain ⟨b44, eb44, h⟩ := xi_bind_some h
    refine xr_getR i_X9_lot_17 xfe_X9_25 c43 eb44 (q := 20) rfl ?_
    obtain ⟨x46, m45, em45, h⟩ := xi_bI_some h
    refine xr_SI i_X9_lot_20 xcse_X9_190 rfl (As := [.ref b44]) rfl (rest := []) rfl ((cc_X9_lot_190 S _ _).trans em45) (q := 23) rfl ?_
    refine xr_pop i_X9_lot_23 (q := 24) rfl ?_
    refine xr_goto i_X9_lot_24 (q := 146) t_X9_lot_24 ?_
    exact xr_return i_X9_lot_146 rfl h
set_option maxRecDepth 100000 in
theorem po_X9_lot {l : Launch} {E : xi_E} {S : xi_S} {D : va_G} {tys : List (ClassId × FieldType)} (hC : xCx E S tys) : xi_Pok l E S D vwCl tys xNs RX9 xTs cX9_lot 6 8 (P_X9_lot S) := ⟨xi_dc_ok, by rw [hC.2]; exact xfo_X9, xkio_X9, xklo_X9, xi_calls_ok (ins := .invokestatic) (List.forall_mem_cons.mpr ⟨(xc_X9_190 (sn_X9_plays hC) (by decide)), List.forall_mem_cons.mpr ⟨(xc_X9_193 (sn_X9_mayMove hC) (by decide)), fun _ h => absurd h List.not_mem_nil⟩⟩), xi_calls_ok (ins := .invokevirtual) (fun _ h => absurd h List.not_mem_nil)⟩
theorem sn_X9_lot {l : Launch} {E : xi_E} {S : xi_S} {D : va_G} {tys : List (ClassId × FieldType)} (hC : xCx E S tys) : ∀ As m1 r m2, F_X9_lot S As m1 = some (r, m2) → xi_Sound l E S D vwCl tys xNs xTs yX9_lot cX9_lot 6 none 8 As m1 r m2 := by
  intro As m1 r m2 h
  unfold F_X9_lot at h
  split at h
  · exact xi_meth (P := P_X9_lot S) (by decide) hC.1 (po_X9_lot hC) (Nat.le_of_ble_eq_true rfl) rfl (xe_X9_lot _ _ _ h)
  · exact xi_no h
theorem i_X9_lots_0 : xi_dc cX9_lots 0 = some (.iload_n 1, 1) := by decide +kernel
theorem i_X9_lots_1 : xi_dc cX9_lots 1 = some (.iconst 1, 1) := by decide +kernel
theorem i_X9_lots_2 : xi_dc cX9_lots 2 = some (.bipush 20, 2) := by decide +kernel
theorem i_X9_lots_4 : xi_dc cX9_lots 4 = some (.invokestatic 63, 3) := by decide +kernel
theorem i_X9_lots_7 : xi_dc cX9_lots 7 = some (.ifCond .eq 13, 3) := by decide +kernel
theorem t_X9_lots_7 : ((7 : Nat) : Int) + 13 = ((20 : Nat) : Int) := by decide +kernel
theorem i_X9_lots_10 : xi_dc cX9_lots 10 = some (.iload_n 2, 1) := by decide +kernel
theorem i_X9_lots_11 : xi_dc cX9_lots 11 = some (.iconst 1, 1) := by decide +kernel
theorem i_X9_lots_12 : xi_dc cX9_lots 12 = some (.ldc 245, 2) := by decide +kernel
theorem i_X9_lots_14 : xi_dc cX9_lots 14 = some (.invokestatic 63, 3) := by decide +kernel
theorem i_X9_lots_17 : xi_dc cX9_lots 17 = some (.ifCond .ne 5, 3) := by decide +kernel
theorem t_X9_lots_17 : ((17 : Nat) : Int) + 5 = ((22 : Nat) : Int) := by decide +kernel
theorem i_X9_lots_20 : xi_dc cX9_lots 20 = some (.iconst (-1), 1) := by decide +kernel
theorem i_X9_lots_21 : xi_dc cX9_lots 21 = some (.ireturn, 1) := by decide +kernel
theorem i_X9_lots_22 : xi_dc cX9_lots 22 = some (.aload_n 0, 1) := by decide +kernel
theorem i_X9_lots_23 : xi_dc cX9_lots 23 = some (.invokevirtual 183, 3) := by decide +kernel
theorem i_X9_lots_26 : xi_dc cX9_lots 26 = some (.ifCond .ne 6, 3) := by decide +kernel
theorem t_X9_lots_26 : ((26 : Nat) : Int) + 6 = ((32 : Nat) : Int) := by decide +kernel
theorem i_X9_lots_29 : xi_dc cX9_lots 29 = some (.bipush (-4), 2) := by decide +kernel
theorem i_X9_lots_31 : xi_dc cX9_lots 31 = some (.ireturn, 1) := by decide +kernel
theorem i_X9_lots_32 : xi_dc cX9_lots 32 = some (.aload_n 0, 1) := by decide +kernel
theorem i_X9_lots_33 : xi_dc cX9_lots 33 = some (.getfield 125, 3) := by decide +kernel
theorem i_X9_lots_36 : xi_dc cX9_lots 36 = some (.iload_n 1, 1) := by decide +kernel
theorem i_X9_lots_37 : xi_dc cX9_lots 37 = some (.iadd, 1) := by decide +kernel
theorem i_X9_lots_38 : xi_dc cX9_lots 38 = some (.bipush 40, 2) := by decide +kernel
theorem i_X9_lots_40 : xi_dc cX9_lots 40 = some (.if_icmp .le 6, 3) := by decide +kernel
theorem t_X9_lots_40 : ((40 : Nat) : Int) + 6 = ((46 : Nat) : Int) := by decide +kernel
theorem i_X9_lots_43 : xi_dc cX9_lots 43 = some (.bipush (-2), 2) := by decide +kernel
theorem i_X9_lots_45 : xi_dc cX9_lots 45 = some (.ireturn, 1) := by decide +kernel
theorem i_X9_lots_46 : xi_dc cX9_lots 46 = some (.iload_n 2, 1) := by decide +kernel
theorem i_X9_lots_47 : xi_dc cX9_lots 47 = some (.i2l, 1) := by decide +kernel
theorem i_X9_lots_48 : xi_dc cX9_lots 48 = some (.lstore_n 3, 1) := by decide +kernel
theorem i_X9_lots_49 : xi_dc cX9_lots 49 = some (.iconst 0, 1) := by decide +kernel
theorem i_X9_lots_50 : xi_dc cX9_lots 50 = some (.istore 5, 2) := by decide +kernel
theorem i_X9_lots_52 : xi_dc cX9_lots 52 = some (.iload 5, 2) := by decide +kernel
theorem i_X9_lots_54 : xi_dc cX9_lots 54 = some (.iload_n 1, 1) := by decide +kernel
theorem i_X9_lots_55 : xi_dc cX9_lots 55 = some (.if_icmp .ge 28, 3) := by decide +kernel
theorem t_X9_lots_55 : ((55 : Nat) : Int) + 28 = ((83 : Nat) : Int) := by decide +kernel
theorem i_X9_lots_58 : xi_dc cX9_lots 58 = some (.lload_n 3, 1) := by decide +kernel
theorem i_X9_lots_59 : xi_dc cX9_lots 59 = some (.ldc2_w 246, 3) := by decide +kernel
theorem i_X9_lots_62 : xi_dc cX9_lots 62 = some (.lmul, 1) := by decide +kernel
theorem i_X9_lots_63 : xi_dc cX9_lots 63 = some (.ldc2_w 248, 3) := by decide +kernel
theorem i_X9_lots_66 : xi_dc cX9_lots 66 = some (.lrem, 1) := by decide +kernel
theorem i_X9_lots_67 : xi_dc cX9_lots 67 = some (.lstore_n 3, 1) := by decide +kernel
theorem i_X9_lots_68 : xi_dc cX9_lots 68 = some (.aload_n 0, 1) := by decide +kernel
theorem i_X9_lots_69 : xi_dc cX9_lots 69 = some (.invokevirtual 187, 3) := by decide +kernel
theorem i_X9_lots_72 : xi_dc cX9_lots 72 = some (.aload_n 0, 1) := by decide +kernel
theorem i_X9_lots_73 : xi_dc cX9_lots 73 = some (.lload_n 3, 1) := by decide +kernel
theorem i_X9_lots_74 : xi_dc cX9_lots 74 = some (.invokevirtual 250, 3) := by decide +kernel
theorem i_X9_lots_77 : xi_dc cX9_lots 77 = some (.iinc 5 1, 3) := by decide +kernel
theorem i_X9_lots_80 : xi_dc cX9_lots 80 = some (.goto (-28), 3) := by decide +kernel
theorem t_X9_lots_80 : ((80 : Nat) : Int) + (-28) = ((52 : Nat) : Int) := by decide +kernel
theorem i_X9_lots_83 : xi_dc cX9_lots 83 = some (.aload_n 0, 1) := by decide +kernel
theorem i_X9_lots_84 : xi_dc cX9_lots 84 = some (.getfield 25, 3) := by decide +kernel
theorem i_X9_lots_87 : xi_dc cX9_lots 87 = some (.iconst 4, 1) := by decide +kernel
theorem i_X9_lots_88 : xi_dc cX9_lots 88 = some (.iaload, 1) := by decide +kernel
theorem i_X9_lots_89 : xi_dc cX9_lots 89 = some (.aload_n 0, 1) := by decide +kernel
theorem i_X9_lots_90 : xi_dc cX9_lots 90 = some (.getfield 25, 3) := by decide +kernel
theorem i_X9_lots_93 : xi_dc cX9_lots 93 = some (.iconst 5, 1) := by decide +kernel
theorem i_X9_lots_94 : xi_dc cX9_lots 94 = some (.iaload, 1) := by decide +kernel
theorem i_X9_lots_95 : xi_dc cX9_lots 95 = some (.iadd, 1) := by decide +kernel
theorem i_X9_lots_96 : xi_dc cX9_lots 96 = some (.ireturn, 1) := by decide +kernel
def P_X9_lots (S : xi_S) : xi_P := (xi_dc cX9_lots, xi_tab xfl_X9, xi_tab xki_X9, xi_tab xkl_X9, xi_tab xcs_X9, xi_tab xcv_X9, xi_calls [(63, xi_wS 3 (F_X9_in0 S))], xi_calls [(183, xi_wV S 11 0 (F_X9_isAny S)), (187, xi_wV S 11 0 (F_X9_notes S)), (250, xi_wV S 11 1 (F_X9_lot S))], 1)
theorem cc_X9_lots_63 (S : xi_S) (a0 : Int32) (a1 : Int32) (a2 : Int32) (m : xi_M) : (P_X9_lots S).2.2.2.2.2.2.1 63 [.int a0, .int a1, .int a2] m = (E_X9_in0 S a0 a1 a2 m) := by
  show xi_calls [(63, xi_wS 3 (F_X9_in0 S))] 63 [.int a0, .int a1, .int a2] m = _
  refine Eq.trans (b := xi_wS 3 (F_X9_in0 S) [.int a0, .int a1, .int a2] m) (xi_calls_hit rfl) ?_
  exact xi_wS_eq rfl
theorem cc_X9_lots_183 (S : xi_S) (a0 : Nat) (m : xi_M) : (P_X9_lots S).2.2.2.2.2.2.2.1 183 [.ref a0] m = (if S.1 a0 = 11 then E_X9_isAny S a0 m else none) := by
  show xi_calls [(183, xi_wV S 11 0 (F_X9_isAny S)), (187, xi_wV S 11 0 (F_X9_notes S)), (250, xi_wV S 11 1 (F_X9_lot S))] 183 [.ref a0] m = _
  refine Eq.trans (b := xi_wV S 11 0 (F_X9_isAny S) [.ref a0] m) (xi_calls_hit rfl) ?_
  exact xi_wV_eq rfl
theorem cc_X9_lots_187 (S : xi_S) (a0 : Nat) (m : xi_M) : (P_X9_lots S).2.2.2.2.2.2.2.1 187 [.ref a0] m = (if S.1 a0 = 11 then E_X9_notes S a0 m else none) := by
  show xi_calls [(183, xi_wV S 11 0 (F_X9_isAny S)), (187, xi_wV S 11 0 (F_X9_notes S)), (250, xi_wV S 11 1 (F_X9_lot S))] 187 [.ref a0] m = _
  refine Eq.trans (b := xi_calls [(187, xi_wV S 11 0 (F_X9_notes S)), (250, xi_wV S 11 1 (F_X9_lot S))] 187 [.ref a0] m) (xi_calls_miss rfl) ?_
  refine Eq.trans (b := xi_wV S 11 0 (F_X9_notes S) [.ref a0] m) (xi_calls_hit rfl) ?_
  exact xi_wV_eq rfl
theorem cc_X9_lots_250 (S : xi_S) (a0 : Nat) (a1 : Int64) (m : xi_M) : (P_X9_lots S).2.2.2.2.2.2.2.1 250 [.ref a0, .long a1] m = (if S.1 a0 = 11 then E_X9_lot S a0 a1 m else none) := by
  show xi_calls [(183, xi_wV S 11 0 (F_X9_isAny S)), (187, xi_wV S 11 0 (F_X9_notes S)), (250, xi_wV S 11 1 (F_X9_lot S))] 250 [.ref a0, .long a1] m = _
  refine Eq.trans (b := xi_calls [(187, xi_wV S 11 0 (F_X9_notes S)), (250, xi_wV S 11 1 (F_X9_lot S))] 250 [.ref a0, .long a1] m) (xi_calls_miss rfl) ?_
  refine Eq.trans (b := xi_calls [(250, xi_wV S 11 1 (F_X9_lot S))] 250 [.ref a0, .long a1] m) (xi_calls_miss rfl) ?_
  refine Eq.trans (b := xi_wV S 11 1 (F_X9_lot S) [.ref a0, .long a1] m) (xi_calls_hit rfl) ?_
  exact xi_wV_eq rfl
def G_X9_lots_52 (S : xi_S) : Nat → Nat → Int32 → Int64 → Int32 → xi_M → Option xi_R
  | 0, _, _, _, _, _ => none
  | n + 1, v0, v1, v3, v5, m =>
    if v1 ≤ v5 then
      if S.1 v0 = 11 then (S.2.2 v0 5).bind fun b2 =>
        if S.1 b2 = 0 ∧ ¬ ((Int32.ofInt 4) < 0 ∨ S.2.1 b2 ≤ Int32.toNatClampNeg (Int32.ofInt 4)) then
          if S.1 v0 = 11 then (S.2.2 v0 5).bind fun b5 =>
            if S.1 b5 = 0 ∧ ¬ ((Int32.ofInt 5) < 0 ∨ S.2.1 b5 ≤ Int32.toNatClampNeg (Int32.ofInt 5)) then
              some (some (.int ((m.1 b2 (Int32.toNatClampNeg (Int32.ofInt 4))) + (m.1 b5 (Int32.toNatClampNeg (Int32.ofInt 5))))), m)
            else none
          else none
        else none
      else none
    else
      if (2147483647 : Int64) = 0 then none else
      xi_bV (if S.1 v0 = 11 then E_X9_notes S v0 m else none) fun m8 =>
      xi_bV (if S.1 v0 = 11 then E_X9_lot S v0 ((v3 * (48271 : Int64)) - (v3 * (48271 : Int64)) / (2147483647 : Int64) * (2147483647 : Int64)) m8 else none) fun m9 =>
      G_X9_lots_52 S n v0 v1 ((v3 * (48271 : Int64)) - (v3 * (48271 : Int64)) / (2147483647 : Int64) * (2147483647 : Int64)) (v5 + Int32.ofInt 1) m9
set_option maxRecDepth 100000 in
set_option maxHeartbeats 4000000 in
theorem xs_X9_lots_52 {S : xi_S} {res : xi_R} : ∀ (n : Nat) (v0 : Nat) (v1 : Int32) (v3 : Int64) (v5 : Int32) (m : xi_M), G_X9_lots_52 S n v0 v1 v3 v5 m = some res → xi_X S (P_X9_lots S) (52, [some (.ref v0), some (.int v1), none, some (.long v3), none, some (.int v5)], [], m) res := by
  intro n
  induction n with
  | zero => intro v0 v1 v3 v5 m h; exact xi_no h
  | succ n ih =>
    intro v0 v1 v3 v5 m h
    unfold G_X9_lots_52 at h
    refine xr_iload i_X9_lots_52 rfl (q := 54) rfl ?_
    refine xr_iload_n i_X9_lots_54 rfl (q := 55) rfl ?_
    by_cases c10 : v1 ≤ v5
    · replace h := (if_pos c10).symm.trans h
      refine xr_if_icmp_ge_p i_X9_lots_55 c10 (q := 83) t_X9_lots_55 (q2 := 58) rfl ?_
      refine xr_aload_n i_X9_lots_83 rfl (q := 84) rfl ?_
      obtain ⟨c1, h⟩ := xi_if_some h
      obtain ⟨b2, eb2, h⟩ := xi_bind_some h
      refine xr_getR i_X9_lots_84 xfe_X9_25 c1 eb2 (q := 87) rfl ?_
      refine xr_iconst i_X9_lots_87 (q := 88) rfl ?_
      obtain ⟨c3, h⟩ := xi_if_some h
      refine xr_iaload i_X9_lots_88 c3 (q := 89) rfl ?_
      refine xr_aload_n i_X9_lots_89 rfl (q := 90) rfl ?_
      obtain ⟨c4, h⟩ := xi_if_some h
      obtain ⟨b5, eb5, h⟩ := xi_bind_some h
      refine xr_getR i_X9_lots_90 xfe_X9_25 c4 eb5 (q := 93) rfl ?_
      refine xr_iconst i_X9_lots_93 (q := 94) rfl ?_
      obtain ⟨c6, h⟩ := xi_if_some h
      refine xr_iaload i_X9_lots_94 c6 (q := 95) rfl ?_
      refine xr_iadd i_X9_lots_95 (q := 96) rfl ?_
      exact xr_ireturn i_X9_lots_96 rfl h
    · replace h := (if_neg c10).symm.trans h
      refine xr_if_icmp_ge_n i_X9_lots_55 c10 (q := 83) t_X9_lots_55 (q2 := 58) rfl ?_
      refine xr_lload_n i_X9_lots_58 rfl (q := 59) rfl ?_
      refine xr_ldc2_w i_X9_lots_59 xkle_X9_246 (q := 62) rfl ?_
      refine xr_lmul i_X9_lots_62 (q := 63) rfl ?_
      refine xr_ldc2_w i_X9_lots_63 xkle_X9_248 (q := 66) rfl ?_
      obtain ⟨c7, h⟩ := xi_ifn_some h
      refine xr_lrem i_X9_lots_66 c7 (q := 67) rfl ?_
      refine xr_lstore_n i_X9_lots_67 rfl (L2 := [some (.ref v0), some (.int v1), none, some (.long ((v3 * (48271 : Int64)) - (v3 * (48271 : Int64)) / (2147483647 : Int64) * (2147483647 : Int64))), none, some (.int v5)]) rfl (q := 68) rfl ?_
      refine xr_aload_n i_X9_lots_68 rfl (q := 69) rfl ?_
      obtain ⟨m8, em8, h⟩ := xi_bV_some h
      refine xr_VV i_X9_lots_69 xcve_X9_187 rfl (As := [.ref v0]) rfl (rest := []) rfl ((cc_X9_lots_187 S _ _).trans em8) (q := 72) rfl ?_
      refine xr_aload_n i_X9_lots_72 rfl (q := 73) rfl ?_
      refine xr_lload_n i_X9_lots_73 rfl (q := 74) rfl ?_
      obtain ⟨m9, em9, h⟩ := xi_bV_some h
      refine xr_VV i_X9_lots_74 xcve_X9_250 rfl (As := [.ref v0, .long ((v3 * (48271 : Int64)) - (v3 * (48271 : Int64)) / (2147483647 : Int64) * (2147483647 : Int64))]) rfl (rest := []) rfl ((cc_X9_lots_250 S _ _ _).trans em9) (q := 77) rfl ?_
      refine xr_iinc i_X9_lots_77 rfl rfl (L2 := [some (.ref v0), some (.int v1), none, some (.long ((v3 * (48271 : Int64)) - (v3 * (48271 : Int64)) / (2147483647 : Int64) * (2147483647 : Int64))), none, some (.int (v5 + Int32.ofInt 1))]) rfl (q := 80) rfl ?_
      refine xr_goto i_X9_lots_80 (q := 52) t_X9_lots_80 ?_
      exact xi_X_le (xi_le_s (xi_le_s (xi_le_n (xi_le_s (xi_le_n (xi_le_s xi_le_z)))))) (ih _ _ _ _ _ h)
def E_X9_lots (S : xi_S) (v0 : Nat) (v1 : Int32) (v2 : Int32) (m : xi_M) : Option xi_R :=
  xi_bI (E_X9_in0 S v1 (Int32.ofInt 1) ((Int8.ofInt 20).toInt32) m) fun x2 m1 =>
  if x2 = 0 then
    some (some (.int (Int32.ofInt (-1))), m1)
  else
    xi_bI (E_X9_in0 S v2 (Int32.ofInt 1) (2147483646 : Int32) m1) fun x4 m3 =>
    if x4 = 0 then
      some (some (.int (Int32.ofInt (-1))), m3)
    else
      xi_bI (if S.1 v0 = 11 then E_X9_isAny S v0 m3 else none) fun x6 m5 =>
      if x6 = 0 then
        some (some (.int ((Int8.ofInt (-4)).toInt32)), m5)
      else
        if S.1 v0 = 11 then
          if ((m5.1 v0 9) + v1) ≤ ((Int8.ofInt 40).toInt32) then
            G_X9_lots_52 S 10000 v0 v1 (Int32.toInt64 v2) (Int32.ofInt 0) m5
          else
            some (some (.int ((Int8.ofInt (-2)).toInt32)), m5)
        else none
def F_X9_lots (S : xi_S) : xi_F := fun As m => match As with
  | [.ref v0, .int v1, .int v2] => E_X9_lots S v0 v1 v2 m
  | _ => none
set_option maxRecDepth 100000 in
set_option maxHeartbeats 4000000 in
theorem xe_X9_lots {S : xi_S} {res : xi_R} (v0 : Nat) (v1 : Int32) (v2 : Int32) (m : xi_M) (h : E_X9_lots S v0 v1 v2 m = some res) : xi_X S (P_X9_lots S) (0, [some (.ref v0), some (.int v1), some (.int v2), none, none, none], [], m) res := by
  unfold E_X9_lots at h
  refine xr_iload_n i_X9_lots_0 rfl (q := 1) rfl ?_
  refine xr_iconst i_X9_lots_1 (q := 2) rfl ?_
  refine xr_bipush i_X9_lots_2 (q := 4) rfl ?_
  obtain ⟨x2, m1, em1, h⟩ := xi_bI_some h
  refine xr_SI i_X9_lots_4 xcse_X9_63 rfl (As := [.int v1, .int (Int32.ofInt 1), .int ((Int8.ofInt 20).toInt32)]) rfl (rest := []) rfl ((cc_X9_lots_63 S _ _ _ _).trans em1) (q := 7) rfl ?_
  by_cases c11 : x2 = 0
  · replace h := (if_pos c11).symm.trans h
    refine xr_ifCond_eq_p i_X9_lots_7 c11 (q := 20) t_X9_lots_7 (q2 := 10) rfl ?_
    refine xr_iconst i_X9_lots_20 (q := 21) rfl ?_
    exact xr_ireturn i_X9_lots_21 rfl h
  · replace h := (if_neg c11).symm.trans h
    refine xr_ifCond_eq_n i_X9_lots_7 c11 (q := 20) t_X9_lots_7 (q2 := 10) rfl ?_
    refine xr_iload_n i_X9_lots_10 rfl (q := 11) rfl ?_
    refine xr_iconst i_X9_lots_11 (q := 12) rfl ?_
    refine xr_ldc i_X9_lots_12 xkie_X9_245 (q := 14) rfl ?_
    obtain ⟨x4, m3, em3, h⟩ := xi_bI_some h
    refine xr_SI i_X9_lots_14 xcse_X9_63 rfl (As := [.int v2, .int (Int32.ofInt 1), .int (2147483646 : Int32)]) rfl (rest := []) rfl ((cc_X9_lots_63 S _ _ _ _).trans em3) (q := 17) rfl ?_
    by_cases c10 : x4 = 0
    · replace h := (if_pos c10).symm.trans h
      refine xr_ifCond_ne_p i_X9_lots_17 c10 (q := 22) t_X9_lots_17 (q2 := 20) rfl ?_
      refine xr_iconst i_X9_lots_20 (q := 21) rfl ?_
      exact xr_ireturn i_X9_lots_21 rfl h
    · replace h := (if_neg c10).symm.trans h
      refine xr_ifCond_ne_n i_X9_lots_17 c10 (q := 22) t_X9_lots_17 (q2 := 20) rfl ?_
      refine xr_aload_n i_X9_lots_22 rfl (q := 23) rfl ?_
      obtain ⟨x6, m5, em5, h⟩ := xi_bI_some h
      refine xr_VI i_X9_lots_23 xcve_X9_183 rfl (As := [.ref v0]) rfl (rest := []) rfl ((cc_X9_lots_183 S _ _).trans em5) (q := 26) rfl ?_
      by_cases c9 : x6 = 0
      · replace h := (if_pos c9).symm.trans h
        refine xr_ifCond_ne_p i_X9_lots_26 c9 (q := 32) t_X9_lots_26 (q2 := 29) rfl ?_
        refine xr_bipush i_X9_lots_29 (q := 31) rfl ?_
        exact xr_ireturn i_X9_lots_31 rfl h
      · replace h := (if_neg c9).symm.trans h
        refine xr_ifCond_ne_n i_X9_lots_26 c9 (q := 32) t_X9_lots_26 (q2 := 29) rfl ?_
        refine xr_aload_n i_X9_lots_32 rfl (q := 33) rfl ?_
        obtain ⟨c7, h⟩ := xi_if_some h
        refine xr_getI i_X9_lots_33 xfe_X9_125 c7 (q := 36) rfl ?_
        refine xr_iload_n i_X9_lots_36 rfl (q := 37) rfl ?_
        refine xr_iadd i_X9_lots_37 (q := 38) rfl ?_
        refine xr_bipush i_X9_lots_38 (q := 40) rfl ?_
        by_cases c8 : ((m5.1 v0 9) + v1) ≤ ((Int8.ofInt 40).toInt32)
        · replace h := (if_pos c8).symm.trans h
          refine xr_if_icmp_le_p i_X9_lots_40 c8 (q := 46) t_X9_lots_40 (q2 := 43) rfl ?_
          refine xr_iload_n i_X9_lots_46 rfl (q := 47) rfl ?_
          refine xr_i2l i_X9_lots_47 (q := 48) rfl ?_
          refine xr_lstore_n i_X9_lots_48 rfl (L2 := [some (.ref v0), some (.int v1), some (.int v2), some (.long (Int32.toInt64 v2)), none, none]) rfl (q := 49) rfl ?_
          refine xr_iconst i_X9_lots_49 (q := 50) rfl ?_
          refine xr_istore i_X9_lots_50 rfl (L2 := [some (.ref v0), some (.int v1), some (.int v2), some (.long (Int32.toInt64 v2)), none, some (.int (Int32.ofInt 0))]) rfl (q := 52) rfl ?_
          exact xi_X_le (xi_le_s (xi_le_s (xi_le_n (xi_le_s (xi_le_n (xi_le_s xi_le_z)))))) (xs_X9_lots_52 10000 _ _ _ _ _ h)
        · replace h := (if_neg c8).symm.trans h
          refine xr_if_icmp_le_n i_X9_lots_40 c8 (q := 46) t_X9_lots_40 (q2 := 43) rfl ?_
          refine xr_bipush i_X9_lots_43 (q := 45) rfl ?_
          exact xr_ireturn i_X9_lots_45 rfl h
set_option maxRecDepth 100000 in
theorem po_X9_lots {l : Launch} {E : xi_E} {S : xi_S} {D : va_G} {tys : List (ClassId × FieldType)} (hC : xCx E S tys) : xi_Pok l E S D vwCl tys xNs RX9 xTs cX9_lots 6 9 (P_X9_lots S) := ⟨xi_dc_ok, by rw [hC.2]; exact xfo_X9, xkio_X9, xklo_X9, xi_calls_ok (ins := .invokestatic) (List.forall_mem_cons.mpr ⟨(xc_X9_63 (sn_X9_in0 hC) (by decide)), fun _ h => absurd h List.not_mem_nil⟩), xi_calls_ok (ins := .invokevirtual) (List.forall_mem_cons.mpr ⟨(xc_X9_183 hC.1 (sn_X9_isAny hC) (by decide)), List.forall_mem_cons.mpr ⟨(xc_X9_187 hC.1 (sn_X9_notes hC) (by decide)), List.forall_mem_cons.mpr ⟨(xc_X9_250 hC.1 (sn_X9_lot hC) (by decide)), fun _ h => absurd h List.not_mem_nil⟩⟩⟩)⟩
theorem sn_X9_lots {l : Launch} {E : xi_E} {S : xi_S} {D : va_G} {tys : List (ClassId × FieldType)} (hC : xCx E S tys) : ∀ As m1 r m2, F_X9_lots S As m1 = some (r, m2) → xi_Sound l E S D vwCl tys xNs xTs yX9_lots cX9_lots 6 (some .int) 9 As m1 r m2 := by
  intro As m1 r m2 h
  unfold F_X9_lots at h
  split at h
  · exact xi_meth (P := P_X9_lots S) (by decide) hC.1 (po_X9_lots hC) (Nat.le_of_ble_eq_true rfl) rfl (xe_X9_lots _ _ _ _ h)
  · exact xi_no h
theorem i_X9_asked_0 : xi_dc cX9_asked 0 = some (.aload_n 0, 1) := by decide +kernel
theorem i_X9_asked_1 : xi_dc cX9_asked 1 = some (.getfield 60, 3) := by decide +kernel
theorem i_X9_asked_4 : xi_dc cX9_asked 4 = some (.ireturn, 1) := by decide +kernel
def P_X9_asked (S : xi_S) : xi_P := (xi_dc cX9_asked, xi_tab xfl_X9, xi_tab xki_X9, xi_tab xkl_X9, xi_tab xcs_X9, xi_tab xcv_X9, xi_calls [], xi_calls [], 1)
def E_X9_asked (S : xi_S) (v0 : Nat) (m : xi_M) : Option xi_R :=
  if S.1 v0 = 11 then
    some (some (.int (m.1 v0 15)), m)
  else none
def F_X9_asked (S : xi_S) : xi_F := fun As m => match As with
  | [.ref v0] => E_X9_asked S v0 m
  | _ => none
set_option maxRecDepth 100000 in
set_option maxHeartbeats 4000000 in
theorem xe_X9_asked {S : xi_S} {res : xi_R} (v0 : Nat) (m : xi_M) (h : E_X9_asked S v0 m = some res) : xi_X S (P_X9_asked S) (0, [some (.ref v0)], [], m) res := by
  unfold E_X9_asked at h
  refine xr_aload_n i_X9_asked_0 rfl (q := 1) rfl ?_
  obtain ⟨c1, h⟩ := xi_if_some h
  refine xr_getI i_X9_asked_1 xfe_X9_60 c1 (q := 4) rfl ?_
  exact xr_ireturn i_X9_asked_4 rfl h
set_option maxRecDepth 100000 in
theorem po_X9_asked {l : Launch} {E : xi_E} {S : xi_S} {D : va_G} {tys : List (ClassId × FieldType)} (hC : xCx E S tys) : xi_Pok l E S D vwCl tys xNs RX9 xTs cX9_asked 1 0 (P_X9_asked S) := ⟨xi_dc_ok, by rw [hC.2]; exact xfo_X9, xkio_X9, xklo_X9, xi_calls_ok (ins := .invokestatic) (fun _ h => absurd h List.not_mem_nil), xi_calls_ok (ins := .invokevirtual) (fun _ h => absurd h List.not_mem_nil)⟩
theorem sn_X9_asked {l : Launch} {E : xi_E} {S : xi_S} {D : va_G} {tys : List (ClassId × FieldType)} (hC : xCx E S tys) : ∀ As m1 r m2, F_X9_asked S As m1 = some (r, m2) → xi_Sound l E S D vwCl tys xNs xTs yX9_asked cX9_asked 1 (some .int) 0 As m1 r m2 := by
  intro As m1 r m2 h
  unfold F_X9_asked at h
  split at h
  · exact xi_meth (P := P_X9_asked S) (by decide) hC.1 (po_X9_asked hC) (Nat.le_of_ble_eq_true rfl) rfl (xe_X9_asked _ _ h)
  · exact xi_no h
theorem i_X9_upper_0 : xi_dc cX9_upper 0 = some (.aload_n 0, 1) := by decide +kernel
theorem i_X9_upper_1 : xi_dc cX9_upper 1 = some (.getfield 214, 3) := by decide +kernel
theorem i_X9_upper_4 : xi_dc cX9_upper 4 = some (.lreturn, 1) := by decide +kernel
def P_X9_upper (S : xi_S) : xi_P := (xi_dc cX9_upper, xi_tab xfl_X9, xi_tab xki_X9, xi_tab xkl_X9, xi_tab xcs_X9, xi_tab xcv_X9, xi_calls [], xi_calls [], 3)
def E_X9_upper (S : xi_S) (v0 : Nat) (m : xi_M) : Option xi_R :=
  if S.1 v0 = 11 then
    some (some (.long (m.2 v0 16)), m)
  else none
def F_X9_upper (S : xi_S) : xi_F := fun As m => match As with
  | [.ref v0] => E_X9_upper S v0 m
  | _ => none
set_option maxRecDepth 100000 in
set_option maxHeartbeats 4000000 in
theorem xe_X9_upper {S : xi_S} {res : xi_R} (v0 : Nat) (m : xi_M) (h : E_X9_upper S v0 m = some res) : xi_X S (P_X9_upper S) (0, [some (.ref v0)], [], m) res := by
  unfold E_X9_upper at h
  refine xr_aload_n i_X9_upper_0 rfl (q := 1) rfl ?_
  obtain ⟨c1, h⟩ := xi_if_some h
  refine xr_getJ i_X9_upper_1 xfe_X9_214 c1 (q := 4) rfl ?_
  exact xr_lreturn i_X9_upper_4 rfl h
set_option maxRecDepth 100000 in
theorem po_X9_upper {l : Launch} {E : xi_E} {S : xi_S} {D : va_G} {tys : List (ClassId × FieldType)} (hC : xCx E S tys) : xi_Pok l E S D vwCl tys xNs RX9 xTs cX9_upper 1 0 (P_X9_upper S) := ⟨xi_dc_ok, by rw [hC.2]; exact xfo_X9, xkio_X9, xklo_X9, xi_calls_ok (ins := .invokestatic) (fun _ h => absurd h List.not_mem_nil), xi_calls_ok (ins := .invokevirtual) (fun _ h => absurd h List.not_mem_nil)⟩
theorem sn_X9_upper {l : Launch} {E : xi_E} {S : xi_S} {D : va_G} {tys : List (ClassId × FieldType)} (hC : xCx E S tys) : ∀ As m1 r m2, F_X9_upper S As m1 = some (r, m2) → xi_Sound l E S D vwCl tys xNs xTs yX9_upper cX9_upper 1 (some .long) 0 As m1 r m2 := by
  intro As m1 r m2 h
  unfold F_X9_upper at h
  split at h
  · exact xi_meth (P := P_X9_upper S) (by decide) hC.1 (po_X9_upper hC) (Nat.le_of_ble_eq_true rfl) rfl (xe_X9_upper _ _ h)
  · exact xi_no h
theorem i_X9_lower_0 : xi_dc cX9_lower 0 = some (.aload_n 0, 1) := by decide +kernel
theorem i_X9_lower_1 : xi_dc cX9_lower 1 = some (.getfield 49, 3) := by decide +kernel
theorem i_X9_lower_4 : xi_dc cX9_lower 4 = some (.lreturn, 1) := by decide +kernel
def P_X9_lower (S : xi_S) : xi_P := (xi_dc cX9_lower, xi_tab xfl_X9, xi_tab xki_X9, xi_tab xkl_X9, xi_tab xcs_X9, xi_tab xcv_X9, xi_calls [], xi_calls [], 3)
def E_X9_lower (S : xi_S) (v0 : Nat) (m : xi_M) : Option xi_R :=
  if S.1 v0 = 11 then
    some (some (.long (m.2 v0 17)), m)
  else none
def F_X9_lower (S : xi_S) : xi_F := fun As m => match As with
  | [.ref v0] => E_X9_lower S v0 m
  | _ => none
set_option maxRecDepth 100000 in
set_option maxHeartbeats 4000000 in
theorem xe_X9_lower {S : xi_S} {res : xi_R} (v0 : Nat) (m : xi_M) (h : E_X9_lower S v0 m = some res) : xi_X S (P_X9_lower S) (0, [some (.ref v0)], [], m) res := by
  unfold E_X9_lower at h
  refine xr_aload_n i_X9_lower_0 rfl (q := 1) rfl ?_
  obtain ⟨c1, h⟩ := xi_if_some h
  refine xr_getJ i_X9_lower_1 xfe_X9_49 c1 (q := 4) rfl ?_
  exact xr_lreturn i_X9_lower_4 rfl h
set_option maxRecDepth 100000 in
theorem po_X9_lower {l : Launch} {E : xi_E} {S : xi_S} {D : va_G} {tys : List (ClassId × FieldType)} (hC : xCx E S tys) : xi_Pok l E S D vwCl tys xNs RX9 xTs cX9_lower 1 0 (P_X9_lower S) := ⟨xi_dc_ok, by rw [hC.2]; exact xfo_X9, xkio_X9, xklo_X9, xi_calls_ok (ins := .invokestatic) (fun _ h => absurd h List.not_mem_nil), xi_calls_ok (ins := .invokevirtual) (fun _ h => absurd h List.not_mem_nil)⟩
theorem sn_X9_lower {l : Launch} {E : xi_E} {S : xi_S} {D : va_G} {tys : List (ClassId × FieldType)} (hC : xCx E S tys) : ∀ As m1 r m2, F_X9_lower S As m1 = some (r, m2) → xi_Sound l E S D vwCl tys xNs xTs yX9_lower cX9_lower 1 (some .long) 0 As m1 r m2 := by
  intro As m1 r m2 h
  unfold F_X9_lower at h
  split at h
  · exact xi_meth (P := P_X9_lower S) (by decide) hC.1 (po_X9_lower hC) (Nat.le_of_ble_eq_true rfl) rfl (xe_X9_lower _ _ h)
  · exact xi_no h
theorem i_X9_kindsThere_0 : xi_dc cX9_kindsThere 0 = some (.iconst 0, 1) := by decide +kernel
theorem i_X9_kindsThere_1 : xi_dc cX9_kindsThere 1 = some (.istore_n 2, 1) := by decide +kernel
theorem i_X9_kindsThere_2 : xi_dc cX9_kindsThere 2 = some (.iconst 0, 1) := by decide +kernel
theorem i_X9_kindsThere_3 : xi_dc cX9_kindsThere 3 = some (.istore_n 3, 1) := by decide +kernel
theorem i_X9_kindsThere_4 : xi_dc cX9_kindsThere 4 = some (.iload_n 3, 1) := by decide +kernel
theorem i_X9_kindsThere_5 : xi_dc cX9_kindsThere 5 = some (.aload_n 0, 1) := by decide +kernel
theorem i_X9_kindsThere_6 : xi_dc cX9_kindsThere 6 = some (.getfield 25, 3) := by decide +kernel
theorem i_X9_kindsThere_9 : xi_dc cX9_kindsThere 9 = some (.iconst 1, 1) := by decide +kernel
theorem i_X9_kindsThere_10 : xi_dc cX9_kindsThere 10 = some (.iaload, 1) := by decide +kernel
theorem i_X9_kindsThere_11 : xi_dc cX9_kindsThere 11 = some (.if_icmp .ge 35, 3) := by decide +kernel
theorem t_X9_kindsThere_11 : ((11 : Nat) : Int) + 35 = ((46 : Nat) : Int) := by decide +kernel
theorem i_X9_kindsThere_14 : xi_dc cX9_kindsThere 14 = some (.iload_n 2, 1) := by decide +kernel
theorem i_X9_kindsThere_15 : xi_dc cX9_kindsThere 15 = some (.aload_n 0, 1) := by decide +kernel
theorem i_X9_kindsThere_16 : xi_dc cX9_kindsThere 16 = some (.getfield 25, 3) := by decide +kernel
theorem i_X9_kindsThere_19 : xi_dc cX9_kindsThere 19 = some (.bipush 10, 2) := by decide +kernel
theorem i_X9_kindsThere_21 : xi_dc cX9_kindsThere 21 = some (.iconst 4, 1) := by decide +kernel
theorem i_X9_kindsThere_22 : xi_dc cX9_kindsThere 22 = some (.iload_n 3, 1) := by decide +kernel
theorem i_X9_kindsThere_23 : xi_dc cX9_kindsThere 23 = some (.imul, 1) := by decide +kernel
theorem i_X9_kindsThere_24 : xi_dc cX9_kindsThere 24 = some (.iadd, 1) := by decide +kernel
theorem i_X9_kindsThere_25 : xi_dc cX9_kindsThere 25 = some (.iaload, 1) := by decide +kernel
theorem i_X9_kindsThere_26 : xi_dc cX9_kindsThere 26 = some (.iload_n 1, 1) := by decide +kernel
theorem i_X9_kindsThere_27 : xi_dc cX9_kindsThere 27 = some (.invokestatic 173, 3) := by decide +kernel
theorem i_X9_kindsThere_30 : xi_dc cX9_kindsThere 30 = some (.ifCond .eq 7, 3) := by decide +kernel
theorem t_X9_kindsThere_30 : ((30 : Nat) : Int) + 7 = ((37 : Nat) : Int) := by decide +kernel
theorem i_X9_kindsThere_33 : xi_dc cX9_kindsThere 33 = some (.iconst 1, 1) := by decide +kernel
theorem i_X9_kindsThere_34 : xi_dc cX9_kindsThere 34 = some (.goto 4, 3) := by decide +kernel
theorem t_X9_kindsThere_34 : ((34 : Nat) : Int) + 4 = ((38 : Nat) : Int) := by decide +kernel
theorem i_X9_kindsThere_37 : xi_dc cX9_kindsThere 37 = some (.iconst 0, 1) := by decide +kernel
theorem i_X9_kindsThere_38 : xi_dc cX9_kindsThere 38 = some (.iadd, 1) := by decide +kernel
theorem i_X9_kindsThere_39 : xi_dc cX9_kindsThere 39 = some (.istore_n 2, 1) := by decide +kernel
theorem i_X9_kindsThere_40 : xi_dc cX9_kindsThere 40 = some (.iinc 3 1, 3) := by decide +kernel
theorem i_X9_kindsThere_43 : xi_dc cX9_kindsThere 43 = some (.goto (-39), 3) := by decide +kernel
theorem t_X9_kindsThere_43 : ((43 : Nat) : Int) + (-39) = ((4 : Nat) : Int) := by decide +kernel
theorem i_X9_kindsThere_46 : xi_dc cX9_kindsThere 46 = some (.iload_n 2, 1) := by decide +kernel
theorem i_X9_kindsThere_47 : xi_dc cX9_kindsThere 47 = some (.ireturn, 1) := by decide +kernel
def P_X9_kindsThere (S : xi_S) : xi_P := (xi_dc cX9_kindsThere, xi_tab xfl_X9, xi_tab xki_X9, xi_tab xkl_X9, xi_tab xcs_X9, xi_tab xcv_X9, xi_calls [(173, xi_wS 2 (F_X9_isOf S))], xi_calls [], 1)
theorem cc_X9_kindsThere_173 (S : xi_S) (a0 : Int32) (a1 : Int32) (m : xi_M) : (P_X9_kindsThere S).2.2.2.2.2.2.1 173 [.int a0, .int a1] m = (E_X9_isOf S a0 a1 m) := by
  show xi_calls [(173, xi_wS 2 (F_X9_isOf S))] 173 [.int a0, .int a1] m = _
  refine Eq.trans (b := xi_wS 2 (F_X9_isOf S) [.int a0, .int a1] m) (xi_calls_hit rfl) ?_
  exact xi_wS_eq rfl
def G_X9_kindsThere_4 (S : xi_S) : Nat → Nat → Int32 → Int32 → Int32 → xi_M → Option xi_R
  | 0, _, _, _, _, _ => none
  | n + 1, v0, v1, v2, v3, m =>
    if S.1 v0 = 11 then (S.2.2 v0 5).bind fun b2 =>
      if S.1 b2 = 0 ∧ ¬ ((Int32.ofInt 1) < 0 ∨ S.2.1 b2 ≤ Int32.toNatClampNeg (Int32.ofInt 1)) then
        if (m.1 b2 (Int32.toNatClampNeg (Int32.ofInt 1))) ≤ v3 then
          some (some (.int v2), m)
        else
          if S.1 v0 = 11 then (S.2.2 v0 5).bind fun b5 =>
            if S.1 b5 = 0 ∧ ¬ ((((Int8.ofInt 10).toInt32) + ((Int32.ofInt 4) * v3)) < 0 ∨ S.2.1 b5 ≤ Int32.toNatClampNeg (((Int8.ofInt 10).toInt32) + ((Int32.ofInt 4) * v3))) then
              xi_bI (E_X9_isOf S (m.1 b5 (Int32.toNatClampNeg (((Int8.ofInt 10).toInt32) + ((Int32.ofInt 4) * v3)))) v1 m) fun x8 m7 =>
              if x8 = 0 then
                G_X9_kindsThere_4 S n v0 v1 (v2 + (Int32.ofInt 0)) (v3 + Int32.ofInt 1) m7
              else
                G_X9_kindsThere_4 S n v0 v1 (v2 + (Int32.ofInt 1)) (v3 + Int32.ofInt 1) m7
            else none
          else none
      else none
    else none
set_option maxRecDepth 100000 in
set_option maxHeartbeats 4000000 in
theorem xs_X9_kindsThere_4 {S : xi_S} {res : xi_R} : ∀ (n : Nat) (v0 : Nat) (v1 : Int32) (v2 : Int32) (v3 : Int32) (m : xi_M), G_X9_kindsThere_4 S n v0 v1 v2 v3 m = some res → xi_X S (P_X9_kindsThere S) (4, [some (.ref v0), some (.int v1), some (.int v2), some (.int v3)], [], m) res := by
  intro n
  induction n with
  | zero => intro v0 v1 v2 v3 m h; exact xi_no h
  | succ n ih =>
    intro v0 v1 v2 v3 m h
    unfold G_X9_kindsThere_4 at h
    refine xr_iload_n i_X9_kindsThere_4 rfl (q := 5) rfl ?_
    refine xr_aload_n i_X9_kindsThere_5 rfl (q := 6) rfl ?_
    obtain ⟨c1, h⟩ := xi_if_some h
    obtain ⟨b2, eb2, h⟩ := xi_bind_some h
    refine xr_getR i_X9_kindsThere_6 xfe_X9_25 c1 eb2 (q := 9) rfl ?_
    refine xr_iconst i_X9_kindsThere_9 (q := 10) rfl ?_
    obtain ⟨c3, h⟩ := xi_if_some h
    refine xr_iaload i_X9_kindsThere_10 c3 (q := 11) rfl ?_
    by_cases c10 : (m.1 b2 (Int32.toNatClampNeg (Int32.ofInt 1))) ≤ v3
    · replace h := (if_pos c10).symm.trans h
      refine xr_if_icmp_ge_p i_X9_kindsThere_11 c10 (q := 46) t_X9_kindsThere_11 (q2 := 14) rfl ?_
      refine xr_iload_n i_X9_kindsThere_46 rfl (q := 47) rfl ?_
      exact xr_ireturn i_X9_kindsThere_47 rfl h
    · replace h := (if_neg c10).symm.trans h
      refine xr_if_icmp_ge_n i_X9_kindsThere_11 c10 (q := 46) t_X9_kindsThere_11 (q2 := 14) rfl ?_
      refine xr_iload_n i_X9_kindsThere_14 rfl (q := 15) rfl ?_
      refine xr_aload_n i_X9_kindsThere_15 rfl (q := 16) rfl ?_
      obtain ⟨c4, h⟩ := xi_if_some h
      obtain ⟨b5, eb5, h⟩ := xi_bind_some h
      refine xr_getR i_X9_kindsThere_16 xfe_X9_25 c4 eb5 (q := 19) rfl ?_
      refine xr_bipush i_X9_kindsThere_19 (q := 21) rfl ?_
      refine xr_iconst i_X9_kindsThere_21 (q := 22) rfl ?_
      refine xr_iload_n i_X9_kindsThere_22 rfl (q := 23) rfl ?_
      refine xr_imul i_X9_kindsThere_23 (q := 24) rfl ?_
      refine xr_iadd i_X9_kindsThere_24 (q := 25) rfl ?_
      obtain ⟨c6, h⟩ := xi_if_some h
      refine xr_iaload i_X9_kindsThere_25 c6 (q := 26) rfl ?_
      refine xr_iload_n i_X9_kindsThere_26 rfl (q := 27) rfl ?_
      obtain ⟨x8, m7, em7, h⟩ := xi_bI_some h
      refine xr_SI i_X9_kindsThere_27 xcse_X9_173 rfl (As := [.int (m.1 b5 (Int32.toNatClampNeg (((Int8.ofInt 10).toInt32) + ((Int32.ofInt 4) * v3)))), .int v1]) rfl (rest := [.int v2]) rfl ((cc_X9_kindsThere_173 S _ _ _).trans em7) (q := 30) rfl ?_
      by_cases c9 : x8 = 0
      · replace h := (if_pos c9).symm.trans h
        refine xr_ifCond_eq_p i_X9_kindsThere_30 c9 (q := 37) t_X9_kindsThere_30 (q2 := 33) rfl ?_
        refine xr_iconst i_X9_kindsThere_37 (q := 38) rfl ?_
        refine xr_iadd i_X9_kindsThere_38 (q := 39) rfl ?_
        refine xr_istore_n i_X9_kindsThere_39 rfl (L2 := [some (.ref v0), some (.int v1), some (.int (v2 + (Int32.ofInt 0))), some (.int v3)]) rfl (q := 40) rfl ?_
        refine xr_iinc i_X9_kindsThere_40 rfl rfl (L2 := [some (.ref v0), some (.int v1), some (.int (v2 + (Int32.ofInt 0))), some (.int (v3 + Int32.ofInt 1))]) rfl (q := 43) rfl ?_
        refine xr_goto i_X9_kindsThere_43 (q := 4) t_X9_kindsThere_43 ?_
        exact xi_X_le (xi_le_s (xi_le_s (xi_le_s (xi_le_s xi_le_z)))) (ih _ _ _ _ _ h)
      · replace h := (if_neg c9).symm.trans h
        refine xr_ifCond_eq_n i_X9_kindsThere_30 c9 (q := 37) t_X9_kindsThere_30 (q2 := 33) rfl ?_
        refine xr_iconst i_X9_kindsThere_33 (q := 34) rfl ?_
        refine xr_goto i_X9_kindsThere_34 (q := 38) t_X9_kindsThere_34 ?_
        refine xr_iadd i_X9_kindsThere_38 (q := 39) rfl ?_
        refine xr_istore_n i_X9_kindsThere_39 rfl (L2 := [some (.ref v0), some (.int v1), some (.int (v2 + (Int32.ofInt 1))), some (.int v3)]) rfl (q := 40) rfl ?_
        refine xr_iinc i_X9_kindsThere_40 rfl rfl (L2 := [some (.ref v0), some (.int v1), some (.int (v2 + (Int32.ofInt 1))), some (.int (v3 + Int32.ofInt 1))]) rfl (q := 43) rfl ?_
        refine xr_goto i_X9_kindsThere_43 (q := 4) t_X9_kindsThere_43 ?_
        exact xi_X_le (xi_le_s (xi_le_s (xi_le_s (xi_le_s xi_le_z)))) (ih _ _ _ _ _ h)
def E_X9_kindsThere (S : xi_S) (v0 : Nat) (v1 : Int32) (m : xi_M) : Option xi_R :=
  G_X9_kindsThere_4 S 10000 v0 v1 (Int32.ofInt 0) (Int32.ofInt 0) m
def F_X9_kindsThere (S : xi_S) : xi_F := fun As m => match As with
  | [.ref v0, .int v1] => E_X9_kindsThere S v0 v1 m
  | _ => none
set_option maxRecDepth 100000 in
set_option maxHeartbeats 4000000 in
theorem xe_X9_kindsThere {S : xi_S} {res : xi_R} (v0 : Nat) (v1 : Int32) (m : xi_M) (h : E_X9_kindsThere S v0 v1 m = some res) : xi_X S (P_X9_kindsThere S) (0, [some (.ref v0), some (.int v1), none, none], [], m) res := by
  unfold E_X9_kindsThere at h
  refine xr_iconst i_X9_kindsThere_0 (q := 1) rfl ?_
  refine xr_istore_n i_X9_kindsThere_1 rfl (L2 := [some (.ref v0), some (.int v1), some (.int (Int32.ofInt 0)), none]) rfl (q := 2) rfl ?_
  refine xr_iconst i_X9_kindsThere_2 (q := 3) rfl ?_
  refine xr_istore_n i_X9_kindsThere_3 rfl (L2 := [some (.ref v0), some (.int v1), some (.int (Int32.ofInt 0)), some (.int (Int32.ofInt 0))]) rfl (q := 4) rfl ?_
  exact xi_X_le (xi_le_s (xi_le_s (xi_le_s (xi_le_s xi_le_z)))) (xs_X9_kindsThere_4 10000 _ _ _ _ _ h)
set_option maxRecDepth 100000 in
theorem po_X9_kindsThere {l : Launch} {E : xi_E} {S : xi_S} {D : va_G} {tys : List (ClassId × FieldType)} (hC : xCx E S tys) : xi_Pok l E S D vwCl tys xNs RX9 xTs cX9_kindsThere 4 1 (P_X9_kindsThere S) := ⟨xi_dc_ok, by rw [hC.2]; exact xfo_X9, xkio_X9, xklo_X9, xi_calls_ok (ins := .invokestatic) (List.forall_mem_cons.mpr ⟨(xc_X9_173 (sn_X9_isOf hC) (by decide)), fun _ h => absurd h List.not_mem_nil⟩), xi_calls_ok (ins := .invokevirtual) (fun _ h => absurd h List.not_mem_nil)⟩
theorem sn_X9_kindsThere {l : Launch} {E : xi_E} {S : xi_S} {D : va_G} {tys : List (ClassId × FieldType)} (hC : xCx E S tys) : ∀ As m1 r m2, F_X9_kindsThere S As m1 = some (r, m2) → xi_Sound l E S D vwCl tys xNs xTs yX9_kindsThere cX9_kindsThere 4 (some .int) 1 As m1 r m2 := by
  intro As m1 r m2 h
  unfold F_X9_kindsThere at h
  split at h
  · exact xi_meth (P := P_X9_kindsThere S) (by decide) hC.1 (po_X9_kindsThere hC) (Nat.le_of_ble_eq_true rfl) rfl (xe_X9_kindsThere _ _ _ h)
  · exact xi_no h
theorem i_X9_there_0 : xi_dc cX9_there 0 = some (.iconst 0, 1) := by decide +kernel
theorem i_X9_there_1 : xi_dc cX9_there 1 = some (.istore_n 1, 1) := by decide +kernel
theorem i_X9_there_2 : xi_dc cX9_there 2 = some (.iconst 0, 1) := by decide +kernel
theorem i_X9_there_3 : xi_dc cX9_there 3 = some (.istore_n 2, 1) := by decide +kernel
theorem i_X9_there_4 : xi_dc cX9_there 4 = some (.iload_n 2, 1) := by decide +kernel
theorem i_X9_there_5 : xi_dc cX9_there 5 = some (.aload_n 0, 1) := by decide +kernel
theorem i_X9_there_6 : xi_dc cX9_there 6 = some (.arraylength, 1) := by decide +kernel
theorem i_X9_there_7 : xi_dc cX9_there 7 = some (.if_icmp .ge 25, 3) := by decide +kernel
theorem t_X9_there_7 : ((7 : Nat) : Int) + 25 = ((32 : Nat) : Int) := by decide +kernel
theorem i_X9_there_10 : xi_dc cX9_there 10 = some (.iload_n 1, 1) := by decide +kernel
theorem i_X9_there_11 : xi_dc cX9_there 11 = some (.aload_n 0, 1) := by decide +kernel
theorem i_X9_there_12 : xi_dc cX9_there 12 = some (.iload_n 2, 1) := by decide +kernel
theorem i_X9_there_13 : xi_dc cX9_there 13 = some (.iaload, 1) := by decide +kernel
theorem i_X9_there_14 : xi_dc cX9_there 14 = some (.bipush (-9), 2) := by decide +kernel
theorem i_X9_there_16 : xi_dc cX9_there 16 = some (.if_icmp .ne 7, 3) := by decide +kernel
theorem t_X9_there_16 : ((16 : Nat) : Int) + 7 = ((23 : Nat) : Int) := by decide +kernel
theorem i_X9_there_19 : xi_dc cX9_there 19 = some (.iconst 0, 1) := by decide +kernel
theorem i_X9_there_20 : xi_dc cX9_there 20 = some (.goto 4, 3) := by decide +kernel
theorem t_X9_there_20 : ((20 : Nat) : Int) + 4 = ((24 : Nat) : Int) := by decide +kernel
theorem i_X9_there_23 : xi_dc cX9_there 23 = some (.iconst 1, 1) := by decide +kernel
theorem i_X9_there_24 : xi_dc cX9_there 24 = some (.iadd, 1) := by decide +kernel
theorem i_X9_there_25 : xi_dc cX9_there 25 = some (.istore_n 1, 1) := by decide +kernel
theorem i_X9_there_26 : xi_dc cX9_there 26 = some (.iinc 2 1, 3) := by decide +kernel
theorem i_X9_there_29 : xi_dc cX9_there 29 = some (.goto (-25), 3) := by decide +kernel
theorem t_X9_there_29 : ((29 : Nat) : Int) + (-25) = ((4 : Nat) : Int) := by decide +kernel
theorem i_X9_there_32 : xi_dc cX9_there 32 = some (.iload_n 1, 1) := by decide +kernel
theorem i_X9_there_33 : xi_dc cX9_there 33 = some (.ireturn, 1) := by decide +kernel
def P_X9_there (S : xi_S) : xi_P := (xi_dc cX9_there, xi_tab xfl_X9, xi_tab xki_X9, xi_tab xkl_X9, xi_tab xcs_X9, xi_tab xcv_X9, xi_calls [], xi_calls [], 1)
def G_X9_there_4 (S : xi_S) : Nat → Nat → Int32 → Int32 → xi_M → Option xi_R
  | 0, _, _, _, _ => none
  | n + 1, v0, v1, v2, m =>
    if S.1 v0 = 0 ∨ S.1 v0 = 1 ∨ S.1 v0 = 2 then
      if (Int32.ofNat (S.2.1 v0)) ≤ v2 then
        some (some (.int v1), m)
      else
        if S.1 v0 = 0 ∧ ¬ (v2 < 0 ∨ S.2.1 v0 ≤ Int32.toNatClampNeg v2) then
          if (m.1 v0 (Int32.toNatClampNeg v2)) = ((Int8.ofInt (-9)).toInt32) then
            G_X9_there_4 S n v0 (v1 + (Int32.ofInt 0)) (v2 + Int32.ofInt 1) m
          else
            G_X9_there_4 S n v0 (v1 + (Int32.ofInt 1)) (v2 + Int32.ofInt 1) m
        else none
    else none
set_option maxRecDepth 100000 in
set_option maxHeartbeats 4000000 in
theorem xs_X9_there_4 {S : xi_S} {res : xi_R} : ∀ (n : Nat) (v0 : Nat) (v1 : Int32) (v2 : Int32) (m : xi_M), G_X9_there_4 S n v0 v1 v2 m = some res → xi_X S (P_X9_there S) (4, [some (.ref v0), some (.int v1), some (.int v2)], [], m) res := by
  intro n
  induction n with
  | zero => intro v0 v1 v2 m h; exact xi_no h
  | succ n ih =>
    intro v0 v1 v2 m h
    unfold G_X9_there_4 at h
    refine xr_iload_n i_X9_there_4 rfl (q := 5) rfl ?_
    refine xr_aload_n i_X9_there_5 rfl (q := 6) rfl ?_
    obtain ⟨c1, h⟩ := xi_if_some h
    refine xr_alen i_X9_there_6 c1 (q := 7) rfl ?_
    by_cases c4 : (Int32.ofNat (S.2.1 v0)) ≤ v2
    · replace h := (if_pos c4).symm.trans h
      refine xr_if_icmp_ge_p i_X9_there_7 c4 (q := 32) t_X9_there_7 (q2 := 10) rfl ?_
      refine xr_iload_n i_X9_there_32 rfl (q := 33) rfl ?_
      exact xr_ireturn i_X9_there_33 rfl h
    · replace h := (if_neg c4).symm.trans h
      refine xr_if_icmp_ge_n i_X9_there_7 c4 (q := 32) t_X9_there_7 (q2 := 10) rfl ?_
      refine xr_iload_n i_X9_there_10 rfl (q := 11) rfl ?_
      refine xr_aload_n i_X9_there_11 rfl (q := 12) rfl ?_
      refine xr_iload_n i_X9_there_12 rfl (q := 13) rfl ?_
      obtain ⟨c2, h⟩ := xi_if_some h
      refine xr_iaload i_X9_there_13 c2 (q := 14) rfl ?_
      refine xr_bipush i_X9_there_14 (q := 16) rfl ?_
      by_cases c3 : (m.1 v0 (Int32.toNatClampNeg v2)) = ((Int8.ofInt (-9)).toInt32)
      · replace h := (if_pos c3).symm.trans h
        refine xr_if_icmp_ne_p i_X9_there_16 c3 (q := 23) t_X9_there_16 (q2 := 19) rfl ?_
        refine xr_iconst i_X9_there_19 (q := 20) rfl ?_
        refine xr_goto i_X9_there_20 (q := 24) t_X9_there_20 ?_
        refine xr_iadd i_X9_there_24 (q := 25) rfl ?_
        refine xr_istore_n i_X9_there_25 rfl (L2 := [some (.ref v0), some (.int (v1 + (Int32.ofInt 0))), some (.int v2)]) rfl (q := 26) rfl ?_
        refine xr_iinc i_X9_there_26 rfl rfl (L2 := [some (.ref v0), some (.int (v1 + (Int32.ofInt 0))), some (.int (v2 + Int32.ofInt 1))]) rfl (q := 29) rfl ?_
        refine xr_goto i_X9_there_29 (q := 4) t_X9_there_29 ?_
        exact xi_X_le (xi_le_s (xi_le_s (xi_le_s xi_le_z))) (ih _ _ _ _ h)
      · replace h := (if_neg c3).symm.trans h
        refine xr_if_icmp_ne_n i_X9_there_16 c3 (q := 23) t_X9_there_16 (q2 := 19) rfl ?_
        refine xr_iconst i_X9_there_23 (q := 24) rfl ?_
        refine xr_iadd i_X9_there_24 (q := 25) rfl ?_
        refine xr_istore_n i_X9_there_25 rfl (L2 := [some (.ref v0), some (.int (v1 + (Int32.ofInt 1))), some (.int v2)]) rfl (q := 26) rfl ?_
        refine xr_iinc i_X9_there_26 rfl rfl (L2 := [some (.ref v0), some (.int (v1 + (Int32.ofInt 1))), some (.int (v2 + Int32.ofInt 1))]) rfl (q := 29) rfl ?_
        refine xr_goto i_X9_there_29 (q := 4) t_X9_there_29 ?_
        exact xi_X_le (xi_le_s (xi_le_s (xi_le_s xi_le_z))) (ih _ _ _ _ h)
def E_X9_there (S : xi_S) (v0 : Nat) (m : xi_M) : Option xi_R :=
  G_X9_there_4 S 10000 v0 (Int32.ofInt 0) (Int32.ofInt 0) m
def F_X9_there (S : xi_S) : xi_F := fun As m => match As with
  | [.ref v0] => E_X9_there S v0 m
  | _ => none
set_option maxRecDepth 100000 in
set_option maxHeartbeats 4000000 in
theorem xe_X9_there {S : xi_S} {res : xi_R} (v0 : Nat) (m : xi_M) (h : E_X9_there S v0 m = some res) : xi_X S (P_X9_there S) (0, [some (.ref v0), none, none], [], m) res := by
  unfold E_X9_there at h
  refine xr_iconst i_X9_there_0 (q := 1) rfl ?_
  refine xr_istore_n i_X9_there_1 rfl (L2 := [some (.ref v0), some (.int (Int32.ofInt 0)), none]) rfl (q := 2) rfl ?_
  refine xr_iconst i_X9_there_2 (q := 3) rfl ?_
  refine xr_istore_n i_X9_there_3 rfl (L2 := [some (.ref v0), some (.int (Int32.ofInt 0)), some (.int (Int32.ofInt 0))]) rfl (q := 4) rfl ?_
  exact xi_X_le (xi_le_s (xi_le_s (xi_le_s xi_le_z))) (xs_X9_there_4 10000 _ _ _ _ h)
set_option maxRecDepth 100000 in
theorem po_X9_there {l : Launch} {E : xi_E} {S : xi_S} {D : va_G} {tys : List (ClassId × FieldType)} (hC : xCx E S tys) : xi_Pok l E S D vwCl tys xNs RX9 xTs cX9_there 3 0 (P_X9_there S) := ⟨xi_dc_ok, by rw [hC.2]; exact xfo_X9, xkio_X9, xklo_X9, xi_calls_ok (ins := .invokestatic) (fun _ h => absurd h List.not_mem_nil), xi_calls_ok (ins := .invokevirtual) (fun _ h => absurd h List.not_mem_nil)⟩
theorem sn_X9_there {l : Launch} {E : xi_E} {S : xi_S} {D : va_G} {tys : List (ClassId × FieldType)} (hC : xCx E S tys) : ∀ As m1 r m2, F_X9_there S As m1 = some (r, m2) → xi_Sound l E S D vwCl tys xNs xTs yX9_there cX9_there 3 (some .int) 0 As m1 r m2 := by
  intro As m1 r m2 h
  unfold F_X9_there at h
  split at h
  · exact xi_meth (P := P_X9_there S) (by decide) hC.1 (po_X9_there hC) (Nat.le_of_ble_eq_true rfl) rfl (xe_X9_there _ _ h)
  · exact xi_no h
theorem i_X9_count_0 : xi_dc cX9_count 0 = some (.iload_n 1, 1) := by decide +kernel
theorem i_X9_count_1 : xi_dc cX9_count 1 = some (.tableswitch 172 0 15 #[79, 86, 93, 100, 105, 112, 112, 112, 112, 124, 124, 136, 142, 148, 156, 164], 79) := by decide +kernel
theorem i_X9_count_80 : xi_dc cX9_count 80 = some (.aload_n 0, 1) := by decide +kernel
theorem i_X9_count_81 : xi_dc cX9_count 81 = some (.getfield 25, 3) := by decide +kernel
theorem i_X9_count_84 : xi_dc cX9_count 84 = some (.iconst 1, 1) := by decide +kernel
theorem i_X9_count_85 : xi_dc cX9_count 85 = some (.iaload, 1) := by decide +kernel
theorem i_X9_count_86 : xi_dc cX9_count 86 = some (.ireturn, 1) := by decide +kernel
theorem i_X9_count_87 : xi_dc cX9_count 87 = some (.aload_n 0, 1) := by decide +kernel
theorem i_X9_count_88 : xi_dc cX9_count 88 = some (.getfield 25, 3) := by decide +kernel
theorem i_X9_count_91 : xi_dc cX9_count 91 = some (.iconst 0, 1) := by decide +kernel
theorem i_X9_count_92 : xi_dc cX9_count 92 = some (.iaload, 1) := by decide +kernel
theorem i_X9_count_93 : xi_dc cX9_count 93 = some (.ireturn, 1) := by decide +kernel
theorem i_X9_count_94 : xi_dc cX9_count 94 = some (.aload_n 0, 1) := by decide +kernel
theorem i_X9_count_95 : xi_dc cX9_count 95 = some (.getfield 25, 3) := by decide +kernel
theorem i_X9_count_98 : xi_dc cX9_count 98 = some (.iconst 2, 1) := by decide +kernel
theorem i_X9_count_99 : xi_dc cX9_count 99 = some (.iaload, 1) := by decide +kernel
theorem i_X9_count_100 : xi_dc cX9_count 100 = some (.ireturn, 1) := by decide +kernel
theorem i_X9_count_101 : xi_dc cX9_count 101 = some (.aload_n 0, 1) := by decide +kernel
theorem i_X9_count_102 : xi_dc cX9_count 102 = some (.getfield 125, 3) := by decide +kernel
theorem i_X9_count_105 : xi_dc cX9_count 105 = some (.ireturn, 1) := by decide +kernel
theorem i_X9_count_106 : xi_dc cX9_count 106 = some (.aload_n 0, 1) := by decide +kernel
theorem i_X9_count_107 : xi_dc cX9_count 107 = some (.getfield 25, 3) := by decide +kernel
theorem i_X9_count_110 : xi_dc cX9_count 110 = some (.iconst 3, 1) := by decide +kernel
theorem i_X9_count_111 : xi_dc cX9_count 111 = some (.iaload, 1) := by decide +kernel
theorem i_X9_count_112 : xi_dc cX9_count 112 = some (.ireturn, 1) := by decide +kernel
theorem i_X9_count_113 : xi_dc cX9_count 113 = some (.aload_n 0, 1) := by decide +kernel
theorem i_X9_count_114 : xi_dc cX9_count 114 = some (.getfield 25, 3) := by decide +kernel
theorem i_X9_count_117 : xi_dc cX9_count 117 = some (.bipush 6, 2) := by decide +kernel
theorem i_X9_count_119 : xi_dc cX9_count 119 = some (.iload_n 1, 1) := by decide +kernel
theorem i_X9_count_120 : xi_dc cX9_count 120 = some (.iadd, 1) := by decide +kernel
theorem i_X9_count_121 : xi_dc cX9_count 121 = some (.iconst 5, 1) := by decide +kernel
theorem i_X9_count_122 : xi_dc cX9_count 122 = some (.isub, 1) := by decide +kernel
theorem i_X9_count_123 : xi_dc cX9_count 123 = some (.iaload, 1) := by decide +kernel
theorem i_X9_count_124 : xi_dc cX9_count 124 = some (.ireturn, 1) := by decide +kernel
theorem i_X9_count_125 : xi_dc cX9_count 125 = some (.aload_n 0, 1) := by decide +kernel
theorem i_X9_count_126 : xi_dc cX9_count 126 = some (.getfield 25, 3) := by decide +kernel
theorem i_X9_count_129 : xi_dc cX9_count 129 = some (.iconst 4, 1) := by decide +kernel
theorem i_X9_count_130 : xi_dc cX9_count 130 = some (.iload_n 1, 1) := by decide +kernel
theorem i_X9_count_131 : xi_dc cX9_count 131 = some (.iadd, 1) := by decide +kernel
theorem i_X9_count_132 : xi_dc cX9_count 132 = some (.bipush 9, 2) := by decide +kernel
theorem i_X9_count_134 : xi_dc cX9_count 134 = some (.isub, 1) := by decide +kernel
theorem i_X9_count_135 : xi_dc cX9_count 135 = some (.iaload, 1) := by decide +kernel
theorem i_X9_count_136 : xi_dc cX9_count 136 = some (.ireturn, 1) := by decide +kernel
theorem i_X9_count_137 : xi_dc cX9_count 137 = some (.aload_n 0, 1) := by decide +kernel
theorem i_X9_count_138 : xi_dc cX9_count 138 = some (.iconst 1, 1) := by decide +kernel
theorem i_X9_count_139 : xi_dc cX9_count 139 = some (.invokevirtual 262, 3) := by decide +kernel
theorem i_X9_count_142 : xi_dc cX9_count 142 = some (.ireturn, 1) := by decide +kernel
theorem i_X9_count_143 : xi_dc cX9_count 143 = some (.aload_n 0, 1) := by decide +kernel
theorem i_X9_count_144 : xi_dc cX9_count 144 = some (.iconst 2, 1) := by decide +kernel
theorem i_X9_count_145 : xi_dc cX9_count 145 = some (.invokevirtual 262, 3) := by decide +kernel
theorem i_X9_count_148 : xi_dc cX9_count 148 = some (.ireturn, 1) := by decide +kernel
theorem i_X9_count_149 : xi_dc cX9_count 149 = some (.aload_n 0, 1) := by decide +kernel
theorem i_X9_count_150 : xi_dc cX9_count 150 = some (.getfield 7, 3) := by decide +kernel
theorem i_X9_count_153 : xi_dc cX9_count 153 = some (.invokestatic 265, 3) := by decide +kernel
theorem i_X9_count_156 : xi_dc cX9_count 156 = some (.ireturn, 1) := by decide +kernel
theorem i_X9_count_157 : xi_dc cX9_count 157 = some (.aload_n 0, 1) := by decide +kernel
theorem i_X9_count_158 : xi_dc cX9_count 158 = some (.getfield 16, 3) := by decide +kernel
theorem i_X9_count_161 : xi_dc cX9_count 161 = some (.invokestatic 265, 3) := by decide +kernel
theorem i_X9_count_164 : xi_dc cX9_count 164 = some (.ireturn, 1) := by decide +kernel
theorem i_X9_count_165 : xi_dc cX9_count 165 = some (.aload_n 0, 1) := by decide +kernel
theorem i_X9_count_166 : xi_dc cX9_count 166 = some (.getfield 43, 3) := by decide +kernel
theorem i_X9_count_169 : xi_dc cX9_count 169 = some (.invokestatic 265, 3) := by decide +kernel
theorem i_X9_count_172 : xi_dc cX9_count 172 = some (.ireturn, 1) := by decide +kernel
theorem i_X9_count_173 : xi_dc cX9_count 173 = some (.iconst (-1), 1) := by decide +kernel
theorem i_X9_count_174 : xi_dc cX9_count 174 = some (.ireturn, 1) := by decide +kernel
def P_X9_count (S : xi_S) : xi_P := (xi_dc cX9_count, xi_tab xfl_X9, xi_tab xki_X9, xi_tab xkl_X9, xi_tab xcs_X9, xi_tab xcv_X9, xi_calls [(265, xi_wS 1 (F_X9_there S))], xi_calls [(262, xi_wV S 11 1 (F_X9_kindsThere S))], 1)
theorem cc_X9_count_265 (S : xi_S) (a0 : Nat) (m : xi_M) : (P_X9_count S).2.2.2.2.2.2.1 265 [.ref a0] m = (E_X9_there S a0 m) := by
  show xi_calls [(265, xi_wS 1 (F_X9_there S))] 265 [.ref a0] m = _
  refine Eq.trans (b := xi_wS 1 (F_X9_there S) [.ref a0] m) (xi_calls_hit rfl) ?_
  exact xi_wS_eq rfl
theorem cc_X9_count_262 (S : xi_S) (a0 : Nat) (a1 : Int32) (m : xi_M) : (P_X9_count S).2.2.2.2.2.2.2.1 262 [.ref a0, .int a1] m = (if S.1 a0 = 11 then E_X9_kindsThere S a0 a1 m else none) := by
  show xi_calls [(262, xi_wV S 11 1 (F_X9_kindsThere S))] 262 [.ref a0, .int a1] m = _
  refine Eq.trans (b := xi_wV S 11 1 (F_X9_kindsThere S) [.ref a0, .int a1] m) (xi_calls_hit rfl) ?_
  exact xi_wV_eq rfl
def E_X9_count (S : xi_S) (v0 : Nat) (v1 : Int32) (m : xi_M) : Option xi_R :=
  if Int32.toInt v1 = 0 then
    if S.1 v0 = 11 then (S.2.2 v0 5).bind fun b3 =>
      if S.1 b3 = 0 ∧ ¬ ((Int32.ofInt 1) < 0 ∨ S.2.1 b3 ≤ Int32.toNatClampNeg (Int32.ofInt 1)) then
        some (some (.int (m.1 b3 (Int32.toNatClampNeg (Int32.ofInt 1)))), m)
      else none
    else none
  else
    if Int32.toInt v1 = 1 then
      if S.1 v0 = 11 then (S.2.2 v0 5).bind fun b7 =>
        if S.1 b7 = 0 ∧ ¬ ((Int32.ofInt 0) < 0 ∨ S.2.1 b7 ≤ Int32.toNatClampNeg (Int32.ofInt 0)) then
          some (some (.int (m.1 b7 (Int32.toNatClampNeg (Int32.ofInt 0)))), m)
        else none
      else none
    else
      if Int32.toInt v1 = 2 then
        if S.1 v0 = 11 then (S.2.2 v0 5).bind fun b11 =>
          if S.1 b11 = 0 ∧ ¬ ((Int32.ofInt 2) < 0 ∨ S.2.1 b11 ≤ Int32.toNatClampNeg (Int32.ofInt 2)) then
            some (some (.int (m.1 b11 (Int32.toNatClampNeg (Int32.ofInt 2)))), m)
          else none
        else none
      else
        if Int32.toInt v1 = 3 then
          if S.1 v0 = 11 then
            some (some (.int (m.1 v0 9)), m)
          else none
        else
          if Int32.toInt v1 = 4 then
            if S.1 v0 = 11 then (S.2.2 v0 5).bind fun b17 =>
              if S.1 b17 = 0 ∧ ¬ ((Int32.ofInt 3) < 0 ∨ S.2.1 b17 ≤ Int32.toNatClampNeg (Int32.ofInt 3)) then
                some (some (.int (m.1 b17 (Int32.toNatClampNeg (Int32.ofInt 3)))), m)
              else none
            else none
          else
            if Int32.toInt v1 = 5 then
              if S.1 v0 = 11 then (S.2.2 v0 5).bind fun b21 =>
                if S.1 b21 = 0 ∧ ¬ (((((Int8.ofInt 6).toInt32) + v1) - (Int32.ofInt 5)) < 0 ∨ S.2.1 b21 ≤ Int32.toNatClampNeg ((((Int8.ofInt 6).toInt32) + v1) - (Int32.ofInt 5))) then
                  some (some (.int (m.1 b21 (Int32.toNatClampNeg ((((Int8.ofInt 6).toInt32) + v1) - (Int32.ofInt 5))))), m)
                else none
              else none
            else
              if Int32.toInt v1 = 6 then
                if S.1 v0 = 11 then (S.2.2 v0 5).bind fun b25 =>
                  if S.1 b25 = 0 ∧ ¬ (((((Int8.ofInt 6).toInt32) + v1) - (Int32.ofInt 5)) < 0 ∨ S.2.1 b25 ≤ Int32.toNatClampNeg ((((Int8.ofInt 6).toInt32) + v1) - (Int32.ofInt 5))) then
                    some (some (.int (m.1 b25 (Int32.toNatClampNeg ((((Int8.ofInt 6).toInt32) + v1) - (Int32.ofInt 5))))), m)
                  else none
                else none
              else
                if Int32.toInt v1 = 7 then
                  if S.1 v0 = 11 then (S.2.2 v0 5).bind fun b29 =>
                    if S.1 b29 = 0 ∧ ¬ (((((Int8.ofInt 6).toInt32) + v1) - (Int32.ofInt 5)) < 0 ∨ S.2.1 b29 ≤ Int32.toNatClampNeg ((((Int8.ofInt 6).toInt32) + v1) - (Int32.ofInt 5))) then
                      some (some (.int (m.1 b29 (Int32.toNatClampNeg ((((Int8.ofInt 6).toInt32) + v1) - (Int32.ofInt 5))))), m)
                    else none
                  else none
                else
                  if Int32.toInt v1 = 8 then
                    if S.1 v0 = 11 then (S.2.2 v0 5).bind fun b33 =>
                      if S.1 b33 = 0 ∧ ¬ (((((Int8.ofInt 6).toInt32) + v1) - (Int32.ofInt 5)) < 0 ∨ S.2.1 b33 ≤ Int32.toNatClampNeg ((((Int8.ofInt 6).toInt32) + v1) - (Int32.ofInt 5))) then
                        some (some (.int (m.1 b33 (Int32.toNatClampNeg ((((Int8.ofInt 6).toInt32) + v1) - (Int32.ofInt 5))))), m)
                      else none
                    else none
                  else
                    if Int32.toInt v1 = 9 then
                      if S.1 v0 = 11 then (S.2.2 v0 5).bind fun b37 =>
                        if S.1 b37 = 0 ∧ ¬ ((((Int32.ofInt 4) + v1) - ((Int8.ofInt 9).toInt32)) < 0 ∨ S.2.1 b37 ≤ Int32.toNatClampNeg (((Int32.ofInt 4) + v1) - ((Int8.ofInt 9).toInt32))) then
                          some (some (.int (m.1 b37 (Int32.toNatClampNeg (((Int32.ofInt 4) + v1) - ((Int8.ofInt 9).toInt32))))), m)
                        else none
                      else none
                    else
                      if Int32.toInt v1 = 10 then
                        if S.1 v0 = 11 then (S.2.2 v0 5).bind fun b41 =>
                          if S.1 b41 = 0 ∧ ¬ ((((Int32.ofInt 4) + v1) - ((Int8.ofInt 9).toInt32)) < 0 ∨ S.2.1 b41 ≤ Int32.toNatClampNeg (((Int32.ofInt 4) + v1) - ((Int8.ofInt 9).toInt32))) then
                            some (some (.int (m.1 b41 (Int32.toNatClampNeg (((Int32.ofInt 4) + v1) - ((Int8.ofInt 9).toInt32))))), m)
                          else none
                        else none
                      else
                        if Int32.toInt v1 = 11 then
                          xi_bI (if S.1 v0 = 11 then E_X9_kindsThere S v0 (Int32.ofInt 1) m else none) fun x45 m44 =>
                          some (some (.int x45), m44)
                        else
                          if Int32.toInt v1 = 12 then
                            xi_bI (if S.1 v0 = 11 then E_X9_kindsThere S v0 (Int32.ofInt 2) m else none) fun x48 m47 =>
                            some (some (.int x48), m47)
                          else
                            if Int32.toInt v1 = 13 then
                              if S.1 v0 = 11 then (S.2.2 v0 0).bind fun b51 =>
                                xi_bI (E_X9_there S b51 m) fun x53 m52 =>
                                some (some (.int x53), m52)
                              else none
                            else
                              if Int32.toInt v1 = 14 then
                                if S.1 v0 = 11 then (S.2.2 v0 2).bind fun b56 =>
                                  xi_bI (E_X9_there S b56 m) fun x58 m57 =>
                                  some (some (.int x58), m57)
                                else none
                              else
                                if Int32.toInt v1 = 15 then
                                  if S.1 v0 = 11 then (S.2.2 v0 12).bind fun b61 =>
                                    xi_bI (E_X9_there S b61 m) fun x63 m62 =>
                                    some (some (.int x63), m62)
                                  else none
                                else
                                  some (some (.int (Int32.ofInt (-1))), m)
def F_X9_count (S : xi_S) : xi_F := fun As m => match As with
  | [.ref v0, .int v1] => E_X9_count S v0 v1 m
  | _ => none
set_option maxRecDepth 100000 in
set_option maxHeartbeats 4000000 in
theorem xe_X9_count {S : xi_S} {res : xi_R} (v0 : Nat) (v1 : Int32) (m : xi_M) (h : E_X9_count S v0 v1 m = some res) : xi_X S (P_X9_count S) (0, [some (.ref v0), some (.int v1)], [], m) res := by
  unfold E_X9_count at h
  refine xr_iload_n i_X9_count_0 rfl (q := 1) rfl ?_
  by_cases c1 : Int32.toInt v1 = 0
  · replace h := (if_pos c1).symm.trans h
    refine xr_table i_X9_count_1 rfl (off := 79) (fun kk => xi_sw_hit c1) (q := 80) rfl ?_
    refine xr_aload_n i_X9_count_80 rfl (q := 81) rfl ?_
    obtain ⟨c2, h⟩ := xi_if_some h
    obtain ⟨b3, eb3, h⟩ := xi_bind_some h
    refine xr_getR i_X9_count_81 xfe_X9_25 c2 eb3 (q := 84) rfl ?_
    refine xr_iconst i_X9_count_84 (q := 85) rfl ?_
    obtain ⟨c4, h⟩ := xi_if_some h
    refine xr_iaload i_X9_count_85 c4 (q := 86) rfl ?_
    exact xr_ireturn i_X9_count_86 rfl h
  · replace h := (if_neg c1).symm.trans h
    by_cases c5 : Int32.toInt v1 = 1
    · replace h := (if_pos c5).symm.trans h
      refine xr_table i_X9_count_1 rfl (off := 86) (fun kk => (xi_sw_miss c1).trans (xi_sw_hit c5)) (q := 87) rfl ?_
      refine xr_aload_n i_X9_count_87 rfl (q := 88) rfl ?_
      obtain ⟨c6, h⟩ := xi_if_some h
      obtain ⟨b7, eb7, h⟩ := xi_bind_some h
      refine xr_getR i_X9_count_88 xfe_X9_25 c6 eb7 (q := 91) rfl ?_
      refine xr_iconst i_X9_count_91 (q := 92) rfl ?_
      obtain ⟨c8, h⟩ := xi_if_some h
      refine xr_iaload i_X9_count_92 c8 (q := 93) rfl ?_
      exact xr_ireturn i_X9_count_93 rfl h
    · replace h := (if_neg c5).symm.trans h
      by_cases c9 : Int32.toInt v1 = 2
      · replace h := (if_pos c9).symm.trans h
        refine xr_table i_X9_count_1 rfl (off := 93) (fun kk => (xi_sw_miss c1).trans ((xi_sw_miss c5).trans (xi_sw_hit c9))) (q := 94) rfl ?_
        refine xr_aload_n i_X9_count_94 rfl (q := 95) rfl ?_
        obtain ⟨c10, h⟩ := xi_if_some h
        obtain ⟨b11, eb11, h⟩ := xi_bind_some h
        refine xr_getR i_X9_count_95 xfe_X9_25 c10 eb11 (q := 98) rfl ?_
        refine xr_iconst i_X9_count_98 (q := 99) rfl ?_
        obtain ⟨c12, h⟩ := xi_if_some h
        refine xr_iaload i_X9_count_99 c12 (q := 100) rfl ?_
        exact xr_ireturn i_X9_count_100 rfl h
      · replace h := (if_neg c9).symm.trans h
        by_cases c13 : Int32.toInt v1 = 3
        · replace h := (if_pos c13).symm.trans h
          refine xr_table i_X9_count_1 rfl (off := 100) (fun kk => (xi_sw_miss c1).trans ((xi_sw_miss c5).trans ((xi_sw_miss c9).trans (xi_sw_hit c13)))) (q := 101) rfl ?_
          refine xr_aload_n i_X9_count_101 rfl (q := 102) rfl ?_
          obtain ⟨c14, h⟩ := xi_if_some h
          refine xr_getI i_X9_count_102 xfe_X9_125 c14 (q := 105) rfl ?_
          exact xr_ireturn i_X9_count_105 rfl h
        · replace h := (if_neg c13).symm.trans h
          by_cases c15 : Int32.toInt v1 = 4
          · replace h := (if_pos c15).symm.trans h
            refine xr_table i_X9_count_1 rfl (off := 105) (fun kk => (xi_sw_miss c1).trans ((xi_sw_miss c5).trans ((xi_sw_miss c9).trans ((xi_sw_miss c13).trans (xi_sw_hit c15))))) (q := 106) rfl ?_
            refine xr_aload_n i_X9_count_106 rfl (q := 107) rfl ?_
            obtain ⟨c16, h⟩ := xi_if_some h
            obtain ⟨b17, eb17, h⟩ := xi_bind_some h
            refine xr_getR i_X9_count_107 xfe_X9_25 c16 eb17 (q := 110) rfl ?_
            refine xr_iconst i_X9_count_110 (q := 111) rfl ?_
            obtain ⟨c18, h⟩ := xi_if_some h
            refine xr_iaload i_X9_count_111 c18 (q := 112) rfl ?_
            exact xr_ireturn i_X9_count_112 rfl h
          · replace h := (if_neg c15).symm.trans h
            by_cases c19 : Int32.toInt v1 = 5
            · replace h := (if_pos c19).symm.trans h
              refine xr_table i_X9_count_1 rfl (off := 112) (fun kk => (xi_sw_miss c1).trans ((xi_sw_miss c5).trans ((xi_sw_miss c9).trans ((xi_sw_miss c13).trans ((xi_sw_miss c15).trans (xi_sw_hit c19)))))) (q := 113) rfl ?_
              refine xr_aload_n i_X9_count_113 rfl (q := 114) rfl ?_
              obtain ⟨c20, h⟩ := xi_if_some h
              obtain ⟨b21, eb21, h⟩ := xi_bind_some h
              refine xr_getR i_X9_count_114 xfe_X9_25 c20 eb21 (q := 117) rfl ?_
              refine xr_bipush i_X9_count_117 (q := 119) rfl ?_
              refine xr_iload_n i_X9_count_119 rfl (q := 120) rfl ?_
              refine xr_iadd i_X9_count_120 (q := 121) rfl ?_
              refine xr_iconst i_X9_count_121 (q := 122) rfl ?_
              refine xr_isub i_X9_count_122 (q := 123) rfl ?_
              obtain ⟨c22, h⟩ := xi_if_some h
              refine xr_iaload i_X9_count_123 c22 (q := 124) rfl ?_
              exact xr_ireturn i_X9_count_124 rfl h
            · replace h := (if_neg c19).symm.trans h
              by_cases c23 : Int32.toInt v1 = 6
              · replace h := (if_pos c23).symm.trans h
                refine xr_table i_X9_count_1 rfl (off := 112) (fun kk => (xi_sw_miss c1).trans ((xi_sw_miss c5).trans ((xi_sw_miss c9).trans ((xi_sw_miss c13).trans ((xi_sw_miss c15).trans ((xi_sw_miss c19).trans (xi_sw_hit c23))))))) (q := 113) rfl ?_
                refine xr_aload_n i_X9_count_113 rfl (q := 114) rfl ?_
                obtain ⟨c24, h⟩ := xi_if_some h
                obtain ⟨b25, eb25, h⟩ := xi_bind_some h
                refine xr_getR i_X9_count_114 xfe_X9_25 c24 eb25 (q := 117) rfl ?_
                refine xr_bipush i_X9_count_117 (q := 119) rfl ?_
                refine xr_iload_n i_X9_count_119 rfl (q := 120) rfl ?_
                refine xr_iadd i_X9_count_120 (q := 121) rfl ?_
                refine xr_iconst i_X9_count_121 (q := 122) rfl ?_
                refine xr_isub i_X9_count_122 (q := 123) rfl ?_
                obtain ⟨c26, h⟩ := xi_if_some h
                refine xr_iaload i_X9_count_123 c26 (q := 124) rfl ?_
                exact xr_ireturn i_X9_count_124 rfl h
              · replace h := (if_neg c23).symm.trans h
                by_cases c27 : Int32.toInt v1 = 7
                · replace h := (if_pos c27).symm.trans h
                  refine xr_table i_X9_count_1 rfl (off := 112) (fun kk => (xi_sw_miss c1).trans ((xi_sw_miss c5).trans ((xi_sw_miss c9).trans ((xi_sw_miss c13).trans ((xi_sw_miss c15).trans ((xi_sw_miss c19).trans ((xi_sw_miss c23).trans (xi_sw_hit c27)))))))) (q := 113) rfl ?_
                  refine xr_aload_n i_X9_count_113 rfl (q := 114) rfl ?_
                  obtain ⟨c28, h⟩ := xi_if_some h
                  obtain ⟨b29, eb29, h⟩ := xi_bind_some h
                  refine xr_getR i_X9_count_114 xfe_X9_25 c28 eb29 (q := 117) rfl ?_
                  refine xr_bipush i_X9_count_117 (q := 119) rfl ?_
                  refine xr_iload_n i_X9_count_119 rfl (q := 120) rfl ?_
                  refine xr_iadd i_X9_count_120 (q := 121) rfl ?_
                  refine xr_iconst i_X9_count_121 (q := 122) rfl ?_
                  refine xr_isub i_X9_count_122 (q := 123) rfl ?_
                  obtain ⟨c30, h⟩ := xi_if_some h
                  refine xr_iaload i_X9_count_123 c30 (q := 124) rfl ?_
                  exact xr_ireturn i_X9_count_124 rfl h
                · replace h := (if_neg c27).symm.trans h
                  by_cases c31 : Int32.toInt v1 = 8
                  · replace h := (if_pos c31).symm.trans h
                    refine xr_table i_X9_count_1 rfl (off := 112) (fun kk => (xi_sw_miss c1).trans ((xi_sw_miss c5).trans ((xi_sw_miss c9).trans ((xi_sw_miss c13).trans ((xi_sw_miss c15).trans ((xi_sw_miss c19).trans ((xi_sw_miss c23).trans ((xi_sw_miss c27).trans (xi_sw_hit c31))))))))) (q := 113) rfl ?_
                    refine xr_aload_n i_X9_count_113 rfl (q := 114) rfl ?_
                    obtain ⟨c32, h⟩ := xi_if_some h
                    obtain ⟨b33, eb33, h⟩ := xi_bind_some h
                    refine xr_getR i_X9_count_114 xfe_X9_25 c32 eb33 (q := 117) rfl ?_
                    refine xr_bipush i_X9_count_117 (q := 119) rfl ?_
                    refine xr_iload_n i_X9_count_119 rfl (q := 120) rfl ?_
                    refine xr_iadd i_X9_count_120 (q := 121) rfl ?_
                    refine xr_iconst i_X9_count_121 (q := 122) rfl ?_
                    refine xr_isub i_X9_count_122 (q := 123) rfl ?_
                    obtain ⟨c34, h⟩ := xi_if_some h
                    refine xr_iaload i_X9_count_123 c34 (q := 124) rfl ?_
                    exact xr_ireturn i_X9_count_124 rfl h
                  · replace h := (if_neg c31).symm.trans h
                    by_cases c35 : Int32.toInt v1 = 9
                    · replace h := (if_pos c35).symm.trans h
                      refine xr_table i_X9_count_1 rfl (off := 124) (fun kk => (xi_sw_miss c1).trans ((xi_sw_miss c5).trans ((xi_sw_miss c9).trans ((xi_sw_miss c13).trans ((xi_sw_miss c15).trans ((xi_sw_miss c19).trans ((xi_sw_miss c23).trans ((xi_sw_miss c27).trans ((xi_sw_miss c31).trans (xi_sw_hit c35)))))))))) (q := 125) rfl ?_
                      refine xr_aload_n i_X9_count_125 rfl (q := 126) rfl ?_
                      obtain ⟨c36, h⟩ := xi_if_some h
                      obtain ⟨b37, eb37, h⟩ := xi_bind_some h
                      refine xr_getR i_X9_count_126 xfe_X9_25 c36 eb37 (q := 129) rfl ?_
                      refine xr_iconst i_X9_count_129 (q := 130) rfl ?_
                      refine xr_iload_n i_X9_count_130 rfl (q := 131) rfl ?_
                      refine xr_iadd i_X9_count_131 (q := 132) rfl ?_
                      refine xr_bipush i_X9_count_132 (q := 134) rfl ?_
                      refine xr_isub i_X9_count_134 (q := 135) rfl ?_
                      obtain ⟨c38, h⟩ := xi_if_some h
                      refine xr_iaload i_X9_count_135 c38 (q := 136) rfl ?_
                      exact xr_ireturn i_X9_count_136 rfl h
                    · replace h := (if_neg c35).symm.trans h
                      by_cases c39 : Int32.toInt v1 = 10
                      · replace h := (if_pos c39).symm.trans h
                        refine xr_table i_X9_count_1 rfl (off := 124) (fun kk => (xi_sw_miss c1).trans ((xi_sw_miss c5).trans ((xi_sw_miss c9).trans ((xi_sw_miss c13).trans ((xi_sw_miss c15).trans ((xi_sw_miss c19).trans ((xi_sw_miss c23).trans ((xi_sw_miss c27).trans ((xi_sw_miss c31).trans ((xi_sw_miss c35).trans (xi_sw_hit c39))))))))))) (q := 125) rfl ?_
                        refine xr_aload_n i_X9_count_125 rfl (q := 126) rfl ?_
                        obtain ⟨c40, h⟩ := xi_if_some h
                        obtain ⟨b41, eb41, h⟩ := xi_bind_some h
                        refine xr_getR i_X9_count_126 xfe_X9_25 c40 eb41 (q := 129) rfl ?_
                        refine xr_iconst i_X9_count_129 (q := 130) rfl ?_
                        refine xr_iload_n i_X9_count_130 rfl (q := 131) rfl ?_
                        refine xr_iadd i_X9_count_131 (q := 132) rfl ?_
                        refine xr_bipush i_X9_count_132 (q := 134) rfl ?_
                        refine xr_isub i_X9_count_134 (q := 135) rfl ?_
                        obtain ⟨c42, h⟩ := xi_if_some h
                        refine xr_iaload i_X9_count_135 c42 (q := 136) rfl ?_
                        exact xr_ireturn i_X9_count_136 rfl h
                      · replace h := (if_neg c39).symm.trans h
                        by_cases c43 : Int32.toInt v1 = 11
                        · replace h := (if_pos c43).symm.trans h
                          refine xr_table i_X9_count_1 rfl (off := 136) (fun kk => (xi_sw_miss c1).trans ((xi_sw_miss c5).trans ((xi_sw_miss c9).trans ((xi_sw_miss c13).trans ((xi_sw_miss c15).trans ((xi_sw_miss c19).trans ((xi_sw_miss c23).trans ((xi_sw_miss c27).trans ((xi_sw_miss c31).trans ((xi_sw_miss c35).trans ((xi_sw_miss c39).trans (xi_sw_hit c43)))))))))))) (q := 137) rfl ?_
                          refine xr_aload_n i_X9_count_137 rfl (q := 138) rfl ?_
                          refine xr_iconst i_X9_count_138 (q := 139) rfl ?_
                          obtain ⟨x45, m44, em44, h⟩ := xi_bI_some h
                          refine xr_VI i_X9_count_139 xcve_X9_262 rfl (As := [.ref v0, .int (Int32.ofInt 1)]) rfl (rest := []) rfl ((cc_X9_count_262 S _ _ _).trans em44) (q := 142) rfl ?_
                          exact xr_ireturn i_X9_count_142 rfl h
                        · replace h := (if_neg c43).symm.trans h
                          by_cases c46 : Int32.toInt v1 = 12
                          · replace h := (if_pos c46).symm.trans h
                            refine xr_table i_X9_count_1 rfl (off := 142) (fun kk => (xi_sw_miss c1).trans ((xi_sw_miss c5).trans ((xi_sw_miss c9).trans ((xi_sw_miss c13).trans ((xi_sw_miss c15).trans ((xi_sw_miss c19).trans ((xi_sw_miss c23).trans ((xi_sw_miss c27).trans ((xi_sw_miss c31).trans ((xi_sw_miss c35).trans ((xi_sw_miss c39).trans ((xi_sw_miss c43).trans (xi_sw_hit c46))))))))))))) (q := 143) rfl ?_
                            refine xr_aload_n i_X9_count_143 rfl (q := 144) rfl ?_
                            refine xr_iconst i_X9_count_144 (q := 145) rfl ?_
                            obtain ⟨x48, m47, em47, h⟩ := xi_bI_some h
                            refine xr_VI i_X9_count_145 xcve_X9_262 rfl (As := [.ref v0, .int (Int32.ofInt 2)]) rfl (rest := []) rfl ((cc_X9_count_262 S _ _ _).trans em47) (q := 148) rfl ?_
                            exact xr_ireturn i_X9_count_148 rfl h
                          · replace h := (if_neg c46).symm.trans h
                            by_cases c49 : Int32.toInt v1 = 13
                            · replace h := (if_pos c49).symm.trans h
                              refine xr_table i_X9_count_1 rfl (off := 148) (fun kk => (xi_sw_miss c1).trans ((xi_sw_miss c5).trans ((xi_sw_miss c9).trans ((xi_sw_miss c13).trans ((xi_sw_miss c15).trans ((xi_sw_miss c19).trans ((xi_sw_miss c23).trans ((xi_sw_miss c27).trans ((xi_sw_miss c31).trans ((xi_sw_miss c35).trans ((xi_sw_miss c39).trans ((xi_sw_miss c43).trans ((xi_sw_miss c46).trans (xi_sw_hit c49)))))))))))))) (q := 149) rfl ?_
                              refine xr_aload_n i_X9_count_149 rfl (q := 150) rfl ?_
                              obtain ⟨c50, h⟩ := xi_if_some h
                              obtain ⟨b51, eb51, h⟩ := xi_bind_some h
                              refine xr_getR i_X9_count_150 xfe_X9_7 c50 eb51 (q := 153) rfl ?_
                              obtain ⟨x53, m52, em52, h⟩ := xi_bI_some h
                              refine xr_SI i_X9_count_153 xcse_X9_265 rfl (As := [.ref b51]) rfl (rest := []) rfl ((cc_X9_count_265 S _ _).trans em52) (q := 156) rfl ?_
                              exact xr_ireturn i_X9_count_156 rfl h
                            · replace h := (if_neg c49).symm.trans h
                              by_cases c54 : Int32.toInt v1 = 14
                              · replace h := (if_pos c54).symm.trans h
                                refine xr_table i_X9_count_1 rfl (off := 156) (fun kk => (xi_sw_miss c1).trans ((xi_sw_miss c5).trans ((xi_sw_miss c9).trans ((xi_sw_miss c13).trans ((xi_sw_miss c15).trans ((xi_sw_miss c19).trans ((xi_sw_miss c23).trans ((xi_sw_miss c27).trans ((xi_sw_miss c31).trans ((xi_sw_miss c35).trans ((xi_sw_miss c39).trans ((xi_sw_miss c43).trans ((xi_sw_miss c46).trans ((xi_sw_miss c49).trans (xi_sw_hit c54))))))))))))))) (q := 157) rfl ?_
                                refine xr_aload_n i_X9_count_157 rfl (q := 158) rfl ?_
                                obtain ⟨c55, h⟩ := xi_if_some h
                                obtain ⟨b56, eb56, h⟩ := xi_bind_some h
                                refine xr_getR i_X9_count_158 xfe_X9_16 c55 eb56 (q := 161) rfl ?_
                                obtain ⟨x58, m57, em57, h⟩ := xi_bI_some h
                                refine xr_SI i_X9_count_161 xcse_X9_265 rfl (As := [.ref b56]) rfl (rest := []) rfl ((cc_X9_count_265 S _ _).trans em57) (q := 164) rfl ?_
                                exact xr_ireturn i_X9_count_164 rfl h
                              · replace h := (if_neg c54).symm.trans h
                                by_cases c59 : Int32.toInt v1 = 15
                                · replace h := (if_pos c59).symm.trans h
                                  refine xr_table i_X9_count_1 rfl (off := 164) (fun kk => (xi_sw_miss c1).trans ((xi_sw_miss c5).trans ((xi_sw_miss c9).trans ((xi_sw_miss c13).trans ((xi_sw_miss c15).trans ((xi_sw_miss c19).trans ((xi_sw_miss c23).trans ((xi_sw_miss c27).trans ((xi_sw_miss c31).trans ((xi_sw_miss c35).trans ((xi_sw_miss c39).trans ((xi_sw_miss c43).trans ((xi_sw_miss c46).trans ((xi_sw_miss c49).trans ((xi_sw_miss c54).trans (xi_sw_hit c59)))))))))))))))) (q := 165) rfl ?_
                                  refine xr_aload_n i_X9_count_165 rfl (q := 166) rfl ?_
                                  obtain ⟨c60, h⟩ := xi_if_some h
                                  obtain ⟨b61, eb61, h⟩ := xi_bind_some h
                                  refine xr_getR i_X9_count_166 xfe_X9_43 c60 eb61 (q := 169) rfl ?_
                                  obtain ⟨x63, m62, em62, h⟩ := xi_bI_some h
                                  refine xr_SI i_X9_count_169 xcse_X9_265 rfl (As := [.ref b61]) rfl (rest := []) rfl ((cc_X9_count_265 S _ _).trans em62) (q := 172) rfl ?_
                                  exact xr_ireturn i_X9_count_172 rfl h
                                · replace h := (if_neg c59).symm.trans h
                                  refine xr_table i_X9_count_1 rfl (off := 172) (fun kk => (xi_sw_miss c1).trans ((xi_sw_miss c5).trans ((xi_sw_miss c9).trans ((xi_sw_miss c13).trans ((xi_sw_miss c15).trans ((xi_sw_miss c19).trans ((xi_sw_miss c23).trans ((xi_sw_miss c27).trans ((xi_sw_miss c31).trans ((xi_sw_miss c35).trans ((xi_sw_miss c39).trans ((xi_sw_miss c43).trans ((xi_sw_miss c46).trans ((xi_sw_miss c49).trans ((xi_sw_miss c54).trans ((xi_sw_miss c59).trans (rfl))))))))))))))))) (q := 173) rfl ?_
                                  refine xr_iconst i_X9_count_173 (q := 174) rfl ?_
                                  exact xr_ireturn i_X9_count_174 rfl h
set_option maxRecDepth 100000 in
theorem po_X9_count {l : Launch} {E : xi_E} {S : xi_S} {D : va_G} {tys : List (ClassId × FieldType)} (hC : xCx E S tys) : xi_Pok l E S D vwCl tys xNs RX9 xTs cX9_count 2 2 (P_X9_count S) := ⟨xi_dc_ok, by rw [hC.2]; exact xfo_X9, xkio_X9, xklo_X9, xi_calls_ok (ins := .invokestatic) (List.forall_mem_cons.mpr ⟨(xc_X9_265 (sn_X9_there hC) (by decide)), fun _ h => absurd h List.not_mem_nil⟩), xi_calls_ok (ins := .invokevirtual) (List.forall_mem_cons.mpr ⟨(xc_X9_262 hC.1 (sn_X9_kindsThere hC) (by decide)), fun _ h => absurd h List.not_mem_nil⟩)⟩
theorem sn_X9_count {l : Launch} {E : xi_E} {S : xi_S} {D : va_G} {tys : List (ClassId × FieldType)} (hC : xCx E S tys) : ∀ As m1 r m2, F_X9_count S As m1 = some (r, m2) → xi_Sound l E S D vwCl tys xNs xTs yX9_count cX9_count 2 (some .int) 2 As m1 r m2 := by
  intro As m1 r m2 h
  unfold F_X9_count at h
  split at h
  · exact xi_meth (P := P_X9_count S) (by decide) hC.1 (po_X9_count hC) (Nat.le_of_ble_eq_true rfl) rfl (xe_X9_count _ _ _ h)
  · exact xi_no h
theorem i_X9_finding_0 : xi_dc cX9_finding 0 = some (.aload_n 0, 1) := by decide +kernel
theorem i_X9_finding_1 : xi_dc cX9_finding 1 = some (.getfield 56, 3) := by decide +kernel
theorem i_X9_finding_4 : xi_dc cX9_finding 4 = some (.ireturn, 1) := by decide +kernel
def P_X9_finding (S : xi_S) : xi_P := (xi_dc cX9_finding, xi_tab xfl_X9, xi_tab xki_X9, xi_tab xkl_X9, xi_tab xcs_X9, xi_tab xcv_X9, xi_calls [], xi_calls [], 1)
def E_X9_finding (S : xi_S) (v0 : Nat) (m : xi_M) : Option xi_R :=
  if S.1 v0 = 11 then
    some (some (.int (m.1 v0 13)), m)
  else none
def F_X9_finding (S : xi_S) : xi_F := fun As m => match As with
  | [.ref v0] => E_X9_finding S v0 m
  | _ => none
set_option maxRecDepth 100000 in
set_option maxHeartbeats 4000000 in
theorem xe_X9_finding {S : xi_S} {res : xi_R} (v0 : Nat) (m : xi_M) (h : E_X9_finding S v0 m = some res) : xi_X S (P_X9_finding S) (0, [some (.ref v0)], [], m) res := by
  unfold E_X9_finding at h
  refine xr_aload_n i_X9_finding_0 rfl (q := 1) rfl ?_
  obtain ⟨c1, h⟩ := xi_if_some h
  refine xr_getI i_X9_finding_1 xfe_X9_56 c1 (q := 4) rfl ?_
  exact xr_ireturn i_X9_finding_4 rfl h
set_option maxRecDepth 100000 in
theorem po_X9_finding {l : Launch} {E : xi_E} {S : xi_S} {D : va_G} {tys : List (ClassId × FieldType)} (hC : xCx E S tys) : xi_Pok l E S D vwCl tys xNs RX9 xTs cX9_finding 1 0 (P_X9_finding S) := ⟨xi_dc_ok, by rw [hC.2]; exact xfo_X9, xkio_X9, xklo_X9, xi_calls_ok (ins := .invokestatic) (fun _ h => absurd h List.not_mem_nil), xi_calls_ok (ins := .invokevirtual) (fun _ h => absurd h List.not_mem_nil)⟩
theorem sn_X9_finding {l : Launch} {E : xi_E} {S : xi_S} {D : va_G} {tys : List (ClassId × FieldType)} (hC : xCx E S tys) : ∀ As m1 r m2, F_X9_finding S As m1 = some (r, m2) → xi_Sound l E S D vwCl tys xNs xTs yX9_finding cX9_finding 1 (some .int) 0 As m1 r m2 := by
  intro As m1 r m2 h
  unfold F_X9_finding at h
  split at h
  · exact xi_meth (P := P_X9_finding S) (by decide) hC.1 (po_X9_finding hC) (Nat.le_of_ble_eq_true rfl) rfl (xe_X9_finding _ _ h)
  · exact xi_no h
theorem i_X9_findings_0 : xi_dc cX9_findings 0 = some (.iload_n 1, 1) := by decide +kernel
theorem i_X9_findings_1 : xi_dc cX9_findings 1 = some (.iconst 1, 1) := by decide +kernel
theorem i_X9_findings_2 : xi_dc cX9_findings 2 = some (.iconst 5, 1) := by decide +kernel
theorem i_X9_findings_3 : xi_dc cX9_findings 3 = some (.invokestatic 63, 3) := by decide +kernel
theorem i_X9_findings_6 : xi_dc cX9_findings 6 = some (.ifCond .eq 12, 3) := by decide +kernel
theorem t_X9_findings_6 : ((6 : Nat) : Int) + 12 = ((18 : Nat) : Int) := by decide +kernel
theorem i_X9_findings_9 : xi_dc cX9_findings 9 = some (.aload_n 0, 1) := by decide +kernel
theorem i_X9_findings_10 : xi_dc cX9_findings 10 = some (.getfield 46, 3) := by decide +kernel
theorem i_X9_findings_13 : xi_dc cX9_findings 13 = some (.iload_n 1, 1) := by decide +kernel
theorem i_X9_findings_14 : xi_dc cX9_findings 14 = some (.iaload, 1) := by decide +kernel
theorem i_X9_findings_15 : xi_dc cX9_findings 15 = some (.goto 4, 3) := by decide +kernel
theorem t_X9_findings_15 : ((15 : Nat) : Int) + 4 = ((19 : Nat) : Int) := by decide +kernel
theorem i_X9_findings_18 : xi_dc cX9_findings 18 = some (.iconst (-1), 1) := by decide +kernel
theorem i_X9_findings_19 : xi_dc cX9_findings 19 = some (.ireturn, 1) := by decide +kernel
def P_X9_findings (S : xi_S) : xi_P := (xi_dc cX9_findings, xi_tab xfl_X9, xi_tab xki_X9, xi_tab xkl_X9, xi_tab xcs_X9, xi_tab xcv_X9, xi_calls [(63, xi_wS 3 (F_X9_in0 S))], xi_calls [], 1)
theorem cc_X9_findings_63 (S : xi_S) (a0 : Int32) (a1 : Int32) (a2 : Int32) (m : xi_M) : (P_X9_findings S).2.2.2.2.2.2.1 63 [.int a0, .int a1, .int a2] m = (E_X9_in0 S a0 a1 a2 m) := by
  show xi_calls [(63, xi_wS 3 (F_X9_in0 S))] 63 [.int a0, .int a1, .int a2] m = _
  refine Eq.trans (b := xi_wS 3 (F_X9_in0 S) [.int a0, .int a1, .int a2] m) (xi_calls_hit rfl) ?_
  exact xi_wS_eq rfl
def E_X9_findings (S : xi_S) (v0 : Nat) (v1 : Int32) (m : xi_M) : Option xi_R :=
  xi_bI (E_X9_in0 S v1 (Int32.ofInt 1) (Int32.ofInt 5) m) fun x2 m1 =>
  if x2 = 0 then
    some (some (.int (Int32.ofInt (-1))), m1)
  else
    if S.1 v0 = 11 then (S.2.2 v0 14).bind fun b4 =>
      if S.1 b4 = 0 ∧ ¬ (v1 < 0 ∨ S.2.1 b4 ≤ Int32.toNatClampNeg v1) then
        some (some (.int (m1.1 b4 (Int32.toNatClampNeg v1))), m1)
      else none
    else none
def F_X9_findings (S : xi_S) : xi_F := fun As m => match As with
  | [.ref v0, .int v1] => E_X9_findings S v0 v1 m
  | _ => none
set_option maxRecDepth 100000 in
set_option maxHeartbeats 4000000 in
theorem xe_X9_findings {S : xi_S} {res : xi_R} (v0 : Nat) (v1 : Int32) (m : xi_M) (h : E_X9_findings S v0 v1 m = some res) : xi_X S (P_X9_findings S) (0, [some (.ref v0), some (.int v1)], [], m) res := by
  unfold E_X9_findings at h
  refine xr_iload_n i_X9_findings_0 rfl (q := 1) rfl ?_
  refine xr_iconst i_X9_findings_1 (q := 2) rfl ?_
  refine xr_iconst i_X9_findings_2 (q := 3) rfl ?_
  obtain ⟨x2, m1, em1, h⟩ := xi_bI_some h
  refine xr_SI i_X9_findings_3 xcse_X9_63 rfl (As := [.int v1, .int (Int32.ofInt 1), .int (Int32.ofInt 5)]) rfl (rest := []) rfl ((cc_X9_findings_63 S _ _ _ _).trans em1) (q := 6) rfl ?_
  by_cases c6 : x2 = 0
  · replace h := (if_pos c6).symm.trans h
    refine xr_ifCond_eq_p i_X9_findings_6 c6 (q := 18) t_X9_findings_6 (q2 := 9) rfl ?_
    refine xr_iconst i_X9_findings_18 (q := 19) rfl ?_
    exact xr_ireturn i_X9_findings_19 rfl h
  · replace h := (if_neg c6).symm.trans h
    refine xr_ifCond_eq_n i_X9_findings_6 c6 (q := 18) t_X9_findings_6 (q2 := 9) rfl ?_
    refine xr_aload_n i_X9_findings_9 rfl (q := 10) rfl ?_
    obtain ⟨c3, h⟩ := xi_if_some h
    obtain ⟨b4, eb4, h⟩ := xi_bind_some h
    refine xr_getR i_X9_findings_10 xfe_X9_46 c3 eb4 (q := 13) rfl ?_
    refine xr_iload_n i_X9_findings_13 rfl (q := 14) rfl ?_
    obtain ⟨c5, h⟩ := xi_if_some h
    refine xr_iaload i_X9_findings_14 c5 (q := 15) rfl ?_
    refine xr_goto i_X9_findings_15 (q := 19) t_X9_findings_15 ?_
    exact xr_ireturn i_X9_findings_19 rfl h
set_option maxRecDepth 100000 in
theorem po_X9_findings {l : Launch} {E : xi_E} {S : xi_S} {D : va_G} {tys : List (ClassId × FieldType)} (hC : xCx E S tys) : xi_Pok l E S D vwCl tys xNs RX9 xTs cX9_findings 2 1 (P_X9_findings S) := ⟨xi_dc_ok, by rw [hC.2]; exact xfo_X9, xkio_X9, xklo_X9, xi_calls_ok (ins := .invokestatic) (List.forall_mem_cons.mpr ⟨(xc_X9_63 (sn_X9_in0 hC) (by decide)), fun _ h => absurd h List.not_mem_nil⟩), xi_calls_ok (ins := .invokevirtual) (fun _ h => absurd h List.not_mem_nil)⟩
theorem sn_X9_findings {l : Launch} {E : xi_E} {S : xi_S} {D : va_G} {tys : List (ClassId × FieldType)} (hC : xCx E S tys) : ∀ As m1 r m2, F_X9_findings S As m1 = some (r, m2) → xi_Sound l E S D vwCl tys xNs xTs yX9_findings cX9_findings 2 (some .int) 1 As m1 r m2 := by
  intro As m1 r m2 h
  unfold F_X9_findings at h
  split at h
  · exact xi_meth (P := P_X9_findings S) (by decide) hC.1 (po_X9_findings hC) (Nat.le_of_ble_eq_true rfl) rfl (xe_X9_findings _ _ _ h)
  · exact xi_no h
theorem i_X9_summed_0 : xi_dc cX9_summed 0 = some (.lload_n 0, 1) := by decide +kernel
theorem i_X9_summed_1 : xi_dc cX9_summed 1 = some (.lstore 5, 2) := by decide +kernel
theorem i_X9_summed_3 : xi_dc cX9_summed 3 = some (.iconst 0, 1) := by decide +kernel
theorem i_X9_summed_4 : xi_dc cX9_summed 4 = some (.istore 7, 2) := by decide +kernel
theorem i_X9_summed_6 : xi_dc cX9_summed 6 = some (.iload 7, 2) := by decide +kernel
theorem i_X9_summed_8 : xi_dc cX9_summed 8 = some (.aload_n 2, 1) := by decide +kernel
theorem i_X9_summed_9 : xi_dc cX9_summed 9 = some (.arraylength, 1) := by decide +kernel
theorem i_X9_summed_10 : xi_dc cX9_summed 10 = some (.if_icmp .ge 74, 3) := by decide +kernel
theorem t_X9_summed_10 : ((10 : Nat) : Int) + 74 = ((84 : Nat) : Int) := by decide +kernel
theorem i_X9_summed_13 : xi_dc cX9_summed 13 = some (.ldc2_w 268, 3) := by decide +kernel
theorem i_X9_summed_16 : xi_dc cX9_summed 16 = some (.lload 5, 2) := by decide +kernel
theorem i_X9_summed_18 : xi_dc cX9_summed 18 = some (.lmul, 1) := by decide +kernel
theorem i_X9_summed_19 : xi_dc cX9_summed 19 = some (.aload_n 2, 1) := by decide +kernel
theorem i_X9_summed_20 : xi_dc cX9_summed 20 = some (.iload 7, 2) := by decide +kernel
theorem i_X9_summed_22 : xi_dc cX9_summed 22 = some (.iaload, 1) := by decide +kernel
theorem i_X9_summed_23 : xi_dc cX9_summed 23 = some (.bipush (-9), 2) := by decide +kernel
theorem i_X9_summed_25 : xi_dc cX9_summed 25 = some (.if_icmp .ne 7, 3) := by decide +kernel
theorem t_X9_summed_25 : ((25 : Nat) : Int) + 7 = ((32 : Nat) : Int) := by decide +kernel
theorem i_X9_summed_28 : xi_dc cX9_summed 28 = some (.iconst (-1), 1) := by decide +kernel
theorem i_X9_summed_29 : xi_dc cX9_summed 29 = some (.goto 7, 3) := by decide +kernel
theorem t_X9_summed_29 : ((29 : Nat) : Int) + 7 = ((36 : Nat) : Int) := by decide +kernel
theorem i_X9_summed_32 : xi_dc cX9_summed 32 = some (.aload_n 2, 1) := by decide +kernel
theorem i_X9_summed_33 : xi_dc cX9_summed 33 = some (.iload 7, 2) := by decide +kernel
theorem i_X9_summed_35 : xi_dc cX9_summed 35 = some (.iaload, 1) := by decide +kernel
theorem i_X9_summed_36 : xi_dc cX9_summed 36 = some (.i2l, 1) := by decide +kernel
theorem i_X9_summed_37 : xi_dc cX9_summed 37 = some (.ladd, 1) := by decide +kernel
theorem i_X9_summed_38 : xi_dc cX9_summed 38 = some (.lstore 5, 2) := by decide +kernel
theorem i_X9_summed_40 : xi_dc cX9_summed 40 = some (.iconst 0, 1) := by decide +kernel
theorem i_X9_summed_41 : xi_dc cX9_summed 41 = some (.istore 8, 2) := by decide +kernel
theorem i_X9_summed_43 : xi_dc cX9_summed 43 = some (.iload 8, 2) := by decide +kernel
theorem i_X9_summed_45 : xi_dc cX9_summed 45 = some (.aload_n 2, 1) := by decide +kernel
theorem i_X9_summed_46 : xi_dc cX9_summed 46 = some (.iload 7, 2) := by decide +kernel
theorem i_X9_summed_48 : xi_dc cX9_summed 48 = some (.iaload, 1) := by decide +kernel
theorem i_X9_summed_49 : xi_dc cX9_summed 49 = some (.if_icmp .ge 29, 3) := by decide +kernel
theorem t_X9_summed_49 : ((49 : Nat) : Int) + 29 = ((78 : Nat) : Int) := by decide +kernel
theorem i_X9_summed_52 : xi_dc cX9_summed 52 = some (.ldc2_w 268, 3) := by decide +kernel
theorem i_X9_summed_55 : xi_dc cX9_summed 55 = some (.lload 5, 2) := by decide +kernel
theorem i_X9_summed_57 : xi_dc cX9_summed 57 = some (.lmul, 1) := by decide +kernel
theorem i_X9_summed_58 : xi_dc cX9_summed 58 = some (.aload_n 3, 1) := by decide +kernel
theorem i_X9_summed_59 : xi_dc cX9_summed 59 = some (.iload 4, 2) := by decide +kernel
theorem i_X9_summed_61 : xi_dc cX9_summed 61 = some (.iload 7, 2) := by decide +kernel
theorem i_X9_summed_63 : xi_dc cX9_summed 63 = some (.imul, 1) := by decide +kernel
theorem i_X9_summed_64 : xi_dc cX9_summed 64 = some (.iload 8, 2) := by decide +kernel
theorem i_X9_summed_66 : xi_dc cX9_summed 66 = some (.iadd, 1) := by decide +kernel
theorem i_X9_summed_67 : xi_dc cX9_summed 67 = some (.iaload, 1) := by decide +kernel
theorem i_X9_summed_68 : xi_dc cX9_summed 68 = some (.i2l, 1) := by decide +kernel
theorem i_X9_summed_69 : xi_dc cX9_summed 69 = some (.ladd, 1) := by decide +kernel
theorem i_X9_summed_70 : xi_dc cX9_summed 70 = some (.lstore 5, 2) := by decide +kernel
theorem i_X9_summed_72 : xi_dc cX9_summed 72 = some (.iinc 8 1, 3) := by decide +kernel
theorem i_X9_summed_75 : xi_dc cX9_summed 75 = some (.goto (-32), 3) := by decide +kernel
theorem t_X9_summed_75 : ((75 : Nat) : Int) + (-32) = ((43 : Nat) : Int) := by decide +kernel
theorem i_X9_summed_78 : xi_dc cX9_summed 78 = some (.iinc 7 1, 3) := by decide +kernel
theorem i_X9_summed_81 : xi_dc cX9_summed 81 = some (.goto (-75), 3) := by decide +kernel
theorem t_X9_summed_81 : ((81 : Nat) : Int) + (-75) = ((6 : Nat) : Int) := by decide +kernel
theorem i_X9_summed_84 : xi_dc cX9_summed 84 = some (.lload 5, 2) := by decide +kernel
theorem i_X9_summed_86 : xi_dc cX9_summed 86 = some (.lreturn, 1) := by decide +kernel
def P_X9_summed (S : xi_S) : xi_P := (xi_dc cX9_summed, xi_tab xfl_X9, xi_tab xki_X9, xi_tab xkl_X9, xi_tab xcs_X9, xi_tab xcv_X9, xi_calls [], xi_calls [], 3)
def G_X9_summed_43 (S : xi_S) (k6 : Nat → Nat → Int32 → Int64 → Int32 → xi_M → Option xi_R) : Nat → Nat → Nat → Int32 → Int64 → Int32 → Int32 → xi_M → Option xi_R
  | 0, _, _, _, _, _, _, _ => none
  | n + 1, v2, v3, v4, v5, v7, v8, m =>
    if S.1 v2 = 0 ∧ ¬ (v7 < 0 ∨ S.2.1 v2 ≤ Int32.toNatClampNeg v7) then
      if (m.1 v2 (Int32.toNatClampNeg v7)) ≤ v8 then
        k6 v2 v3 v4 v5 (v7 + Int32.ofInt 1) m
      else
        if S.1 v3 = 0 ∧ ¬ (((v4 * v7) + v8) < 0 ∨ S.2.1 v3 ≤ Int32.toNatClampNeg ((v4 * v7) + v8)) then
          G_X9_summed_43 S k6 n v2 v3 v4 (((31 : Int64) * v5) + (Int32.toInt64 (m.1 v3 (Int32.toNatClampNeg ((v4 * v7) + v8))))) v7 (v8 + Int32.ofInt 1) m
        else none
    else none
set_option maxRecDepth 100000 in
set_option maxHeartbeats 4000000 in
theorem xs_X9_summed_43 {S : xi_S} {res : xi_R} {k6 : Nat → Nat → Int32 → Int64 → Int32 → xi_M → Option xi_R} (hk6 : ∀ (v2 : Nat) (v3 : Nat) (v4 : Int32) (v5 : Int64) (v7 : Int32) (m : xi_M), k6 v2 v3 v4 v5 v7 m = some res → xi_X S (P_X9_summed S) (6, [none, none, some (.ref v2), some (.ref v3), some (.int v4), some (.long v5), none, some (.int v7), none], [], m) res) : ∀ (n : Nat) (v2 : Nat) (v3 : Nat) (v4 : Int32) (v5 : Int64) (v7 : Int32) (v8 : Int32) (m : xi_M), G_X9_summed_43 S k6 n v2 v3 v4 v5 v7 v8 m = some res → xi_X S (P_X9_summed S) (43, [none, none, some (.ref v2), some (.ref v3), some (.int v4), some (.long v5), none, some (.int v7), some (.int v8)], [], m) res := by
  intro n
  induction n with
  | zero => intro v2 v3 v4 v5 v7 v8 m h; exact xi_no h
  | succ n ih =>
    intro v2 v3 v4 v5 v7 v8 m h
    unfold G_X9_summed_43 at h
    refine xr_iload i_X9_summed_43 rfl (q := 45) rfl ?_
    refine xr_aload_n i_X9_summed_45 rfl (q := 46) rfl ?_
    refine xr_iload i_X9_summed_46 rfl (q := 48) rfl ?_
    obtain ⟨c1, h⟩ := xi_if_some h
    refine xr_iaload i_X9_summed_48 c1 (q := 49) rfl ?_
    by_cases c3 : (m.1 v2 (Int32.toNatClampNeg v7)) ≤ v8
    · replace h := (if_pos c3).symm.trans h
      refine xr_if_icmp_ge_p i_X9_summed_49 c3 (q := 78) t_X9_summed_49 (q2 := 52) rfl ?_
      refine xr_iinc i_X9_summed_78 rfl rfl (L2 := [none, none, some (.ref v2), some (.ref v3), some (.int v4), some (.long v5), none, some (.int (v7 + Int32.ofInt 1)), some (.int v8)]) rfl (q := 81) rfl ?_
      refine xr_goto i_X9_summed_81 (q := 6) t_X9_summed_81 ?_
      exact xi_X_le (xi_le_n (xi_le_n (xi_le_s (xi_le_s (xi_le_s (xi_le_s (xi_le_n (xi_le_s (xi_le_n xi_le_z))))))))) (hk6 _ _ _ _ _ _ h)
    · replace h := (if_neg c3).symm.trans h
      refine xr_if_icmp_ge_n i_X9_summed_49 c3 (q := 78) t_X9_summed_49 (q2 := 52) rfl ?_
      refine xr_ldc2_w i_X9_summed_52 xkle_X9_268 (q := 55) rfl ?_
      refine xr_lload i_X9_summed_55 rfl (q := 57) rfl ?_
      refine xr_lmul i_X9_summed_57 (q := 58) rfl ?_
      refine xr_aload_n i_X9_summed_58 rfl (q := 59) rfl ?_
      refine xr_iload i_X9_summed_59 rfl (q := 61) rfl ?_
      refine xr_iload i_X9_summed_61 rfl (q := 63) rfl ?_
      refine xr_imul i_X9_summed_63 (q := 64) rfl ?_
      refine xr_iload i_X9_summed_64 rfl (q := 66) rfl ?_
      refine xr_iadd i_X9_summed_66 (q := 67) rfl ?_
      obtain ⟨c2, h⟩ := xi_if_some h
      refine xr_iaload i_X9_summed_67 c2 (q := 68) rfl ?_
      refine xr_i2l i_X9_summed_68 (q := 69) rfl ?_
      refine xr_ladd i_X9_summed_69 (q := 70) rfl ?_
      refine xr_lstore i_X9_summed_70 rfl (L2 := [none, none, some (.ref v2), some (.ref v3), some (.int v4), some (.long (((31 : Int64) * v5) + (Int32.toInt64 (m.1 v3 (Int32.toNatClampNeg ((v4 * v7) + v8)))))), none, some (.int v7), some (.int v8)]) rfl (q := 72) rfl ?_
      refine xr_iinc i_X9_summed_72 rfl rfl (L2 := [none, none, some (.ref v2), some (.ref v3), some (.int v4), some (.long (((31 : Int64) * v5) + (Int32.toInt64 (m.1 v3 (Int32.toNatClampNeg ((v4 * v7) + v8)))))), none, some (.int v7), some (.int (v8 + Int32.ofInt 1))]) rfl (q := 75) rfl ?_
      refine xr_goto i_X9_summed_75 (q := 43) t_X9_summed_75 ?_
      exact xi_X_le (xi_le_n (xi_le_n (xi_le_s (xi_le_s (xi_le_s (xi_le_s (xi_le_n (xi_le_s (xi_le_s xi_le_z))))))))) (ih _ _ _ _ _ _ _ h)
def G_X9_summed_6 (S : xi_S) : Nat → Nat → Nat → Int32 → Int64 → Int32 → xi_M → Option xi_R
  | 0, _, _, _, _, _, _ => none
  | n + 1, v2, v3, v4, v5, v7, m =>
    if S.1 v2 = 0 ∨ S.1 v2 = 1 ∨ S.1 v2 = 2 then
      if (Int32.ofNat (S.2.1 v2)) ≤ v7 then
        some (some (.long v5), m)
      else
        if S.1 v2 = 0 ∧ ¬ (v7 < 0 ∨ S.2.1 v2 ≤ Int32.toNatClampNeg v7) then
          if (m.1 v2 (Int32.toNatClampNeg v7)) = ((Int8.ofInt (-9)).toInt32) then
            G_X9_summed_43 S (G_X9_summed_6 S n) 10000 v2 v3 v4 (((31 : Int64) * v5) + (Int32.toInt64 (Int32.ofInt (-1)))) v7 (Int32.ofInt 0) m
          else
            if S.1 v2 = 0 ∧ ¬ (v7 < 0 ∨ S.2.1 v2 ≤ Int32.toNatClampNeg v7) then
              G_X9_summed_43 S (G_X9_summed_6 S n) 10000 v2 v3 v4 (((31 : Int64) * v5) + (Int32.toInt64 (m.1 v2 (Int32.toNatClampNeg v7)))) v7 (Int32.ofInt 0) m
            else none
        else none
    else none
set_option maxRecDepth 100000 in
set_option maxHeartbeats 4000000 in
theorem xs_X9_summed_6 {S : xi_S} {res : xi_R} : ∀ (n : Nat) (v2 : Nat) (v3 : Nat) (v4 : Int32) (v5 : Int64) (v7 : Int32) (m : xi_M), G_X9_summed_6 S n v2 v3 v4 v5 v7 m = some res → xi_X S (P_X9_summed S) (6, [none, none, some (.ref v2), some (.ref v3), some (.int v4), some (.long v5), none, some (.int v7), none], [], m) res := by
  intro n
  induction n with
  | zero => intro v2 v3 v4 v5 v7 m h; exact xi_no h
  | succ n ih =>
    intro v2 v3 v4 v5 v7 m h
    unfold G_X9_summed_6 at h
    refine xr_iload i_X9_summed_6 rfl (q := 8) rfl ?_
    refine xr_aload_n i_X9_summed_8 rfl (q := 9) rfl ?_
    obtain ⟨c1, h⟩ := xi_if_some h
    refine xr_alen i_X9_summed_9 c1 (q := 10) rfl ?_
    by_cases c5 : (Int32.ofNat (S.2.1 v2)) ≤ v7
    · replace h := (if_pos c5).symm.trans h
      refine xr_if_icmp_ge_p i_X9_summed_10 c5 (q := 84) t_X9_summed_10 (q2 := 13) rfl ?_
      refine xr_lload i_X9_summed_84 rfl (q := 86) rfl ?_
      exact xr_lreturn i_X9_summed_86 rfl h
    · replace h := (if_neg c5).symm.trans h
      refine xr_if_icmp_ge_n i_X9_summed_10 c5 (q := 84) t_X9_summed_10 (q2 := 13) rfl ?_
      refine xr_ldc2_w i_X9_summed_13 xkle_X9_268 (q := 16) rfl ?_
      refine xr_lload i_X9_summed_16 rfl (q := 18) rfl ?_
      refine xr_lmul i_X9_summed_18 (q := 19) rfl ?_
      refine xr_aload_n i_X9_summed_19 rfl (q := 20) rfl ?_
      refine xr_iload i_X9_summed_20 rfl (q := 22) rfl ?_
      obtain ⟨c2, h⟩ := xi_if_some h
      refine xr_iaload i_X9_summed_22 c2 (q := 23) rfl ?_
      refine xr_bipush i_X9_summed_23 (q := 25) rfl ?_
      by_cases c4 : (m.1 v2 (Int32.toNatClampNeg v7)) = ((Int8.ofInt (-9)).toInt32)
      · replace h := (if_pos c4).symm.trans h
        refine xr_if_icmp_ne_p i_X9_summed_25 c4 (q := 32) t_X9_summed_25 (q2 := 28) rfl ?_
        refine xr_iconst i_X9_summed_28 (q := 29) rfl ?_
        refine xr_goto i_X9_summed_29 (q := 36) t_X9_summed_29 ?_
        refine xr_i2l i_X9_summed_36 (q := 37) rfl ?_
        refine xr_ladd i_X9_summed_37 (q := 38) rfl ?_
        refine xr_lstore i_X9_summed_38 rfl (L2 := [none, none, some (.ref v2), some (.ref v3), some (.int v4), some (.long (((31 : Int64) * v5) + (Int32.toInt64 (Int32.ofInt (-1))))), none, some (.int v7), none]) rfl (q := 40) rfl ?_
        refine xr_iconst i_X9_summed_40 (q := 41) rfl ?_
        refine xr_istore i_X9_summed_41 rfl (L2 := [none, none, some (.ref v2), some (.ref v3), some (.int v4), some (.long (((31 : Int64) * v5) + (Int32.toInt64 (Int32.ofInt (-1))))), none, some (.int v7), some (.int (Int32.ofInt 0))]) rfl (q := 43) rfl ?_
        exact xi_X_le (xi_le_n (xi_le_n (xi_le_s (xi_le_s (xi_le_s (xi_le_s (xi_le_n (xi_le_s (xi_le_s xi_le_z))))))))) (xs_X9_summed_43 ih 10000 _ _ _ _ _ _ _ h)
      · replace h := (if_neg c4).symm.trans h
        refine xr_if_icmp_ne_n i_X9_summed_25 c4 (q := 32) t_X9_summed_25 (q2 := 28) rfl ?_
        refine xr_aload_n i_X9_summed_32 rfl (q := 33) rfl ?_
        refine xr_iload i_X9_summed_33 rfl (q := 35) rfl ?_
        obtain ⟨c3, h⟩ := xi_if_some h
        refine xr_iaload i_X9_summed_35 c3 (q := 36) rfl ?_
        refine xr_i2l i_X9_summed_36 (q := 37) rfl ?_
        refine xr_ladd i_X9_summed_37 (q := 38) rfl ?_
        refine xr_lstore i_X9_summed_38 rfl (L2 := [none, none, some (.ref v2), some (.ref v3), some (.int v4), some (.long (((31 : Int64) * v5) + (Int32.toInt64 (m.1 v2 (Int32.toNatClampNeg v7))))), none, some (.int v7), none]) rfl (q := 40) rfl ?_
        refine xr_iconst i_X9_summed_40 (q := 41) rfl ?_
        refine xr_istore i_X9_summed_41 rfl (L2 := [none, none, some (.ref v2), some (.ref v3), some (.int v4), some (.long (((31 : Int64) * v5) + (Int32.toInt64 (m.1 v2 (Int32.toNatClampNeg v7))))), none, some (.int v7), some (.int (Int32.ofInt 0))]) rfl (q := 43) rfl ?_
        exact xi_X_le (xi_le_n (xi_le_n (xi_le_s (xi_le_s (xi_le_s (xi_le_s (xi_le_n (xi_le_s (xi_le_s xi_le_z))))))))) (xs_X9_summed_43 ih 10000 _ _ _ _ _ _ _ h)
def E_X9_summed (S : xi_S) (v0 : Int64) (v2 : Nat) (v3 : Nat) (v4 : Int32) (m : xi_M) : Option xi_R :=
  G_X9_summed_6 S 10000 v2 v3 v4 v0 (Int32.ofInt 0) m
def F_X9_summed (S : xi_S) : xi_F := fun As m => match As with
  | [.long v0, .ref v2, .ref v3, .int v4] => E_X9_summed S v0 v2 v3 v4 m
  | _ => none
set_option maxRecDepth 100000 in
set_option maxHeartbeats 4000000 in
theorem xe_X9_summed {S : xi_S} {res : xi_R} (v0 : Int64) (v2 : Nat) (v3 : Nat) (v4 : Int32) (m : xi_M) (h : E_X9_summed S v0 v2 v3 v4 m = some res) : xi_X S (P_X9_summed S) (0, [some (.long v0), none, some (.ref v2), some (.ref v3), some (.int v4), none, none, none, none], [], m) res := by
  unfold E_X9_summed at h
  refine xr_lload_n i_X9_summed_0 rfl (q := 1) rfl ?_
  refine xr_lstore i_X9_summed_1 rfl (L2 := [some (.long v0), none, some (.ref v2), some (.ref v3), some (.int v4), some (.long v0), none, none, none]) rfl (q := 3) rfl ?_
  refine xr_iconst i_X9_summed_3 (q := 4) rfl ?_
  refine xr_istore i_X9_summed_4 rfl (L2 := [some (.long v0), none, some (.ref v2), some (.ref v3), some (.int v4), some (.long v0), none, some (.int (Int32.ofInt 0)), none]) rfl (q := 6) rfl ?_
  exact xi_X_le (xi_le_n (xi_le_n (xi_le_s (xi_le_s (xi_le_s (xi_le_s (xi_le_n (xi_le_s (xi_le_n xi_le_z))))))))) (xs_X9_summed_6 10000 _ _ _ _ _ _ h)
set_option maxRecDepth 100000 in
theorem po_X9_summed {l : Launch} {E : xi_E} {S : xi_S} {D : va_G} {tys : List (ClassId × FieldType)} (hC : xCx E S tys) : xi_Pok l E S D vwCl tys xNs RX9 xTs cX9_summed 9 0 (P_X9_summed S) := ⟨xi_dc_ok, by rw [hC.2]; exact xfo_X9, xkio_X9, xklo_X9, xi_calls_ok (ins := .invokestatic) (fun _ h => absurd h List.not_mem_nil), xi_calls_ok (ins := .invokevirtual) (fun _ h => absurd h List.not_mem_nil)⟩
theorem sn_X9_summed {l : Launch} {E : xi_E} {S : xi_S} {D : va_G} {tys : List (ClassId × FieldType)} (hC : xCx E S tys) : ∀ As m1 r m2, F_X9_summed S As m1 = some (r, m2) → xi_Sound l E S D vwCl tys xNs xTs yX9_summed cX9_summed 9 (some .long) 0 As m1 r m2 := by
  intro As m1 r m2 h
  unfold F_X9_summed at h
  split at h
  · exact xi_meth (P := P_X9_summed S) (by decide) hC.1 (po_X9_summed hC) (Nat.le_of_ble_eq_true rfl) rfl (xe_X9_summed _ _ _ _ _ h)
  · exact xi_no h
theorem i_X9_digest_0 : xi_dc cX9_digest 0 = some (.ldc2_w 270, 3) := by decide +kernel
theorem i_X9_digest_3 : xi_dc cX9_digest 3 = some (.lstore_n 1, 1) := by decide +kernel
theorem i_X9_digest_4 : xi_dc cX9_digest 4 = some (.iconst 0, 1) := by decide +kernel
theorem i_X9_digest_5 : xi_dc cX9_digest 5 = some (.istore_n 3, 1) := by decide +kernel
theorem i_X9_digest_6 : xi_dc cX9_digest 6 = some (.iload_n 3, 1) := by decide +kernel
theorem i_X9_digest_7 : xi_dc cX9_digest 7 = some (.bipush 16, 2) := by decide +kernel
theorem i_X9_digest_9 : xi_dc cX9_digest 9 = some (.if_icmp .ge 22, 3) := by decide +kernel
theorem t_X9_digest_9 : ((9 : Nat) : Int) + 22 = ((31 : Nat) : Int) := by decide +kernel
theorem i_X9_digest_12 : xi_dc cX9_digest 12 = some (.ldc2_w 268, 3) := by decide +kernel
theorem i_X9_digest_15 : xi_dc cX9_digest 15 = some (.lload_n 1, 1) := by decide +kernel
theorem i_X9_digest_16 : xi_dc cX9_digest 16 = some (.lmul, 1) := by decide +kernel
theorem i_X9_digest_17 : xi_dc cX9_digest 17 = some (.aload_n 0, 1) := by decide +kernel
theorem i_X9_digest_18 : xi_dc cX9_digest 18 = some (.iload_n 3, 1) := by decide +kernel
theorem i_X9_digest_19 : xi_dc cX9_digest 19 = some (.invokevirtual 272, 3) := by decide +kernel
theorem i_X9_digest_22 : xi_dc cX9_digest 22 = some (.i2l, 1) := by decide +kernel
theorem i_X9_digest_23 : xi_dc cX9_digest 23 = some (.ladd, 1) := by decide +kernel
theorem i_X9_digest_24 : xi_dc cX9_digest 24 = some (.lstore_n 1, 1) := by decide +kernel
theorem i_X9_digest_25 : xi_dc cX9_digest 25 = some (.iinc 3 1, 3) := by decide +kernel
theorem i_X9_digest_28 : xi_dc cX9_digest 28 = some (.goto (-22), 3) := by decide +kernel
theorem t_X9_digest_28 : ((28 : Nat) : Int) + (-22) = ((6 : Nat) : Int) := by decide +kernel
theorem i_X9_digest_31 : xi_dc cX9_digest 31 = some (.iconst 0, 1) := by decide +kernel
theorem i_X9_digest_32 : xi_dc cX9_digest 32 = some (.istore_n 3, 1) := by decide +kernel
theorem i_X9_digest_33 : xi_dc cX9_digest 33 = some (.iload_n 3, 1) := by decide +kernel
theorem i_X9_digest_34 : xi_dc cX9_digest 34 = some (.aload_n 0, 1) := by decide +kernel
theorem i_X9_digest_35 : xi_dc cX9_digest 35 = some (.getfield 25, 3) := by decide +kernel
theorem i_X9_digest_38 : xi_dc cX9_digest 38 = some (.iconst 1, 1) := by decide +kernel
theorem i_X9_digest_39 : xi_dc cX9_digest 39 = some (.iaload, 1) := by decide +kernel
theorem i_X9_digest_40 : xi_dc cX9_digest 40 = some (.if_icmp .ge 40, 3) := by decide +kernel
theorem t_X9_digest_40 : ((40 : Nat) : Int) + 40 = ((80 : Nat) : Int) := by decide +kernel
theorem i_X9_digest_43 : xi_dc cX9_digest 43 = some (.iconst 0, 1) := by decide +kernel
theorem i_X9_digest_44 : xi_dc cX9_digest 44 = some (.istore 4, 2) := by decide +kernel
theorem i_X9_digest_46 : xi_dc cX9_digest 46 = some (.iload 4, 2) := by decide +kernel
theorem i_X9_digest_48 : xi_dc cX9_digest 48 = some (.bipush 7, 2) := by decide +kernel
theorem i_X9_digest_50 : xi_dc cX9_digest 50 = some (.if_icmp .ge 24, 3) := by decide +kernel
theorem t_X9_digest_50 : ((50 : Nat) : Int) + 24 = ((74 : Nat) : Int) := by decide +kernel
theorem i_X9_digest_53 : xi_dc cX9_digest 53 = some (.ldc2_w 268, 3) := by decide +kernel
theorem i_X9_digest_56 : xi_dc cX9_digest 56 = some (.lload_n 1, 1) := by decide +kernel
theorem i_X9_digest_57 : xi_dc cX9_digest 57 = some (.lmul, 1) := by decide +kernel
theorem i_X9_digest_58 : xi_dc cX9_digest 58 = some (.aload_n 0, 1) := by decide +kernel
theorem i_X9_digest_59 : xi_dc cX9_digest 59 = some (.iload_n 3, 1) := by decide +kernel
theorem i_X9_digest_60 : xi_dc cX9_digest 60 = some (.iload 4, 2) := by decide +kernel
theorem i_X9_digest_62 : xi_dc cX9_digest 62 = some (.invokevirtual 170, 3) := by decide +kernel
theorem i_X9_digest_65 : xi_dc cX9_digest 65 = some (.i2l, 1) := by decide +kernel
theorem i_X9_digest_66 : xi_dc cX9_digest 66 = some (.ladd, 1) := by decide +kernel
theorem i_X9_digest_67 : xi_dc cX9_digest 67 = some (.lstore_n 1, 1) := by decide +kernel
theorem i_X9_digest_68 : xi_dc cX9_digest 68 = some (.iinc 4 1, 3) := by decide +kernel
theorem i_X9_digest_71 : xi_dc cX9_digest 71 = some (.goto (-25), 3) := by decide +kernel
theorem t_X9_digest_71 : ((71 : Nat) : Int) + (-25) = ((46 : Nat) : Int) := by decide +kernel
theorem i_X9_digest_74 : xi_dc cX9_digest 74 = some (.iinc 3 1, 3) := by decide +kernel
theorem i_X9_digest_77 : xi_dc cX9_digest 77 = some (.goto (-44), 3) := by decide +kernel
theorem t_X9_digest_77 : ((77 : Nat) : Int) + (-44) = ((33 : Nat) : Int) := by decide +kernel
theorem i_X9_digest_80 : xi_dc cX9_digest 80 = some (.iconst 0, 1) := by decide +kernel
theorem i_X9_digest_81 : xi_dc cX9_digest 81 = some (.istore_n 3, 1) := by decide +kernel
theorem i_X9_digest_82 : xi_dc cX9_digest 82 = some (.iload_n 3, 1) := by decide +kernel
theorem i_X9_digest_83 : xi_dc cX9_digest 83 = some (.iconst 3, 1) := by decide +kernel
theorem i_X9_digest_84 : xi_dc cX9_digest 84 = some (.if_icmp .ge 38, 3) := by decide +kernel
theorem t_X9_digest_84 : ((84 : Nat) : Int) + 38 = ((122 : Nat) : Int) := by decide +kernel
theorem i_X9_digest_87 : xi_dc cX9_digest 87 = some (.ldc2_w 268, 3) := by decide +kernel
theorem i_X9_digest_90 : xi_dc cX9_digest 90 = some (.lload_n 1, 1) := by decide +kernel
theorem i_X9_digest_91 : xi_dc cX9_digest 91 = some (.lmul, 1) := by decide +kernel
theorem i_X9_digest_92 : xi_dc cX9_digest 92 = some (.aload_n 0, 1) := by decide +kernel
theorem i_X9_digest_93 : xi_dc cX9_digest 93 = some (.getfield 43, 3) := by decide +kernel
theorem i_X9_digest_96 : xi_dc cX9_digest 96 = some (.iload_n 3, 1) := by decide +kernel
theorem i_X9_digest_97 : xi_dc cX9_digest 97 = some (.iaload, 1) := by decide +kernel
theorem i_X9_digest_98 : xi_dc cX9_digest 98 = some (.bipush (-9), 2) := by decide +kernel
theorem i_X9_digest_100 : xi_dc cX9_digest 100 = some (.if_icmp .ne 7, 3) := by decide +kernel
theorem t_X9_digest_100 : ((100 : Nat) : Int) + 7 = ((107 : Nat) : Int) := by decide +kernel
theorem i_X9_digest_103 : xi_dc cX9_digest 103 = some (.iconst (-1), 1) := by decide +kernel
theorem i_X9_digest_104 : xi_dc cX9_digest 104 = some (.goto 9, 3) := by decide +kernel
theorem t_X9_digest_104 : ((104 : Nat) : Int) + 9 = ((113 : Nat) : Int) := by decide +kernel
theorem i_X9_digest_107 : xi_dc cX9_digest 107 = some (.aload_n 0, 1) := by decide +kernel
theorem i_X9_digest_108 : xi_dc cX9_digest 108 = some (.getfield 43, 3) := by decide +kernel
theorem i_X9_digest_111 : xi_dc cX9_digest 111 = some (.iload_n 3, 1) := by decide +kernel
theorem i_X9_digest_112 : xi_dc cX9_digest 112 = some (.iaload, 1) := by decide +kernel
theorem i_X9_digest_113 : xi_dc cX9_digest 113 = some (.i2l, 1) := by decide +kernel
theorem i_X9_digest_114 : xi_dc cX9_digest 114 = some (.ladd, 1) := by decide +kernel
theorem i_X9_digest_115 : xi_dc cX9_digest 115 = some (.lstore_n 1, 1) := by decide +kernel
theorem i_X9_digest_116 : xi_dc cX9_digest 116 = some (.iinc 3 1, 3) := by decide +kernel
theorem i_X9_digest_119 : xi_dc cX9_digest 119 = some (.goto (-37), 3) := by decide +kernel
theorem t_X9_digest_119 : ((119 : Nat) : Int) + (-37) = ((82 : Nat) : Int) := by decide +kernel
theorem i_X9_digest_122 : xi_dc cX9_digest 122 = some (.lload_n 1, 1) := by decide +kernel
theorem i_X9_digest_123 : xi_dc cX9_digest 123 = some (.aload_n 0, 1) := by decide +kernel
theorem i_X9_digest_124 : xi_dc cX9_digest 124 = some (.getfield 7, 3) := by decide +kernel
theorem i_X9_digest_127 : xi_dc cX9_digest 127 = some (.aload_n 0, 1) := by decide +kernel
theorem i_X9_digest_128 : xi_dc cX9_digest 128 = some (.getfield 13, 3) := by decide +kernel
theorem i_X9_digest_131 : xi_dc cX9_digest 131 = some (.bipush 40, 2) := by decide +kernel
theorem i_X9_digest_133 : xi_dc cX9_digest 133 = some (.invokestatic 275, 3) := by decide +kernel
theorem i_X9_digest_136 : xi_dc cX9_digest 136 = some (.aload_n 0, 1) := by decide +kernel
theorem i_X9_digest_137 : xi_dc cX9_digest 137 = some (.getfield 16, 3) := by decide +kernel
theorem i_X9_digest_140 : xi_dc cX9_digest 140 = some (.aload_n 0, 1) := by decide +kernel
theorem i_X9_digest_141 : xi_dc cX9_digest 141 = some (.getfield 19, 3) := by decide +kernel
theorem i_X9_digest_144 : xi_dc cX9_digest 144 = some (.bipush 60, 2) := by decide +kernel
theorem i_X9_digest_146 : xi_dc cX9_digest 146 = some (.invokestatic 275, 3) := by decide +kernel
theorem i_X9_digest_149 : xi_dc cX9_digest 149 = some (.lreturn, 1) := by decide +kernel
def P_X9_digest (S : xi_S) : xi_P := (xi_dc cX9_digest, xi_tab xfl_X9, xi_tab xki_X9, xi_tab xkl_X9, xi_tab xcs_X9, xi_tab xcv_X9, xi_calls [(275, xi_wS 4 (F_X9_summed S))], xi_calls [(170, xi_wV S 11 2 (F_X9_tellsOf S)), (272, xi_wV S 11 1 (F_X9_count S))], 3)
theorem cc_X9_digest_275 (S : xi_S) (a0 : Int64) (a1 : Nat) (a2 : Nat) (a3 : Int32) (m : xi_M) : (P_X9_digest S).2.2.2.2.2.2.1 275 [.long a0, .ref a1, .ref a2, .int a3] m = (E_X9_summed S a0 a1 a2 a3 m) := by
  show xi_calls [(275, xi_wS 4 (F_X9_summed S))] 275 [.long a0, .ref a1, .ref a2, .int a3] m = _
  refine Eq.trans (b := xi_wS 4 (F_X9_summed S) [.long a0, .ref a1, .ref a2, .int a3] m) (xi_calls_hit rfl) ?_
  exact xi_wS_eq rfl
theorem cc_X9_digest_170 (S : xi_S) (a0 : Nat) (a1 : Int32) (a2 : Int32) (m : xi_M) : (P_X9_digest S).2.2.2.2.2.2.2.1 170 [.ref a0, .int a1, .int a2] m = (if S.1 a0 = 11 then E_X9_tellsOf S a0 a1 a2 m else none) := by
  show xi_calls [(170, xi_wV S 11 2 (F_X9_tellsOf S)), (272, xi_wV S 11 1 (F_X9_count S))] 170 [.ref a0, .int a1, .int a2] m = _
  refine Eq.trans (b := xi_wV S 11 2 (F_X9_tellsOf S) [.ref a0, .int a1, .int a2] m) (xi_calls_hit rfl) ?_
  exact xi_wV_eq rfl
theorem cc_X9_digest_272 (S : xi_S) (a0 : Nat) (a1 : Int32) (m : xi_M) : (P_X9_digest S).2.2.2.2.2.2.2.1 272 [.ref a0, .int a1] m = (if S.1 a0 = 11 then E_X9_count S a0 a1 m else none) := by
  show xi_calls [(170, xi_wV S 11 2 (F_X9_tellsOf S)), (272, xi_wV S 11 1 (F_X9_count S))] 272 [.ref a0, .int a1] m = _
  refine Eq.trans (b := xi_calls [(272, xi_wV S 11 1 (F_X9_count S))] 272 [.ref a0, .int a1] m) (xi_calls_miss rfl) ?_
  refine Eq.trans (b := xi_wV S 11 1 (F_X9_count S) [.ref a0, .int a1] m) (xi_calls_hit rfl) ?_
  exact xi_wV_eq rfl
def G_X9_digest_46 (S : xi_S) (k33 : Nat → Int64 → Int32 → xi_M → Option xi_R) : Nat → Nat → Int64 → Int32 → Int32 → xi_M → Option xi_R
  | 0, _, _, _, _, _ => none
  | n + 1, v0, v1, v3, v4, m =>
    if ((Int8.ofInt 7).toInt32) ≤ v4 then
      k33 v0 v1 (v3 + Int32.ofInt 1) m
    else
      xi_bI (if S.1 v0 = 11 then E_X9_tellsOf S v0 v3 v4 m else none) fun x2 m1 =>
      G_X9_digest_46 S k33 n v0 (((31 : Int64) * v1) + (Int32.toInt64 x2)) v3 (v4 + Int32.ofInt 1) m1
set_option maxRecDepth 100000 in
set_option maxHeartbeats 4000000 in
theorem xs_X9_digest_46 {S : xi_S} {res : xi_R} {k33 : Nat → Int64 → Int32 → xi_M → Option xi_R} (hk33 : ∀ (v0 : Nat) (v1 : Int64) (v3 : Int32) (m : xi_M), k33 v0 v1 v3 m = some res → xi_X S (P_X9_digest S) (33, [some (.ref v0), some (.long v1), none, some (.int v3), none], [], m) res) : ∀ (n : Nat) (v0 : Nat) (v1 : Int64) (v3 : Int32) (v4 : Int32) (m : xi_M), G_X9_digest_46 S k33 n v0 v1 v3 v4 m = some res → xi_X S (P_X9_digest S) (46, [some (.ref v0), some (.long v1), none, some (.int v3), some (.int v4)], [], m) res := by
  intro n
  induction n with
  | zero => intro v0 v1 v3 v4 m h; exact xi_no h
  | succ n ih =>
    intro v0 v1 v3 v4 m h
    unfold G_X9_digest_46 at h
    refine xr_iload i_X9_digest_46 rfl (q := 48) rfl ?_
    refine xr_bipush i_X9_digest_48 (q := 50) rfl ?_
    by_cases c3 : ((Int8.ofInt 7).toInt32) ≤ v4
    · replace h := (if_pos c3).symm.trans h
      refine xr_if_icmp_ge_p i_X9_digest_50 c3 (q := 74) t_X9_digest_50 (q2 := 53) rfl ?_
      refine xr_iinc i_X9_digest_74 rfl rfl (L2 := [some (.ref v0), some (.long v1), none, some (.int (v3 + Int32.ofInt 1)), some (.int v4)]) rfl (q := 77) rfl ?_
      refine xr_goto i_X9_digest_77 (q := 33) t_X9_digest_77 ?_
      exact xi_X_le (xi_le_s (xi_le_s (xi_le_n (xi_le_s (xi_le_n xi_le_z))))) (hk33 _ _ _ _ h)
    · replace h := (if_neg c3).symm.trans h
      refine xr_if_icmp_ge_n i_X9_digest_50 c3 (q := 74) t_X9_digest_50 (q2 := 53) rfl ?_
      refine xr_ldc2_w i_X9_digest_53 xkle_X9_268 (q := 56) rfl ?_
      refine xr_lload_n i_X9_digest_56 rfl (q := 57) rfl ?_
      refine xr_lmul i_X9_digest_57 (q := 58) rfl ?_
      refine xr_aload_n i_X9_digest_58 rfl (q := 59) rfl ?_
      refine xr_iload_n i_X9_digest_59 rfl (q := 60) rfl ?_
      refine xr_iload i_X9_digest_60 rfl (q := 62) rfl ?_
      obtain ⟨x2, m1, em1, h⟩ := xi_bI_some h
      refine xr_VI i_X9_digest_62 xcve_X9_170 rfl (As := [.ref v0, .int v3, .int v4]) rfl (rest := [.long ((31 : Int64) * v1)]) rfl ((cc_X9_digest_170 S _ _ _ _).trans em1) (q := 65) rfl ?_
      refine xr_i2l i_X9_digest_65 (q := 66) rfl ?_
      refine xr_ladd i_X9_digest_66 (q := 67) rfl ?_
      refine xr_lstore_n i_X9_digest_67 rfl (L2 := [some (.ref v0), some (.long (((31 : Int64) * v1) + (Int32.toInt64 x2))), none, some (.int v3), some (.int v4)]) rfl (q := 68) rfl ?_
      refine xr_iinc i_X9_digest_68 rfl rfl (L2 := [some (.ref v0), some (.long (((31 : Int64) * v1) + (Int32.toInt64 x2))), none, some (.int v3), some (.int (v4 + Int32.ofInt 1))]) rfl (q := 71) rfl ?_
      refine xr_goto i_X9_digest_71 (q := 46) t_X9_digest_71 ?_
      exact xi_X_le (xi_le_s (xi_le_s (xi_le_n (xi_le_s (xi_le_s xi_le_z))))) (ih _ _ _ _ _ h)
def G_X9_digest_82 (S : xi_S) : Nat → Nat → Int64 → Int32 → xi_M → Option xi_R
  | 0, _, _, _, _ => none
  | n + 1, v0, v1, v3, m =>
    if (Int32.ofInt 3) ≤ v3 then
      if S.1 v0 = 11 then (S.2.2 v0 0).bind fun b2 =>
        if S.1 v0 = 11 then (S.2.2 v0 1).bind fun b4 =>
          xi_bJ (E_X9_summed S v1 b2 b4 ((Int8.ofInt 40).toInt32) m) fun x6 m5 =>
          if S.1 v0 = 11 then (S.2.2 v0 2).bind fun b8 =>
            if S.1 v0 = 11 then (S.2.2 v0 3).bind fun b10 =>
              xi_bJ (E_X9_summed S x6 b8 b10 ((Int8.ofInt 60).toInt32) m5) fun x12 m11 =>
              some (some (.long x12), m11)
            else none
          else none
        else none
      else none
    else
      if S.1 v0 = 11 then (S.2.2 v0 12).bind fun b14 =>
        if S.1 b14 = 0 ∧ ¬ (v3 < 0 ∨ S.2.1 b14 ≤ Int32.toNatClampNeg v3) then
          if (m.1 b14 (Int32.toNatClampNeg v3)) = ((Int8.ofInt (-9)).toInt32) then
            G_X9_digest_82 S n v0 (((31 : Int64) * v1) + (Int32.toInt64 (Int32.ofInt (-1)))) (v3 + Int32.ofInt 1) m
          else
            if S.1 v0 = 11 then (S.2.2 v0 12).bind fun b17 =>
              if S.1 b17 = 0 ∧ ¬ (v3 < 0 ∨ S.2.1 b17 ≤ Int32.toNatClampNeg v3) then
                G_X9_digest_82 S n v0 (((31 : Int64) * v1) + (Int32.toInt64 (m.1 b17 (Int32.toNatClampNeg v3)))) (v3 + Int32.ofInt 1) m
              else none
            else none
        else none
      else none
set_option maxRecDepth 100000 in
set_option maxHeartbeats 4000000 in
theorem xs_X9_digest_82 {S : xi_S} {res : xi_R} : ∀ (n : Nat) (v0 : Nat) (v1 : Int64) (v3 : Int32) (m : xi_M), G_X9_digest_82 S n v0 v1 v3 m = some res → xi_X S (P_X9_digest S) (82, [some (.ref v0), some (.long v1), none, some (.int v3), none], [], m) res := by
  intro n
  induction n with
  | zero => intro v0 v1 v3 m h; exact xi_no h
  | succ n ih =>
    intro v0 v1 v3 m h
    unfold G_X9_digest_82 at h
    refine xr_iload_n i_X9_digest_82 rfl (q := 83) rfl ?_
    refine xr_iconst i_X9_digest_83 (q := 84) rfl ?_
    by_cases c20 : (Int32.ofInt 3) ≤ v3
    · replace h := (if_pos c20).symm.trans h
      refine xr_if_icmp_ge_p i_X9_digest_84 c20 (q := 122) t_X9_digest_84 (q2 := 87) rfl ?_
      refine xr_lload_n i_X9_digest_122 rfl (q := 123) rfl ?_
      refine xr_aload_n i_X9_digest_123 rfl (q := 124) rfl ?_
      obtain ⟨c1, h⟩ := xi_if_some h
      obtain ⟨b2, eb2, h⟩ := xi_bind_some h
      refine xr_getR i_X9_digest_124 xfe_X9_7 c1 eb2 (q := 127) rfl ?_
      refine xr_aload_n i_X9_digest_127 rfl (q := 128) rfl ?_
      obtain ⟨c3, h⟩ := xi_if_some h
      obtain ⟨b4, eb4, h⟩ := xi_bind_some h
      refine xr_getR i_X9_digest_128 xfe_X9_13 c3 eb4 (q := 131) rfl ?_
      refine xr_bipush i_X9_digest_131 (q := 133) rfl ?_
      obtain ⟨x6, m5, em5, h⟩ := xi_bJ_some h
      refine xr_SJ i_X9_digest_133 xcse_X9_275 rfl (As := [.long v1, .ref b2, .ref b4, .int ((Int8.ofInt 40).toInt32)]) rfl (rest := []) rfl ((cc_X9_digest_275 S _ _ _ _ _).trans em5) (q := 136) rfl ?_
      refine xr_aload_n i_X9_digest_136 rfl (q := 137) rfl ?_
      obtain ⟨c7, h⟩ := xi_if_some h
      obtain ⟨b8, eb8, h⟩ := xi_bind_some h
      refine xr_getR i_X9_digest_137 xfe_X9_16 c7 eb8 (q := 140) rfl ?_
      refine xr_aload_n i_X9_digest_140 rfl (q := 141) rfl ?_
      obtain ⟨c9, h⟩ := xi_if_some h
      obtain ⟨b10, eb10, h⟩ := xi_bind_some h
      refine xr_getR i_X9_digest_141 xfe_X9_19 c9 eb10 (q := 144) rfl ?_
      refine xr_bipush i_X9_digest_144 (q := 146) rfl ?_
      obtain ⟨x12, m11, em11, h⟩ := xi_bJ_some h
      refine xr_SJ i_X9_digest_146 xcse_X9_275 rfl (As := [.long x6, .ref b8, .ref b10, .int ((Int8.ofInt 60).toInt32)]) rfl (rest := []) rfl ((cc_X9_digest_275 S _ _ _ _ _).trans em11) (q := 149) rfl ?_
      exact xr_lreturn i_X9_digest_149 rfl h
    · replace h := (if_neg c20).symm.trans h
      refine xr_if_icmp_ge_n i_X9_digest_84 c20 (q := 122) t_X9_digest_84 (q2 := 87) rfl ?_
      refine xr_ldc2_w i_X9_digest_87 xkle_X9_268 (q := 90) rfl ?_
      refine xr_lload_n i_X9_digest_90 rfl (q := 91) rfl ?_
      refine xr_lmul i_X9_digest_91 (q := 92) rfl ?_
      refine xr_aload_n i_X9_digest_92 rfl (q := 93) rfl ?_
      obtain ⟨c13, h⟩ := xi_if_some h
      obtain ⟨b14, eb14, h⟩ := xi_bind_some h
      refine xr_getR i_X9_digest_93 xfe_X9_43 c13 eb14 (q := 96) rfl ?_
      refine xr_iload_n i_X9_digest_96 rfl (q := 97) rfl ?_
      obtain ⟨c15, h⟩ := xi_if_some h
      refine xr_iaload i_X9_digest_97 c15 (q := 98) rfl ?_
      refine xr_bipush i_X9_digest_98 (q := 100) rfl ?_
      by_cases c19 : (m.1 b14 (Int32.toNatClampNeg v3)) = ((Int8.ofInt (-9)).toInt32)
      · replace h := (if_pos c19).symm.trans h
        refine xr_if_icmp_ne_p i_X9_digest_100 c19 (q := 107) t_X9_digest_100 (q2 := 103) rfl ?_
        refine xr_iconst i_X9_digest_103 (q := 104) rfl ?_
        refine xr_goto i_X9_digest_104 (q := 113) t_X9_digest_104 ?_
        refine xr_i2l i_X9_digest_113 (q := 114) rfl ?_
        refine xr_ladd i_X9_digest_114 (q := 115) rfl ?_
        refine xr_lstore_n i_X9_digest_115 rfl (L2 := [some (.ref v0), some (.long (((31 : Int64) * v1) + (Int32.toInt64 (Int32.ofInt (-1))))), none, some (.int v3), none]) rfl (q := 116) rfl ?_
        refine xr_iinc i_X9_digest_116 rfl rfl (L2 := [some (.ref v0), some (.long (((31 : Int64) * v1) + (Int32.toInt64 (Int32.ofInt (-1))))), none, some (.int (v3 + Int32.ofInt 1)), none]) rfl (q := 119) rfl ?_
        refine xr_goto i_X9_digest_119 (q := 82) t_X9_digest_119 ?_
        exact xi_X_le (xi_le_s (xi_le_s (xi_le_n (xi_le_s (xi_le_n xi_le_z))))) (ih _ _ _ _ h)
      · replace h := (if_neg c19).symm.trans h
        refine xr_if_icmp_ne_n i_X9_digest_100 c19 (q := 107) t_X9_digest_100 (q2 := 103) rfl ?_
        refine xr_aload_n i_X9_digest_107 rfl (q := 108) rfl ?_
        obtain ⟨c16, h⟩ := xi_if_some h
        obtain ⟨b17, eb17, h⟩ := xi_bind_some h
        refine xr_getR i_X9_digest_108 xfe_X9_43 c16 eb17 (q := 111) rfl ?_
        refine xr_iload_n i_X9_digest_111 rfl (q := 112) rfl ?_
        obtain ⟨c18, h⟩ := xi_if_some h
        refine xr_iaload i_X9_digest_112 c18 (q := 113) rfl ?_
        refine xr_i2l i_X9_digest_113 (q := 114) rfl ?_
        refine xr_ladd i_X9_digest_114 (q := 115) rfl ?_
        refine xr_lstore_n i_X9_digest_115 rfl (L2 := [some (.ref v0), some (.long (((31 : Int64) * v1) + (Int32.toInt64 (m.1 b17 (Int32.toNatClampNeg v3))))), none, some (.int v3), none]) rfl (q := 116) rfl ?_
        refine xr_iinc i_X9_digest_116 rfl rfl (L2 := [some (.ref v0), some (.long (((31 : Int64) * v1) + (Int32.toInt64 (m.1 b17 (Int32.toNatClampNeg v3))))), none, some (.int (v3 + Int32.ofInt 1)), none]) rfl (q := 119) rfl ?_
        refine xr_goto i_X9_digest_119 (q := 82) t_X9_digest_119 ?_
        exact xi_X_le (xi_le_s (xi_le_s (xi_le_n (xi_le_s (xi_le_n xi_le_z))))) (ih _ _ _ _ h)
def G_X9_digest_33 (S : xi_S) : Nat → Nat → Int64 → Int32 → xi_M → Option xi_R
  | 0, _, _, _, _ => none
  | n + 1, v0, v1, v3, m =>
    if S.1 v0 = 11 then (S.2.2 v0 5).bind fun b2 =>
      if S.1 b2 = 0 ∧ ¬ ((Int32.ofInt 1) < 0 ∨ S.2.1 b2 ≤ Int32.toNatClampNeg (Int32.ofInt 1)) then
        if (m.1 b2 (Int32.toNatClampNeg (Int32.ofInt 1))) ≤ v3 then
          G_X9_digest_82 S 10000 v0 v1 (Int32.ofInt 0) m
        else
          G_X9_digest_46 S (G_X9_digest_33 S n) 10000 v0 v1 v3 (Int32.ofInt 0) m
      else none
    else none
set_option maxRecDepth 100000 in
set_option maxHeartbeats 4000000 in
theorem xs_X9_digest_33 {S : xi_S} {res : xi_R} : ∀ (n : Nat) (v0 : Nat) (v1 : Int64) (v3 : Int32) (m : xi_M), G_X9_digest_33 S n v0 v1 v3 m = some res → xi_X S (P_X9_digest S) (33, [some (.ref v0), some (.long v1), none, some (.int v3), none], [], m) res := by
  intro n
  induction n with
  | zero => intro v0 v1 v3 m h; exact xi_no h
  | succ n ih =>
    intro v0 v1 v3 m h
    unfold G_X9_digest_33 at h
    refine xr_iload_n i_X9_digest_33 rfl (q := 34) rfl ?_
    refine xr_aload_n i_X9_digest_34 rfl (q := 35) rfl ?_
    obtain ⟨c1, h⟩ := xi_if_some h
    obtain ⟨b2, eb2, h⟩ := xi_bind_some h
    refine xr_getR i_X9_digest_35 xfe_X9_25 c1 eb2 (q := 38) rfl ?_
    refine xr_iconst i_X9_digest_38 (q := 39) rfl ?_
    obtain ⟨c3, h⟩ := xi_if_some h
    refine xr_iaload i_X9_digest_39 c3 (q := 40) rfl ?_
    by_cases c4 : (m.1 b2 (Int32.toNatClampNeg (Int32.ofInt 1))) ≤ v3
    · replace h := (if_pos c4).symm.trans h
      refine xr_if_icmp_ge_p i_X9_digest_40 c4 (q := 80) t_X9_digest_40 (q2 := 43) rfl ?_
      refine xr_iconst i_X9_digest_80 (q := 81) rfl ?_
      refine xr_istore_n i_X9_digest_81 rfl (L2 := [some (.ref v0), some (.long v1), none, some (.int (Int32.ofInt 0)), none]) rfl (q := 82) rfl ?_
      exact xi_X_le (xi_le_s (xi_le_s (xi_le_n (xi_le_s (xi_le_n xi_le_z))))) (xs_X9_digest_82 10000 _ _ _ _ h)
    · replace h := (if_neg c4).symm.trans h
      refine xr_if_icmp_ge_n i_X9_digest_40 c4 (q := 80) t_X9_digest_40 (q2 := 43) rfl ?_
      refine xr_iconst i_X9_digest_43 (q := 44) rfl ?_
      refine xr_istore i_X9_digest_44 rfl (L2 := [some (.ref v0), some (.long v1), none, some (.int v3), some (.int (Int32.ofInt 0))]) rfl (q := 46) rfl ?_
      exact xi_X_le (xi_le_s (xi_le_s (xi_le_n (xi_le_s (xi_le_s xi_le_z))))) (xs_X9_digest_46 ih 10000 _ _ _ _ _ h)
def G_X9_digest_6 (S : xi_S) : Nat → Nat → Int64 → Int32 → xi_M → Option xi_R
  | 0, _, _, _, _ => none
  | n + 1, v0, v1, v3, m =>
    if ((Int8.ofInt 16).toInt32) ≤ v3 then
      G_X9_digest_33 S 10000 v0 v1 (Int32.ofInt 0) m
    else
      xi_bI (if S.1 v0 = 11 then E_X9_count S v0 v3 m else none) fun x2 m1 =>
      G_X9_digest_6 S n v0 (((31 : Int64) * v1) + (Int32.toInt64 x2)) (v3 + Int32.ofInt 1) m1
set_option maxRecDepth 100000 in
set_option maxHeartbeats 4000000 in
theorem xs_X9_digest_6 {S : xi_S} {res : xi_R} : ∀ (n : Nat) (v0 : Nat) (v1 : Int64) (v3 : Int32) (m : xi_M), G_X9_digest_6 S n v0 v1 v3 m = some res → xi_X S (P_X9_digest S) (6, [some (.ref v0), some (.long v1), none, some (.int v3), none], [], m) res := by
  intro n
  induction n with
  | zero => intro v0 v1 v3 m h; exact xi_no h
  | succ n ih =>
    intro v0 v1 v3 m h
    unfold G_X9_digest_6 at h
    refine xr_iload_n i_X9_digest_6 rfl (q := 7) rfl ?_
    refine xr_bipush i_X9_digest_7 (q := 9) rfl ?_
    by_cases c3 : ((Int8.ofInt 16).toInt32) ≤ v3
    · replace h := (if_pos c3).symm.trans h
      refine xr_if_icmp_ge_p i_X9_digest_9 c3 (q := 31) t_X9_digest_9 (q2 := 12) rfl ?_
      refine xr_iconst i_X9_digest_31 (q := 32) rfl ?_
      refine xr_istore_n i_X9_digest_32 rfl (L2 := [some (.ref v0), some (.long v1), none, some (.int (Int32.ofInt 0)), none]) rfl (q := 33) rfl ?_
      exact xi_X_le (xi_le_s (xi_le_s (xi_le_n (xi_le_s (xi_le_n xi_le_z))))) (xs_X9_digest_33 10000 _ _ _ _ h)
    · replace h := (if_neg c3).symm.trans h
      refine xr_if_icmp_ge_n i_X9_digest_9 c3 (q := 31) t_X9_digest_9 (q2 := 12) rfl ?_
      refine xr_ldc2_w i_X9_digest_12 xkle_X9_268 (q := 15) rfl ?_
      refine xr_lload_n i_X9_digest_15 rfl (q := 16) rfl ?_
      refine xr_lmul i_X9_digest_16 (q := 17) rfl ?_
      refine xr_aload_n i_X9_digest_17 rfl (q := 18) rfl ?_
      refine xr_iload_n i_X9_digest_18 rfl (q := 19) rfl ?_
      obtain ⟨x2, m1, em1, h⟩ := xi_bI_some h
      refine xr_VI i_X9_digest_19 xcve_X9_272 rfl (As := [.ref v0, .int v3]) rfl (rest := [.long ((31 : Int64) * v1)]) rfl ((cc_X9_digest_272 S _ _ _).trans em1) (q := 22) rfl ?_
      refine xr_i2l i_X9_digest_22 (q := 23) rfl ?_
      refine xr_ladd i_X9_digest_23 (q := 24) rfl ?_
      refine xr_lstore_n i_X9_digest_24 rfl (L2 := [some (.ref v0), some (.long (((31 : Int64) * v1) + (Int32.toInt64 x2))), none, some (.int v3), none]) rfl (q := 25) rfl ?_
      refine xr_iinc i_X9_digest_25 rfl rfl (L2 := [some (.ref v0), some (.long (((31 : Int64) * v1) + (Int32.toInt64 x2))), none, some (.int (v3 + Int32.ofInt 1)), none]) rfl (q := 28) rfl ?_
      refine xr_goto i_X9_digest_28 (q := 6) t_X9_digest_28 ?_
      exact xi_X_le (xi_le_s (xi_le_s (xi_le_n (xi_le_s (xi_le_n xi_le_z))))) (ih _ _ _ _ h)
def E_X9_digest (S : xi_S) (v0 : Nat) (m : xi_M) : Option xi_R :=
  G_X9_digest_6 S 10000 v0 (17 : Int64) (Int32.ofInt 0) m
def F_X9_digest (S : xi_S) : xi_F := fun As m => match As with
  | [.ref v0] => E_X9_digest S v0 m
  | _ => none
set_option maxRecDepth 100000 in
set_option maxHeartbeats 4000000 in
theorem xe_X9_digest {S : xi_S} {res : xi_R} (v0 : Nat) (m : xi_M) (h : E_X9_digest S v0 m = some res) : xi_X S (P_X9_digest S) (0, [some (.ref v0), none, none, none, none], [], m) res := by
  unfold E_X9_digest at h
  refine xr_ldc2_w i_X9_digest_0 xkle_X9_270 (q := 3) rfl ?_
  refine xr_lstore_n i_X9_digest_3 rfl (L2 := [some (.ref v0), some (.long (17 : Int64)), none, none, none]) rfl (q := 4) rfl ?_
  refine xr_iconst i_X9_digest_4 (q := 5) rfl ?_
  refine xr_istore_n i_X9_digest_5 rfl (L2 := [some (.ref v0), some (.long (17 : Int64)), none, some (.int (Int32.ofInt 0)), none]) rfl (q := 6) rfl ?_
  exact xi_X_le (xi_le_s (xi_le_s (xi_le_n (xi_le_s (xi_le_n xi_le_z))))) (xs_X9_digest_6 10000 _ _ _ _ h)
set_option maxRecDepth 100000 in
theorem po_X9_digest {l : Launch} {E : xi_E} {S : xi_S} {D : va_G} {tys : List (ClassId × FieldType)} (hC : xCx E S tys) : xi_Pok l E S D vwCl tys xNs RX9 xTs cX9_digest 5 7 (P_X9_digest S) := ⟨xi_dc_ok, by rw [hC.2]; exact xfo_X9, xkio_X9, xklo_X9, xi_calls_ok (ins := .invokestatic) (List.forall_mem_cons.mpr ⟨(xc_X9_275 (sn_X9_summed hC) (by decide)), fun _ h => absurd h List.not_mem_nil⟩), xi_calls_ok (ins := .invokevirtual) (List.forall_mem_cons.mpr ⟨(xc_X9_170 hC.1 (sn_X9_tellsOf hC) (by decide)), List.forall_mem_cons.mpr ⟨(xc_X9_272 hC.1 (sn_X9_count hC) (by decide)), fun _ h => absurd h List.not_mem_nil⟩⟩)⟩
theorem sn_X9_digest {l : Launch} {E : xi_E} {S : xi_S} {D : va_G} {tys : List (ClassId × FieldType)} (hC : xCx E S tys) : ∀ As m1 r m2, F_X9_digest S As m1 = some (r, m2) → xi_Sound l E S D vwCl tys xNs xTs yX9_digest cX9_digest 5 (some .long) 7 As m1 r m2 := by
  intro As m1 r m2 h
  unfold F_X9_digest at h
  split at h
  · exact xi_meth (P := P_X9_digest S) (by decide) hC.1 (po_X9_digest hC) (Nat.le_of_ble_eq_true rfl) rfl (xe_X9_digest _ _ h)
  · exact xi_no h
