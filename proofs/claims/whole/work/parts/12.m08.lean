theorem i_X8_weightOf_0 : xi_dc cX8_weightOf 0 = some (.lconst 1, 1) := by decide +kernel
theorem i_X8_weightOf_1 : xi_dc cX8_weightOf 1 = some (.lstore_n 3, 1) := by decide +kernel
theorem i_X8_weightOf_2 : xi_dc cX8_weightOf 2 = some (.iconst 0, 1) := by decide +kernel
theorem i_X8_weightOf_3 : xi_dc cX8_weightOf 3 = some (.istore 5, 2) := by decide +kernel
theorem i_X8_weightOf_5 : xi_dc cX8_weightOf 5 = some (.iload 5, 2) := by decide +kernel
theorem i_X8_weightOf_7 : xi_dc cX8_weightOf 7 = some (.aload_n 0, 1) := by decide +kernel
theorem i_X8_weightOf_8 : xi_dc cX8_weightOf 8 = some (.getfield 21, 3) := by decide +kernel
theorem i_X8_weightOf_11 : xi_dc cX8_weightOf 11 = some (.getfield 129, 3) := by decide +kernel
theorem i_X8_weightOf_14 : xi_dc cX8_weightOf 14 = some (.if_icmp .ge 32, 3) := by decide +kernel
theorem t_X8_weightOf_14 : ((14 : Nat) : Int) + 32 = ((46 : Nat) : Int) := by decide +kernel
theorem i_X8_weightOf_17 : xi_dc cX8_weightOf 17 = some (.lload_n 3, 1) := by decide +kernel
theorem i_X8_weightOf_18 : xi_dc cX8_weightOf 18 = some (.iload_n 1, 1) := by decide +kernel
theorem i_X8_weightOf_19 : xi_dc cX8_weightOf 19 = some (.iload 5, 2) := by decide +kernel
theorem i_X8_weightOf_21 : xi_dc cX8_weightOf 21 = some (.ishr, 1) := by decide +kernel
theorem i_X8_weightOf_22 : xi_dc cX8_weightOf 22 = some (.iconst 1, 1) := by decide +kernel
theorem i_X8_weightOf_23 : xi_dc cX8_weightOf 23 = some (.iand, 1) := by decide +kernel
theorem i_X8_weightOf_24 : xi_dc cX8_weightOf 24 = some (.iconst 1, 1) := by decide +kernel
theorem i_X8_weightOf_25 : xi_dc cX8_weightOf 25 = some (.if_icmp .ne 8, 3) := by decide +kernel
theorem t_X8_weightOf_25 : ((25 : Nat) : Int) + 8 = ((33 : Nat) : Int) := by decide +kernel
theorem i_X8_weightOf_28 : xi_dc cX8_weightOf 28 = some (.iload_n 2, 1) := by decide +kernel
theorem i_X8_weightOf_29 : xi_dc cX8_weightOf 29 = some (.i2l, 1) := by decide +kernel
theorem i_X8_weightOf_30 : xi_dc cX8_weightOf 30 = some (.goto 8, 3) := by decide +kernel
theorem t_X8_weightOf_30 : ((30 : Nat) : Int) + 8 = ((38 : Nat) : Int) := by decide +kernel
theorem i_X8_weightOf_33 : xi_dc cX8_weightOf 33 = some (.bipush 12, 2) := by decide +kernel
theorem i_X8_weightOf_35 : xi_dc cX8_weightOf 35 = some (.iload_n 2, 1) := by decide +kernel
theorem i_X8_weightOf_36 : xi_dc cX8_weightOf 36 = some (.isub, 1) := by decide +kernel
theorem i_X8_weightOf_37 : xi_dc cX8_weightOf 37 = some (.i2l, 1) := by decide +kernel
theorem i_X8_weightOf_38 : xi_dc cX8_weightOf 38 = some (.lmul, 1) := by decide +kernel
theorem i_X8_weightOf_39 : xi_dc cX8_weightOf 39 = some (.lstore_n 3, 1) := by decide +kernel
theorem i_X8_weightOf_40 : xi_dc cX8_weightOf 40 = some (.iinc 5 1, 3) := by decide +kernel
theorem i_X8_weightOf_43 : xi_dc cX8_weightOf 43 = some (.goto (-38), 3) := by decide +kernel
theorem t_X8_weightOf_43 : ((43 : Nat) : Int) + (-38) = ((5 : Nat) : Int) := by decide +kernel
theorem i_X8_weightOf_46 : xi_dc cX8_weightOf 46 = some (.lload_n 3, 1) := by decide +kernel
theorem i_X8_weightOf_47 : xi_dc cX8_weightOf 47 = some (.lreturn, 1) := by decide +kernel
def P_X8_weightOf (S : xi_S) : xi_P := (xi_dc cX8_weightOf, xi_tab xfl_X8, xi_tab xki_X8, xi_tab xkl_X8, xi_tab xcs_X8, xi_tab xcv_X8, xi_calls [], xi_calls [], 3)
def G_X8_weightOf_5 (S : xi_S) : Nat → Nat → Int32 → Int32 → Int64 → Int32 → xi_M → Option xi_R
  | 0, _, _, _, _, _, _ => none
  | n + 1, v0, v1, v2, v3, v5, m =>
    if S.1 v0 = 10 then (S.2.2 v0 2).bind fun b2 =>
      if S.1 b2 = 8 then
        if (m.1 b2 1) ≤ v5 then
          some (some (.long v3), m)
        else
          if ((v1 >>> (v5 &&& 31)) &&& (Int32.ofInt 1)) = (Int32.ofInt 1) then
            G_X8_weightOf_5 S n v0 v1 v2 (v3 * (Int32.toInt64 v2)) (v5 + Int32.ofInt 1) m
          else
            G_X8_weightOf_5 S n v0 v1 v2 (v3 * (Int32.toInt64 (((Int8.ofInt 12).toInt32) - v2))) (v5 + Int32.ofInt 1) m
      else none
    else none
set_option maxRecDepth 100000 in
set_option maxHeartbeats 4000000 in
theorem xs_X8_weightOf_5 {S : xi_S} {res : xi_R} : ∀ (n : Nat) (v0 : Nat) (v1 : Int32) (v2 : Int32) (v3 : Int64) (v5 : Int32) (m : xi_M), G_X8_weightOf_5 S n v0 v1 v2 v3 v5 m = some res → xi_X S (P_X8_weightOf S) (5, [some (.ref v0), some (.int v1), some (.int v2), some (.long v3), none, some (.int v5)], [], m) res := by
  intro n
  induction n with
  | zero => intro v0 v1 v2 v3 v5 m h; exact xi_no h
  | succ n ih =>
    intro v0 v1 v2 v3 v5 m h
    unfold G_X8_weightOf_5 at h
    refine xr_iload i_X8_weightOf_5 rfl (q := 7) rfl ?_
    refine xr_aload_n i_X8_weightOf_7 rfl (q := 8) rfl ?_
    obtain ⟨c1, h⟩ := xi_if_some h
    obtain ⟨b2, eb2, h⟩ := xi_bind_some h
    refine xr_getR i_X8_weightOf_8 xfe_X8_21 c1 eb2 (q := 11) rfl ?_
    obtain ⟨c3, h⟩ := xi_if_some h
    refine xr_getI i_X8_weightOf_11 xfe_X8_129 c3 (q := 14) rfl ?_
    by_cases c5 : (m.1 b2 1) ≤ v5
    · replace h := (if_pos c5).symm.trans h
      refine xr_if_icmp_ge_p i_X8_weightOf_14 c5 (q := 46) t_X8_weightOf_14 (q2 := 17) rfl ?_
      refine xr_lload_n i_X8_weightOf_46 rfl (q := 47) rfl ?_
      exact xr_lreturn i_X8_weightOf_47 rfl h
    · replace h := (if_neg c5).symm.trans h
      refine xr_if_icmp_ge_n i_X8_weightOf_14 c5 (q := 46) t_X8_weightOf_14 (q2 := 17) rfl ?_
      refine xr_lload_n i_X8_weightOf_17 rfl (q := 18) rfl ?_
      refine xr_iload_n i_X8_weightOf_18 rfl (q := 19) rfl ?_
      refine xr_iload i_X8_weightOf_19 rfl (q := 21) rfl ?_
      refine xr_ishr i_X8_weightOf_21 (q := 22) rfl ?_
      refine xr_iconst i_X8_weightOf_22 (q := 23) rfl ?_
      refine xr_iand i_X8_weightOf_23 (q := 24) rfl ?_
      refine xr_iconst i_X8_weightOf_24 (q := 25) rfl ?_
      by_cases c4 : ((v1 >>> (v5 &&& 31)) &&& (Int32.ofInt 1)) = (Int32.ofInt 1)
      · replace h := (if_pos c4).symm.trans h
        refine xr_if_icmp_ne_p i_X8_weightOf_25 c4 (q := 33) t_X8_weightOf_25 (q2 := 28) rfl ?_
        refine xr_iload_n i_X8_weightOf_28 rfl (q := 29) rfl ?_
        refine xr_i2l i_X8_weightOf_29 (q := 30) rfl ?_
        refine xr_goto i_X8_weightOf_30 (q := 38) t_X8_weightOf_30 ?_
        refine xr_lmul i_X8_weightOf_38 (q := 39) rfl ?_
        refine xr_lstore_n i_X8_weightOf_39 rfl (L2 := [some (.ref v0), some (.int v1), some (.int v2), some (.long (v3 * (Int32.toInt64 v2))), none, some (.int v5)]) rfl (q := 40) rfl ?_
        refine xr_iinc i_X8_weightOf_40 rfl rfl (L2 := [some (.ref v0), some (.int v1), some (.int v2), some (.long (v3 * (Int32.toInt64 v2))), none, some (.int (v5 + Int32.ofInt 1))]) rfl (q := 43) rfl ?_
        refine xr_goto i_X8_weightOf_43 (q := 5) t_X8_weightOf_43 ?_
        exact xi_X_le (xi_le_s (xi_le_s (xi_le_s (xi_le_s (xi_le_n (xi_le_s xi_le_z)))))) (ih _ _ _ _ _ _ h)
      · replace h := (if_neg c4).symm.trans h
        refine xr_if_icmp_ne_n i_X8_weightOf_25 c4 (q := 33) t_X8_weightOf_25 (q2 := 28) rfl ?_
        refine xr_bipush i_X8_weightOf_33 (q := 35) rfl ?_
        refine xr_iload_n i_X8_weightOf_35 rfl (q := 36) rfl ?_
        refine xr_isub i_X8_weightOf_36 (q := 37) rfl ?_
        refine xr_i2l i_X8_weightOf_37 (q := 38) rfl ?_
        refine xr_lmul i_X8_weightOf_38 (q := 39) rfl ?_
        refine xr_lstore_n i_X8_weightOf_39 rfl (L2 := [some (.ref v0), some (.int v1), some (.int v2), some (.long (v3 * (Int32.toInt64 (((Int8.ofInt 12).toInt32) - v2)))), none, some (.int v5)]) rfl (q := 40) rfl ?_
        refine xr_iinc i_X8_weightOf_40 rfl rfl (L2 := [some (.ref v0), some (.int v1), some (.int v2), some (.long (v3 * (Int32.toInt64 (((Int8.ofInt 12).toInt32) - v2)))), none, some (.int (v5 + Int32.ofInt 1))]) rfl (q := 43) rfl ?_
        refine xr_goto i_X8_weightOf_43 (q := 5) t_X8_weightOf_43 ?_
        exact xi_X_le (xi_le_s (xi_le_s (xi_le_s (xi_le_s (xi_le_n (xi_le_s xi_le_z)))))) (ih _ _ _ _ _ _ h)
def E_X8_weightOf (S : xi_S) (v0 : Nat) (v1 : Int32) (v2 : Int32) (m : xi_M) : Option xi_R :=
  G_X8_weightOf_5 S 10000 v0 v1 v2 (Int64.ofNat ((1 : Fin 2) : Nat)) (Int32.ofInt 0) m
def F_X8_weightOf (S : xi_S) : xi_F := fun As m => match As with
  | [.ref v0, .int v1, .int v2] => E_X8_weightOf S v0 v1 v2 m
  | _ => none
set_option maxRecDepth 100000 in
set_option maxHeartbeats 4000000 in
theorem xe_X8_weightOf {S : xi_S} {res : xi_R} (v0 : Nat) (v1 : Int32) (v2 : Int32) (m : xi_M) (h : E_X8_weightOf S v0 v1 v2 m = some res) : xi_X S (P_X8_weightOf S) (0, [some (.ref v0), some (.int v1), some (.int v2), none, none, none], [], m) res := by
  unfold E_X8_weightOf at h
  refine xr_lconst i_X8_weightOf_0 (q := 1) rfl ?_
  refine xr_lstore_n i_X8_weightOf_1 rfl (L2 := [some (.ref v0), some (.int v1), some (.int v2), some (.long (Int64.ofNat ((1 : Fin 2) : Nat))), none, none]) rfl (q := 2) rfl ?_
  refine xr_iconst i_X8_weightOf_2 (q := 3) rfl ?_
  refine xr_istore i_X8_weightOf_3 rfl (L2 := [some (.ref v0), some (.int v1), some (.int v2), some (.long (Int64.ofNat ((1 : Fin 2) : Nat))), none, some (.int (Int32.ofInt 0))]) rfl (q := 5) rfl ?_
  exact xi_X_le (xi_le_s (xi_le_s (xi_le_s (xi_le_s (xi_le_n (xi_le_s xi_le_z)))))) (xs_X8_weightOf_5 10000 _ _ _ _ _ _ h)
set_option maxRecDepth 100000 in
theorem po_X8_weightOf {l : Launch} {E : xi_E} {S : xi_S} {D : va_G} {tys : List (ClassId × FieldType)} (hC : xCx E S tys) : xi_Pok l E S D vwCl tys xNs RX8 xTs cX8_weightOf 6 0 (P_X8_weightOf S) := ⟨xi_dc_ok, by rw [hC.2]; exact xfo_X8, xkio_X8, xklo_X8, xi_calls_ok (ins := .invokestatic) (fun _ h => absurd h List.not_mem_nil), xi_calls_ok (ins := .invokevirtual) (fun _ h => absurd h List.not_mem_nil)⟩
theorem sn_X8_weightOf {l : Launch} {E : xi_E} {S : xi_S} {D : va_G} {tys : List (ClassId × FieldType)} (hC : xCx E S tys) : ∀ As m1 r m2, F_X8_weightOf S As m1 = some (r, m2) → xi_Sound l E S D vwCl tys xNs xTs yX8_weightOf cX8_weightOf 6 (some .long) 0 As m1 r m2 := by
  intro As m1 r m2 h
  unfold F_X8_weightOf at h
  split at h
  · exact xi_meth (P := P_X8_weightOf S) (by decide) hC.1 (po_X8_weightOf hC) (Nat.le_of_ble_eq_true rfl) rfl (xe_X8_weightOf _ _ _ _ h)
  · exact xi_no h
theorem i_X8_odds_0 : xi_dc cX8_odds 0 = some (.iload_n 1, 1) := by decide +kernel
theorem i_X8_odds_1 : xi_dc cX8_odds 1 = some (.iconst 1, 1) := by decide +kernel
theorem i_X8_odds_2 : xi_dc cX8_odds 2 = some (.invokestatic 71, 3) := by decide +kernel
theorem i_X8_odds_5 : xi_dc cX8_odds 5 = some (.ifCond .eq 12, 3) := by decide +kernel
theorem t_X8_odds_5 : ((5 : Nat) : Int) + 12 = ((17 : Nat) : Int) := by decide +kernel
theorem i_X8_odds_8 : xi_dc cX8_odds 8 = some (.iload_n 2, 1) := by decide +kernel
theorem i_X8_odds_9 : xi_dc cX8_odds 9 = some (.bipush 12, 2) := by decide +kernel
theorem i_X8_odds_11 : xi_dc cX8_odds 11 = some (.invokestatic 71, 3) := by decide +kernel
theorem i_X8_odds_14 : xi_dc cX8_odds 14 = some (.ifCond .ne 5, 3) := by decide +kernel
theorem t_X8_odds_14 : ((14 : Nat) : Int) + 5 = ((19 : Nat) : Int) := by decide +kernel
theorem i_X8_odds_17 : xi_dc cX8_odds 17 = some (.iconst (-1), 1) := by decide +kernel
theorem i_X8_odds_18 : xi_dc cX8_odds 18 = some (.ireturn, 1) := by decide +kernel
theorem i_X8_odds_19 : xi_dc cX8_odds 19 = some (.aload_n 0, 1) := by decide +kernel
theorem i_X8_odds_20 : xi_dc cX8_odds 20 = some (.getfield 21, 3) := by decide +kernel
theorem i_X8_odds_23 : xi_dc cX8_odds 23 = some (.getfield 129, 3) := by decide +kernel
theorem i_X8_odds_26 : xi_dc cX8_odds 26 = some (.ifCond .ne 6, 3) := by decide +kernel
theorem t_X8_odds_26 : ((26 : Nat) : Int) + 6 = ((32 : Nat) : Int) := by decide +kernel
theorem i_X8_odds_29 : xi_dc cX8_odds 29 = some (.bipush (-4), 2) := by decide +kernel
theorem i_X8_odds_31 : xi_dc cX8_odds 31 = some (.ireturn, 1) := by decide +kernel
theorem i_X8_odds_32 : xi_dc cX8_odds 32 = some (.lconst 0, 1) := by decide +kernel
theorem i_X8_odds_33 : xi_dc cX8_odds 33 = some (.lstore_n 3, 1) := by decide +kernel
theorem i_X8_odds_34 : xi_dc cX8_odds 34 = some (.lconst 0, 1) := by decide +kernel
theorem i_X8_odds_35 : xi_dc cX8_odds 35 = some (.lstore 5, 2) := by decide +kernel
theorem i_X8_odds_37 : xi_dc cX8_odds 37 = some (.iconst 0, 1) := by decide +kernel
theorem i_X8_odds_38 : xi_dc cX8_odds 38 = some (.istore 7, 2) := by decide +kernel
theorem i_X8_odds_40 : xi_dc cX8_odds 40 = some (.iload 7, 2) := by decide +kernel
theorem i_X8_odds_42 : xi_dc cX8_odds 42 = some (.iconst 1, 1) := by decide +kernel
theorem i_X8_odds_43 : xi_dc cX8_odds 43 = some (.aload_n 0, 1) := by decide +kernel
theorem i_X8_odds_44 : xi_dc cX8_odds 44 = some (.getfield 21, 3) := by decide +kernel
theorem i_X8_odds_47 : xi_dc cX8_odds 47 = some (.getfield 129, 3) := by decide +kernel
theorem i_X8_odds_50 : xi_dc cX8_odds 50 = some (.ishl, 1) := by decide +kernel
theorem i_X8_odds_51 : xi_dc cX8_odds 51 = some (.if_icmp .ge 43, 3) := by decide +kernel
theorem t_X8_odds_51 : ((51 : Nat) : Int) + 43 = ((94 : Nat) : Int) := by decide +kernel
theorem i_X8_odds_54 : xi_dc cX8_odds 54 = some (.aload_n 0, 1) := by decide +kernel
theorem i_X8_odds_55 : xi_dc cX8_odds 55 = some (.iload 7, 2) := by decide +kernel
theorem i_X8_odds_57 : xi_dc cX8_odds 57 = some (.iload_n 2, 1) := by decide +kernel
theorem i_X8_odds_58 : xi_dc cX8_odds 58 = some (.invokevirtual 285, 3) := by decide +kernel
theorem i_X8_odds_61 : xi_dc cX8_odds 61 = some (.lstore 8, 2) := by decide +kernel
theorem i_X8_odds_63 : xi_dc cX8_odds 63 = some (.lload 5, 2) := by decide +kernel
theorem i_X8_odds_65 : xi_dc cX8_odds 65 = some (.lload 8, 2) := by decide +kernel
theorem i_X8_odds_67 : xi_dc cX8_odds 67 = some (.ladd, 1) := by decide +kernel
theorem i_X8_odds_68 : xi_dc cX8_odds 68 = some (.lstore 5, 2) := by decide +kernel
theorem i_X8_odds_70 : xi_dc cX8_odds 70 = some (.aload_n 0, 1) := by decide +kernel
theorem i_X8_odds_71 : xi_dc cX8_odds 71 = some (.getfield 21, 3) := by decide +kernel
theorem i_X8_odds_74 : xi_dc cX8_odds 74 = some (.iload_n 1, 1) := by decide +kernel
theorem i_X8_odds_75 : xi_dc cX8_odds 75 = some (.iload 7, 2) := by decide +kernel
theorem i_X8_odds_77 : xi_dc cX8_odds 77 = some (.invokevirtual 224, 3) := by decide +kernel
theorem i_X8_odds_80 : xi_dc cX8_odds 80 = some (.ifCond .le 8, 3) := by decide +kernel
theorem t_X8_odds_80 : ((80 : Nat) : Int) + 8 = ((88 : Nat) : Int) := by decide +kernel
theorem i_X8_odds_83 : xi_dc cX8_odds 83 = some (.lload_n 3, 1) := by decide +kernel
theorem i_X8_odds_84 : xi_dc cX8_odds 84 = some (.lload 8, 2) := by decide +kernel
theorem i_X8_odds_86 : xi_dc cX8_odds 86 = some (.ladd, 1) := by decide +kernel
theorem i_X8_odds_87 : xi_dc cX8_odds 87 = some (.lstore_n 3, 1) := by decide +kernel
theorem i_X8_odds_88 : xi_dc cX8_odds 88 = some (.iinc 7 1, 3) := by decide +kernel
theorem i_X8_odds_91 : xi_dc cX8_odds 91 = some (.goto (-51), 3) := by decide +kernel
theorem t_X8_odds_91 : ((91 : Nat) : Int) + (-51) = ((40 : Nat) : Int) := by decide +kernel
theorem i_X8_odds_94 : xi_dc cX8_odds 94 = some (.aload_n 0, 1) := by decide +kernel
theorem i_X8_odds_95 : xi_dc cX8_odds 95 = some (.lload_n 3, 1) := by decide +kernel
theorem i_X8_odds_96 : xi_dc cX8_odds 96 = some (.lload 5, 2) := by decide +kernel
theorem i_X8_odds_98 : xi_dc cX8_odds 98 = some (.invokevirtual 251, 3) := by decide +kernel
theorem i_X8_odds_101 : xi_dc cX8_odds 101 = some (.iconst 1, 1) := by decide +kernel
theorem i_X8_odds_102 : xi_dc cX8_odds 102 = some (.ireturn, 1) := by decide +kernel
def P_X8_odds (S : xi_S) : xi_P := (xi_dc cX8_odds, xi_tab xfl_X8, xi_tab xki_X8, xi_tab xkl_X8, xi_tab xcs_X8, xi_tab xcv_X8, xi_calls [(71, xi_wS 2 (F_X8_within S))], xi_calls [(224, xi_wV S 8 2 (F_X6_advantage S)), (251, xi_wV S 10 2 (F_X8_tell S)), (285, xi_wV S 10 2 (F_X8_weightOf S))], 1)
theorem cc_X8_odds_71 (S : xi_S) (a0 : Int32) (a1 : Int32) (m : xi_M) : (P_X8_odds S).2.2.2.2.2.2.1 71 [.int a0, .int a1] m = (E_X8_within S a0 a1 m) := by
  show xi_calls [(71, xi_wS 2 (F_X8_within S))] 71 [.int a0, .int a1] m = _
  refine Eq.trans (b := xi_wS 2 (F_X8_within S) [.int a0, .int a1] m) (xi_calls_hit rfl) ?_
  exact xi_wS_eq rfl
theorem cc_X8_odds_224 (S : xi_S) (a0 : Nat) (a1 : Int32) (a2 : Int32) (m : xi_M) : (P_X8_odds S).2.2.2.2.2.2.2.1 224 [.ref a0, .int a1, .int a2] m = (if S.1 a0 = 8 then E_X6_advantage S a0 a1 a2 m else none) := by
  show xi_calls [(224, xi_wV S 8 2 (F_X6_advantage S)), (251, xi_wV S 10 2 (F_X8_tell S)), (285, xi_wV S 10 2 (F_X8_weightOf S))] 224 [.ref a0, .int a1, .int a2] m = _
  refine Eq.trans (b := xi_wV S 8 2 (F_X6_advantage S) [.ref a0, .int a1, .int a2] m) (xi_calls_hit rfl) ?_
  exact xi_wV_eq rfl
theorem cc_X8_odds_251 (S : xi_S) (a0 : Nat) (a1 : Int64) (a2 : Int64) (m : xi_M) : (P_X8_odds S).2.2.2.2.2.2.2.1 251 [.ref a0, .long a1, .long a2] m = (if S.1 a0 = 10 then E_X8_tell S a0 a1 a2 m else none) := by
  show xi_calls [(224, xi_wV S 8 2 (F_X6_advantage S)), (251, xi_wV S 10 2 (F_X8_tell S)), (285, xi_wV S 10 2 (F_X8_weightOf S))] 251 [.ref a0, .long a1, .long a2] m = _
  refine Eq.trans (b := xi_calls [(251, xi_wV S 10 2 (F_X8_tell S)), (285, xi_wV S 10 2 (F_X8_weightOf S))] 251 [.ref a0, .long a1, .long a2] m) (xi_calls_miss rfl) ?_
  refine Eq.trans (b := xi_wV S 10 2 (F_X8_tell S) [.ref a0, .long a1, .long a2] m) (xi_calls_hit rfl) ?_
  exact xi_wV_eq rfl
theorem cc_X8_odds_285 (S : xi_S) (a0 : Nat) (a1 : Int32) (a2 : Int32) (m : xi_M) : (P_X8_odds S).2.2.2.2.2.2.2.1 285 [.ref a0, .int a1, .int a2] m = (if S.1 a0 = 10 then E_X8_weightOf S a0 a1 a2 m else none) := by
  show xi_calls [(224, xi_wV S 8 2 (F_X6_advantage S)), (251, xi_wV S 10 2 (F_X8_tell S)), (285, xi_wV S 10 2 (F_X8_weightOf S))] 285 [.ref a0, .int a1, .int a2] m = _
  refine Eq.trans (b := xi_calls [(251, xi_wV S 10 2 (F_X8_tell S)), (285, xi_wV S 10 2 (F_X8_weightOf S))] 285 [.ref a0, .int a1, .int a2] m) (xi_calls_miss rfl) ?_
  refine Eq.trans (b := xi_calls [(285, xi_wV S 10 2 (F_X8_weightOf S))] 285 [.ref a0, .int a1, .int a2] m) (xi_calls_miss rfl) ?_
  refine Eq.trans (b := xi_wV S 10 2 (F_X8_weightOf S) [.ref a0, .int a1, .int a2] m) (xi_calls_hit rfl) ?_
  exact xi_wV_eq rfl
def G_X8_odds_40 (S : xi_S) : Nat → Nat → Int32 → Int32 → Int64 → Int64 → Int32 → xi_M → Option xi_R
  | 0, _, _, _, _, _, _, _ => none
  | n + 1, v0, v1, v2, v3, v5, v7, m =>
    if S.1 v0 = 10 then (S.2.2 v0 2).bind fun b2 =>
      if S.1 b2 = 8 then
        if ((Int32.ofInt 1) <<< ((m.1 b2 1) &&& 31)) ≤ v7 then
          xi_bV (if S.1 v0 = 10 then E_X8_tell S v0 v3 v5 m else none) fun m4 =>
          some (some (.int (Int32.ofInt 1)), m4)
        else
          xi_bJ (if S.1 v0 = 10 then E_X8_weightOf S v0 v7 v2 m else none) fun x6 m5 =>
          if S.1 v0 = 10 then (S.2.2 v0 2).bind fun b8 =>
            xi_bI (if S.1 b8 = 8 then E_X6_advantage S b8 v1 v7 m5 else none) fun x10 m9 =>
            if x10 ≤ 0 then
              G_X8_odds_40 S n v0 v1 v2 v3 (v5 + x6) (v7 + Int32.ofInt 1) m9
            else
              G_X8_odds_40 S n v0 v1 v2 (v3 + x6) (v5 + x6) (v7 + Int32.ofInt 1) m9
          else none
      else none
    else none
set_option maxRecDepth 100000 in
set_option maxHeartbeats 4000000 in
theorem xs_X8_odds_40 {S : xi_S} {res : xi_R} : ∀ (n : Nat) (v0 : Nat) (v1 : Int32) (v2 : Int32) (v3 : Int64) (v5 : Int64) (v7 : Int32) (m : xi_M), G_X8_odds_40 S n v0 v1 v2 v3 v5 v7 m = some res → xi_X S (P_X8_odds S) (40, [some (.ref v0), some (.int v1), some (.int v2), some (.long v3), none, some (.long v5), none, some (.int v7), none, none], [], m) res := by
  intro n
  induction n with
  | zero => intro v0 v1 v2 v3 v5 v7 m h; exact xi_no h
  | succ n ih =>
    intro v0 v1 v2 v3 v5 v7 m h
    unfold G_X8_odds_40 at h
    refine xr_iload i_X8_odds_40 rfl (q := 42) rfl ?_
    refine xr_iconst i_X8_odds_42 (q := 43) rfl ?_
    refine xr_aload_n i_X8_odds_43 rfl (q := 44) rfl ?_
    obtain ⟨c1, h⟩ := xi_if_some h
    obtain ⟨b2, eb2, h⟩ := xi_bind_some h
    refine xr_getR i_X8_odds_44 xfe_X8_21 c1 eb2 (q := 47) rfl ?_
    obtain ⟨c3, h⟩ := xi_if_some h
    refine xr_getI i_X8_odds_47 xfe_X8_129 c3 (q := 50) rfl ?_
    refine xr_ishl i_X8_odds_50 (q := 51) rfl ?_
    by_cases c12 : ((Int32.ofInt 1) <<< ((m.1 b2 1) &&& 31)) ≤ v7
    · replace h := (if_pos c12).symm.trans h
      refine xr_if_icmp_ge_p i_X8_odds_51 c12 (q := 94) t_X8_odds_51 (q2 := 54) rfl ?_
      refine xr_aload_n i_X8_odds_94 rfl (q := 95) rfl ?_
      refine xr_lload_n i_X8_odds_95 rfl (q := 96) rfl ?_
      refine xr_lload i_X8_odds_96 rfl (q := 98) rfl ?_
      obtain ⟨m4, em4, h⟩ := xi_bV_some h
      refine xr_VV i_X8_odds_98 xcve_X8_251 rfl (As := [.ref v0, .long v3, .long v5]) rfl (rest := []) rfl ((cc_X8_odds_251 S _ _ _ _).trans em4) (q := 101) rfl ?_
      refine xr_iconst i_X8_odds_101 (q := 102) rfl ?_
      exact xr_ireturn i_X8_odds_102 rfl h
    · replace h := (if_neg c12).symm.trans h
      refine xr_if_icmp_ge_n i_X8_odds_51 c12 (q := 94) t_X8_odds_51 (q2 := 54) rfl ?_
      refine xr_aload_n i_X8_odds_54 rfl (q := 55) rfl ?_
      refine xr_iload i_X8_odds_55 rfl (q := 57) rfl ?_
      refine xr_iload_n i_X8_odds_57 rfl (q := 58) rfl ?_
      obtain ⟨x6, m5, em5, h⟩ := xi_bJ_some h
      refine xr_VJ i_X8_odds_58 xcve_X8_285 rfl (As := [.ref v0, .int v7, .int v2]) rfl (rest := []) rfl ((cc_X8_odds_285 S _ _ _ _).trans em5) (q := 61) rfl ?_
      refine xr_lstore i_X8_odds_61 rfl (L2 := [some (.ref v0), some (.int v1), some (.int v2), some (.long v3), none, some (.long v5), none, some (.int v7), some (.long x6), none]) rfl (q := 63) rfl ?_
      refine xr_lload i_X8_odds_63 rfl (q := 65) rfl ?_
      refine xr_lload i_X8_odds_65 rfl (q := 67) rfl ?_
      refine xr_ladd i_X8_odds_67 (q := 68) rfl ?_
      refine xr_lstore i_X8_odds_68 rfl (L2 := [some (.ref v0), some (.int v1), some (.int v2), some (.long v3), none, some (.long (v5 + x6)), none, some (.int v7), some (.long x6), none]) rfl (q := 70) rfl ?_
      refine xr_aload_n i_X8_odds_70 rfl (q := 71) rfl ?_
      obtain ⟨c7, h⟩ := xi_if_some h
      obtain ⟨b8, eb8, h⟩ := xi_bind_some h
      refine xr_getR i_X8_odds_71 xfe_X8_21 c7 eb8 (q := 74) rfl ?_
      refine xr_iload_n i_X8_odds_74 rfl (q := 75) rfl ?_
      refine xr_iload i_X8_odds_75 rfl (q := 77) rfl ?_
      obtain ⟨x10, m9, em9, h⟩ := xi_bI_some h
      refine xr_VI i_X8_odds_77 xcve_X8_224 rfl (As := [.ref b8, .int v1, .int v7]) rfl (rest := []) rfl ((cc_X8_odds_224 S _ _ _ _).trans em9) (q := 80) rfl ?_
      by_cases c11 : x10 ≤ 0
      · replace h := (if_pos c11).symm.trans h
        refine xr_ifCond_le_p i_X8_odds_80 c11 (q := 88) t_X8_odds_80 (q2 := 83) rfl ?_
        refine xr_iinc i_X8_odds_88 rfl rfl (L2 := [some (.ref v0), some (.int v1), some (.int v2), some (.long v3), none, some (.long (v5 + x6)), none, some (.int (v7 + Int32.ofInt 1)), some (.long x6), none]) rfl (q := 91) rfl ?_
        refine xr_goto i_X8_odds_91 (q := 40) t_X8_odds_91 ?_
        exact xi_X_le (xi_le_s (xi_le_s (xi_le_s (xi_le_s (xi_le_n (xi_le_s (xi_le_n (xi_le_s (xi_le_n (xi_le_n xi_le_z)))))))))) (ih _ _ _ _ _ _ _ h)
      · replace h := (if_neg c11).symm.trans h
        refine xr_ifCond_le_n i_X8_odds_80 c11 (q := 88) t_X8_odds_80 (q2 := 83) rfl ?_
        refine xr_lload_n i_X8_odds_83 rfl (q := 84) rfl ?_
        refine xr_lload i_X8_odds_84 rfl (q := 86) rfl ?_
        refine xr_ladd i_X8_odds_86 (q := 87) rfl ?_
        refine xr_lstore_n i_X8_odds_87 rfl (L2 := [some (.ref v0), some (.int v1), some (.int v2), some (.long (v3 + x6)), none, some (.long (v5 + x6)), none, some (.int v7), some (.long x6), none]) rfl (q := 88) rfl ?_
        refine xr_iinc i_X8_odds_88 rfl rfl (L2 := [some (.ref v0), some (.int v1), some (.int v2), some (.long (v3 + x6)), none, some (.long (v5 + x6)), none, some (.int (v7 + Int32.ofInt 1)), some (.long x6), none]) rfl (q := 91) rfl ?_
        refine xr_goto i_X8_odds_91 (q := 40) t_X8_odds_91 ?_
        exact xi_X_le (xi_le_s (xi_le_s (xi_le_s (xi_le_s (xi_le_n (xi_le_s (xi_le_n (xi_le_s (xi_le_n (xi_le_n xi_le_z)))))))))) (ih _ _ _ _ _ _ _ h)
def E_X8_odds (S : xi_S) (v0 : Nat) (v1 : Int32) (v2 : Int32) (m : xi_M) : Option xi_R :=
  xi_bI (E_X8_within S v1 (Int32.ofInt 1) m) fun x2 m1 =>
  if x2 = 0 then
    some (some (.int (Int32.ofInt (-1))), m1)
  else
    xi_bI (E_X8_within S v2 ((Int8.ofInt 12).toInt32) m1) fun x4 m3 =>
    if x4 = 0 then
      some (some (.int (Int32.ofInt (-1))), m3)
    else
      if S.1 v0 = 10 then (S.2.2 v0 2).bind fun b6 =>
        if S.1 b6 = 8 then
          if (m3.1 b6 1) = 0 then
            some (some (.int ((Int8.ofInt (-4)).toInt32)), m3)
          else
            G_X8_odds_40 S 10000 v0 v1 v2 (Int64.ofNat ((0 : Fin 2) : Nat)) (Int64.ofNat ((0 : Fin 2) : Nat)) (Int32.ofInt 0) m3
        else none
      else none
def F_X8_odds (S : xi_S) : xi_F := fun As m => match As with
  | [.ref v0, .int v1, .int v2] => E_X8_odds S v0 v1 v2 m
  | _ => none
set_option maxRecDepth 100000 in
set_option maxHeartbeats 4000000 in
theorem xe_X8_odds {S : xi_S} {res : xi_R} (v0 : Nat) (v1 : Int32) (v2 : Int32) (m : xi_M) (h : E_X8_odds S v0 v1 v2 m = some res) : xi_X S (P_X8_odds S) (0, [some (.ref v0), some (.int v1), some (.int v2), none, none, none, none, none, none, none], [], m) res := by
  unfold E_X8_odds at h
  refine xr_iload_n i_X8_odds_0 rfl (q := 1) rfl ?_
  refine xr_iconst i_X8_odds_1 (q := 2) rfl ?_
  obtain ⟨x2, m1, em1, h⟩ := xi_bI_some h
  refine xr_SI i_X8_odds_2 xcse_X8_71 rfl (As := [.int v1, .int (Int32.ofInt 1)]) rfl (rest := []) rfl ((cc_X8_odds_71 S _ _ _).trans em1) (q := 5) rfl ?_
  by_cases c10 : x2 = 0
  · replace h := (if_pos c10).symm.trans h
    refine xr_ifCond_eq_p i_X8_odds_5 c10 (q := 17) t_X8_odds_5 (q2 := 8) rfl ?_
    refine xr_iconst i_X8_odds_17 (q := 18) rfl ?_
    exact xr_ireturn i_X8_odds_18 rfl h
  · replace h := (if_neg c10).symm.trans h
    refine xr_ifCond_eq_n i_X8_odds_5 c10 (q := 17) t_X8_odds_5 (q2 := 8) rfl ?_
    refine xr_iload_n i_X8_odds_8 rfl (q := 9) rfl ?_
    refine xr_bipush i_X8_odds_9 (q := 11) rfl ?_
    obtain ⟨x4, m3, em3, h⟩ := xi_bI_some h
    refine xr_SI i_X8_odds_11 xcse_X8_71 rfl (As := [.int v2, .int ((Int8.ofInt 12).toInt32)]) rfl (rest := []) rfl ((cc_X8_odds_71 S _ _ _).trans em3) (q := 14) rfl ?_
    by_cases c9 : x4 = 0
    · replace h := (if_pos c9).symm.trans h
      refine xr_ifCond_ne_p i_X8_odds_14 c9 (q := 19) t_X8_odds_14 (q2 := 17) rfl ?_
      refine xr_iconst i_X8_odds_17 (q := 18) rfl ?_
      exact xr_ireturn i_X8_odds_18 rfl h
    · replace h := (if_neg c9).symm.trans h
      refine xr_ifCond_ne_n i_X8_odds_14 c9 (q := 19) t_X8_odds_14 (q2 := 17) rfl ?_
      refine xr_aload_n i_X8_odds_19 rfl (q := 20) rfl ?_
      obtain ⟨c5, h⟩ := xi_if_some h
      obtain ⟨b6, eb6, h⟩ := xi_bind_some h
      refine xr_getR i_X8_odds_20 xfe_X8_21 c5 eb6 (q := 23) rfl ?_
      obtain ⟨c7, h⟩ := xi_if_some h
      refine xr_getI i_X8_odds_23 xfe_X8_129 c7 (q := 26) rfl ?_
      by_cases c8 : (m3.1 b6 1) = 0
      · replace h := (if_pos c8).symm.trans h
        refine xr_ifCond_ne_p i_X8_odds_26 c8 (q := 32) t_X8_odds_26 (q2 := 29) rfl ?_
        refine xr_bipush i_X8_odds_29 (q := 31) rfl ?_
        exact xr_ireturn i_X8_odds_31 rfl h
      · replace h := (if_neg c8).symm.trans h
        refine xr_ifCond_ne_n i_X8_odds_26 c8 (q := 32) t_X8_odds_26 (q2 := 29) rfl ?_
        refine xr_lconst i_X8_odds_32 (q := 33) rfl ?_
        refine xr_lstore_n i_X8_odds_33 rfl (L2 := [some (.ref v0), some (.int v1), some (.int v2), some (.long (Int64.ofNat ((0 : Fin 2) : Nat))), none, none, none, none, none, none]) rfl (q := 34) rfl ?_
        refine xr_lconst i_X8_odds_34 (q := 35) rfl ?_
        refine xr_lstore i_X8_odds_35 rfl (L2 := [some (.ref v0), some (.int v1), some (.int v2), some (.long (Int64.ofNat ((0 : Fin 2) : Nat))), none, some (.long (Int64.ofNat ((0 : Fin 2) : Nat))), none, none, none, none]) rfl (q := 37) rfl ?_
        refine xr_iconst i_X8_odds_37 (q := 38) rfl ?_
        refine xr_istore i_X8_odds_38 rfl (L2 := [some (.ref v0), some (.int v1), some (.int v2), some (.long (Int64.ofNat ((0 : Fin 2) : Nat))), none, some (.long (Int64.ofNat ((0 : Fin 2) : Nat))), none, some (.int (Int32.ofInt 0)), none, none]) rfl (q := 40) rfl ?_
        exact xi_X_le (xi_le_s (xi_le_s (xi_le_s (xi_le_s (xi_le_n (xi_le_s (xi_le_n (xi_le_s (xi_le_n (xi_le_n xi_le_z)))))))))) (xs_X8_odds_40 10000 _ _ _ _ _ _ _ h)
set_option maxRecDepth 100000 in
theorem po_X8_odds {l : Launch} {E : xi_E} {S : xi_S} {D : va_G} {tys : List (ClassId × FieldType)} (hC : xCx E S tys) : xi_Pok l E S D vwCl tys xNs RX8 xTs cX8_odds 10 6 (P_X8_odds S) := ⟨xi_dc_ok, by rw [hC.2]; exact xfo_X8, xkio_X8, xklo_X8, xi_calls_ok (ins := .invokestatic) (List.forall_mem_cons.mpr ⟨(xc_X8_71 (sn_X8_within hC) (by decide)), fun _ h => absurd h List.not_mem_nil⟩), xi_calls_ok (ins := .invokevirtual) (List.forall_mem_cons.mpr ⟨(xc_X8_224 hC.1 (sn_X6_advantage hC) (by decide)), List.forall_mem_cons.mpr ⟨(xc_X8_251 hC.1 (sn_X8_tell hC) (by decide)), List.forall_mem_cons.mpr ⟨(xc_X8_285 hC.1 (sn_X8_weightOf hC) (by decide)), fun _ h => absurd h List.not_mem_nil⟩⟩⟩)⟩
theorem sn_X8_odds {l : Launch} {E : xi_E} {S : xi_S} {D : va_G} {tys : List (ClassId × FieldType)} (hC : xCx E S tys) : ∀ As m1 r m2, F_X8_odds S As m1 = some (r, m2) → xi_Sound l E S D vwCl tys xNs xTs yX8_odds cX8_odds 10 (some .int) 6 As m1 r m2 := by
  intro As m1 r m2 h
  unfold F_X8_odds at h
  split at h
  · exact xi_meth (P := P_X8_odds S) (by decide) hC.1 (po_X8_odds hC) (Nat.le_of_ble_eq_true rfl) rfl (xe_X8_odds _ _ _ _ h)
  · exact xi_no h
theorem i_X8_mid_0 : xi_dc cX8_mid 0 = some (.iload_n 1, 1) := by decide +kernel
theorem i_X8_mid_1 : xi_dc cX8_mid 1 = some (.bipush 12, 2) := by decide +kernel
theorem i_X8_mid_3 : xi_dc cX8_mid 3 = some (.invokestatic 71, 3) := by decide +kernel
theorem i_X8_mid_6 : xi_dc cX8_mid 6 = some (.ifCond .ne 5, 3) := by decide +kernel
theorem t_X8_mid_6 : ((6 : Nat) : Int) + 5 = ((11 : Nat) : Int) := by decide +kernel
theorem i_X8_mid_9 : xi_dc cX8_mid 9 = some (.iconst (-1), 1) := by decide +kernel
theorem i_X8_mid_10 : xi_dc cX8_mid 10 = some (.ireturn, 1) := by decide +kernel
theorem i_X8_mid_11 : xi_dc cX8_mid 11 = some (.aload_n 0, 1) := by decide +kernel
theorem i_X8_mid_12 : xi_dc cX8_mid 12 = some (.getfield 21, 3) := by decide +kernel
theorem i_X8_mid_15 : xi_dc cX8_mid 15 = some (.getfield 129, 3) := by decide +kernel
theorem i_X8_mid_18 : xi_dc cX8_mid 18 = some (.ifCond .ne 6, 3) := by decide +kernel
theorem t_X8_mid_18 : ((18 : Nat) : Int) + 6 = ((24 : Nat) : Int) := by decide +kernel
theorem i_X8_mid_21 : xi_dc cX8_mid 21 = some (.bipush (-4), 2) := by decide +kernel
theorem i_X8_mid_23 : xi_dc cX8_mid 23 = some (.ireturn, 1) := by decide +kernel
theorem i_X8_mid_24 : xi_dc cX8_mid 24 = some (.iconst 1, 1) := by decide +kernel
theorem i_X8_mid_25 : xi_dc cX8_mid 25 = some (.aload_n 0, 1) := by decide +kernel
theorem i_X8_mid_26 : xi_dc cX8_mid 26 = some (.getfield 21, 3) := by decide +kernel
theorem i_X8_mid_29 : xi_dc cX8_mid 29 = some (.getfield 129, 3) := by decide +kernel
theorem i_X8_mid_32 : xi_dc cX8_mid 32 = some (.ishl, 1) := by decide +kernel
theorem i_X8_mid_33 : xi_dc cX8_mid 33 = some (.iconst 1, 1) := by decide +kernel
theorem i_X8_mid_34 : xi_dc cX8_mid 34 = some (.isub, 1) := by decide +kernel
theorem i_X8_mid_35 : xi_dc cX8_mid 35 = some (.istore_n 2, 1) := by decide +kernel
theorem i_X8_mid_36 : xi_dc cX8_mid 36 = some (.aload_n 0, 1) := by decide +kernel
theorem i_X8_mid_37 : xi_dc cX8_mid 37 = some (.getfield 21, 3) := by decide +kernel
theorem i_X8_mid_40 : xi_dc cX8_mid 40 = some (.iconst 0, 1) := by decide +kernel
theorem i_X8_mid_41 : xi_dc cX8_mid 41 = some (.invokevirtual 186, 3) := by decide +kernel
theorem i_X8_mid_44 : xi_dc cX8_mid 44 = some (.invokestatic 162, 3) := by decide +kernel
theorem i_X8_mid_47 : xi_dc cX8_mid 47 = some (.istore_n 3, 1) := by decide +kernel
theorem i_X8_mid_48 : xi_dc cX8_mid 48 = some (.aload_n 0, 1) := by decide +kernel
theorem i_X8_mid_49 : xi_dc cX8_mid 49 = some (.getfield 21, 3) := by decide +kernel
theorem i_X8_mid_52 : xi_dc cX8_mid 52 = some (.iload_n 2, 1) := by decide +kernel
theorem i_X8_mid_53 : xi_dc cX8_mid 53 = some (.invokevirtual 186, 3) := by decide +kernel
theorem i_X8_mid_56 : xi_dc cX8_mid 56 = some (.invokestatic 162, 3) := by decide +kernel
theorem i_X8_mid_59 : xi_dc cX8_mid 59 = some (.istore 4, 2) := by decide +kernel
theorem i_X8_mid_61 : xi_dc cX8_mid 61 = some (.aload_n 0, 1) := by decide +kernel
theorem i_X8_mid_62 : xi_dc cX8_mid 62 = some (.iload_n 3, 1) := by decide +kernel
theorem i_X8_mid_63 : xi_dc cX8_mid 63 = some (.bipush 12, 2) := by decide +kernel
theorem i_X8_mid_65 : xi_dc cX8_mid 65 = some (.iload_n 1, 1) := by decide +kernel
theorem i_X8_mid_66 : xi_dc cX8_mid 66 = some (.isub, 1) := by decide +kernel
theorem i_X8_mid_67 : xi_dc cX8_mid 67 = some (.imul, 1) := by decide +kernel
theorem i_X8_mid_68 : xi_dc cX8_mid 68 = some (.iload 4, 2) := by decide +kernel
theorem i_X8_mid_70 : xi_dc cX8_mid 70 = some (.iload_n 1, 1) := by decide +kernel
theorem i_X8_mid_71 : xi_dc cX8_mid 71 = some (.imul, 1) := by decide +kernel
theorem i_X8_mid_72 : xi_dc cX8_mid 72 = some (.iadd, 1) := by decide +kernel
theorem i_X8_mid_73 : xi_dc cX8_mid 73 = some (.i2l, 1) := by decide +kernel
theorem i_X8_mid_74 : xi_dc cX8_mid 74 = some (.ldc2_w 289, 3) := by decide +kernel
theorem i_X8_mid_77 : xi_dc cX8_mid 77 = some (.invokevirtual 251, 3) := by decide +kernel
theorem i_X8_mid_80 : xi_dc cX8_mid 80 = some (.iconst 1, 1) := by decide +kernel
theorem i_X8_mid_81 : xi_dc cX8_mid 81 = some (.ireturn, 1) := by decide +kernel
def P_X8_mid (S : xi_S) : xi_P := (xi_dc cX8_mid, xi_tab xfl_X8, xi_tab xki_X8, xi_tab xkl_X8, xi_tab xcs_X8, xi_tab xcv_X8, xi_calls [(71, xi_wS 2 (F_X8_within S)), (162, xi_wS 1 (F_J6_bitCount_0f7a4 S))], xi_calls [(186, xi_wV S 8 1 (F_X6_scorers S)), (251, xi_wV S 10 2 (F_X8_tell S))], 1)
theorem cc_X8_mid_71 (S : xi_S) (a0 : Int32) (a1 : Int32) (m : xi_M) : (P_X8_mid S).2.2.2.2.2.2.1 71 [.int a0, .int a1] m = (E_X8_within S a0 a1 m) := by
  show xi_calls [(71, xi_wS 2 (F_X8_within S)), (162, xi_wS 1 (F_J6_bitCount_0f7a4 S))] 71 [.int a0, .int a1] m = _
  refine Eq.trans (b := xi_wS 2 (F_X8_within S) [.int a0, .int a1] m) (xi_calls_hit rfl) ?_
  exact xi_wS_eq rfl
theorem cc_X8_mid_162 (S : xi_S) (a0 : Int32) (m : xi_M) : (P_X8_mid S).2.2.2.2.2.2.1 162 [.int a0] m = (E_J6_bitCount_0f7a4 S a0 m) := by
  show xi_calls [(71, xi_wS 2 (F_X8_within S)), (162, xi_wS 1 (F_J6_bitCount_0f7a4 S))] 162 [.int a0] m = _
  refine Eq.trans (b := xi_calls [(162, xi_wS 1 (F_J6_bitCount_0f7a4 S))] 162 [.int a0] m) (xi_calls_miss rfl) ?_
  refine Eq.trans (b := xi_wS 1 (F_J6_bitCount_0f7a4 S) [.int a0] m) (xi_calls_hit rfl) ?_
  exact xi_wS_eq rfl
theorem cc_X8_mid_186 (S : xi_S) (a0 : Nat) (a1 : Int32) (m : xi_M) : (P_X8_mid S).2.2.2.2.2.2.2.1 186 [.ref a0, .int a1] m = (if S.1 a0 = 8 then E_X6_scorers S a0 a1 m else none) := by
  show xi_calls [(186, xi_wV S 8 1 (F_X6_scorers S)), (251, xi_wV S 10 2 (F_X8_tell S))] 186 [.ref a0, .int a1] m = _
  refine Eq.trans (b := xi_wV S 8 1 (F_X6_scorers S) [.ref a0, .int a1] m) (xi_calls_hit rfl) ?_
  exact xi_wV_eq rfl
theorem cc_X8_mid_251 (S : xi_S) (a0 : Nat) (a1 : Int64) (a2 : Int64) (m : xi_M) : (P_X8_mid S).2.2.2.2.2.2.2.1 251 [.ref a0, .long a1, .long a2] m = (if S.1 a0 = 10 then E_X8_tell S a0 a1 a2 m else none) := by
  show xi_calls [(186, xi_wV S 8 1 (F_X6_scorers S)), (251, xi_wV S 10 2 (F_X8_tell S))] 251 [.ref a0, .long a1, .long a2] m = _
  refine Eq.trans (b := xi_calls [(251, xi_wV S 10 2 (F_X8_tell S))] 251 [.ref a0, .long a1, .long a2] m) (xi_calls_miss rfl) ?_
  refine Eq.trans (b := xi_wV S 10 2 (F_X8_tell S) [.ref a0, .long a1, .long a2] m) (xi_calls_hit rfl) ?_
  exact xi_wV_eq rfl
def E_X8_mid (S : xi_S) (v0 : Nat) (v1 : Int32) (m : xi_M) : Option xi_R :=
  xi_bI (E_X8_within S v1 ((Int8.ofInt 12).toInt32) m) fun x2 m1 =>
  if x2 = 0 then
    some (some (.int (Int32.ofInt (-1))), m1)
  else
    if S.1 v0 = 10 then (S.2.2 v0 2).bind fun b4 =>
      if S.1 b4 = 8 then
        if (m1.1 b4 1) = 0 then
          some (some (.int ((Int8.ofInt (-4)).toInt32)), m1)
        else
          if S.1 v0 = 10 then (S.2.2 v0 2).bind fun b7 =>
            if S.1 b7 = 8 then
              if S.1 v0 = 10 then (S.2.2 v0 2).bind fun b10 =>
                xi_bI (if S.1 b10 = 8 then E_X6_scorers S b10 (Int32.ofInt 0) m1 else none) fun x12 m11 =>
                xi_bI (E_J6_bitCount_0f7a4 S x12 m11) fun x14 m13 =>
                if S.1 v0 = 10 then (S.2.2 v0 2).bind fun b16 =>
                  xi_bI (if S.1 b16 = 8 then E_X6_scorers S b16 (((Int32.ofInt 1) <<< ((m1.1 b7 1) &&& 31)) - (Int32.ofInt 1)) m13 else none) fun x18 m17 =>
                  xi_bI (E_J6_bitCount_0f7a4 S x18 m17) fun x20 m19 =>
                  xi_bV (if S.1 v0 = 10 then E_X8_tell S v0 (Int32.toInt64 ((x14 * (((Int8.ofInt 12).toInt32) - v1)) + (x20 * v1))) (12 : Int64) m19 else none) fun m21 =>
                  some (some (.int (Int32.ofInt 1)), m21)
                else none
              else none
            else none
          else none
      else none
    else none
def F_X8_mid (S : xi_S) : xi_F := fun As m => match As with
  | [.ref v0, .int v1] => E_X8_mid S v0 v1 m
  | _ => none
set_option maxRecDepth 100000 in
set_option maxHeartbeats 4000000 in
theorem xe_X8_mid {S : xi_S} {res : xi_R} (v0 : Nat) (v1 : Int32) (m : xi_M) (h : E_X8_mid S v0 v1 m = some res) : xi_X S (P_X8_mid S) (0, [some (.ref v0), some (.int v1), none, none, none], [], m) res := by
  unfold E_X8_mid at h
  refine xr_iload_n i_X8_mid_0 rfl (q := 1) rfl ?_
  refine xr_bipush i_X8_mid_1 (q := 3) rfl ?_
  obtain ⟨x2, m1, em1, h⟩ := xi_bI_some h
  refine xr_SI i_X8_mid_3 xcse_X8_71 rfl (As := [.int v1, .int ((Int8.ofInt 12).toInt32)]) rfl (rest := []) rfl ((cc_X8_mid_71 S _ _ _).trans em1) (q := 6) rfl ?_
  by_cases c23 : x2 = 0
  · replace h := (if_pos c23).symm.trans h
    refine xr_ifCond_ne_p i_X8_mid_6 c23 (q := 11) t_X8_mid_6 (q2 := 9) rfl ?_
    refine xr_iconst i_X8_mid_9 (q := 10) rfl ?_
    exact xr_ireturn i_X8_mid_10 rfl h
  · replace h := (if_neg c23).symm.trans h
    refine xr_ifCond_ne_n i_X8_mid_6 c23 (q := 11) t_X8_mid_6 (q2 := 9) rfl ?_
    refine xr_aload_n i_X8_mid_11 rfl (q := 12) rfl ?_
    obtain ⟨c3, h⟩ := xi_if_some h
    obtain ⟨b4, eb4, h⟩ := xi_bind_some h
    refine xr_getR i_X8_mid_12 xfe_X8_21 c3 eb4 (q := 15) rfl ?_
    obtain ⟨c5, h⟩ := xi_if_some h
    refine xr_getI i_X8_mid_15 xfe_X8_129 c5 (q := 18) rfl ?_
    by_cases c22 : (m1.1 b4 1) = 0
    · replace h := (if_pos c22).symm.trans h
      refine xr_ifCond_ne_p i_X8_mid_18 c22 (q := 24) t_X8_mid_18 (q2 := 21) rfl ?_
      refine xr_bipush i_X8_mid_21 (q := 23) rfl ?_
      exact xr_ireturn i_X8_mid_23 rfl h
    · replace h := (if_neg c22).symm.trans h
      refine xr_ifCond_ne_n i_X8_mid_18 c22 (q := 24) t_X8_mid_18 (q2 := 21) rfl ?_
      refine xr_iconst i_X8_mid_24 (q := 25) rfl ?_
      refine xr_aload_n i_X8_mid_25 rfl (q := 26) rfl ?_
      obtain ⟨c6, h⟩ := xi_if_some h
      obtain ⟨b7, eb7, h⟩ := xi_bind_some h
      refine xr_getR i_X8_mid_26 xfe_X8_21 c6 eb7 (q := 29) rfl ?_
      obtain ⟨c8, h⟩ := xi_if_some h
      refine xr_getI i_X8_mid_29 xfe_X8_129 c8 (q := 32) rfl ?_
      refine xr_ishl i_X8_mid_32 (q := 33) rfl ?_
      refine xr_iconst i_X8_mid_33 (q := 34) rfl ?_
      refine xr_isub i_X8_mid_34 (q := 35) rfl ?_
      refine xr_istore_n i_X8_mid_35 rfl (L2 := [some (.ref v0), some (.int v1), some (.int (((Int32.ofInt 1) <<< ((m1.1 b7 1) &&& 31)) - (Int32.ofInt 1))), none, none]) rfl (q := 36) rfl ?_
      refine xr_aload_n i_X8_mid_36 rfl (q := 37) rfl ?_
      obtain ⟨c9, h⟩ := xi_if_some h
      obtain ⟨b10, eb10, h⟩ := xi_bind_some h
      refine xr_getR i_X8_mid_37 xfe_X8_21 c9 eb10 (q := 40) rfl ?_
      refine xr_iconst i_X8_mid_40 (q := 41) rfl ?_
      obtain ⟨x12, m11, em11, h⟩ := xi_bI_some h
      refine xr_VI i_X8_mid_41 xcve_X8_186 rfl (As := [.ref b10, .int (Int32.ofInt 0)]) rfl (rest := []) rfl ((cc_X8_mid_186 S _ _ _).trans em11) (q := 44) rfl ?_
      obtain ⟨x14, m13, em13, h⟩ := xi_bI_some h
      refine xr_SI i_X8_mid_44 xcse_X8_162 rfl (As := [.int x12]) rfl (rest := []) rfl ((cc_X8_mid_162 S _ _).trans em13) (q := 47) rfl ?_
      refine xr_istore_n i_X8_mid_47 rfl (L2 := [some (.ref v0), some (.int v1), some (.int (((Int32.ofInt 1) <<< ((m1.1 b7 1) &&& 31)) - (Int32.ofInt 1))), some (.int x14), none]) rfl (q := 48) rfl ?_
      refine xr_aload_n i_X8_mid_48 rfl (q := 49) rfl ?_
      obtain ⟨c15, h⟩ := xi_if_some h
      obtain ⟨b16, eb16, h⟩ := xi_bind_some h
      refine xr_getR i_X8_mid_49 xfe_X8_21 c15 eb16 (q := 52) rfl ?_
      refine xr_iload_n i_X8_mid_52 rfl (q := 53) rfl ?_
      obtain ⟨x18, m17, em17, h⟩ := xi_bI_some h
      refine xr_VI i_X8_mid_53 xcve_X8_186 rfl (As := [.ref b16, .int (((Int32.ofInt 1) <<< ((m1.1 b7 1) &&& 31)) - (Int32.ofInt 1))]) rfl (rest := []) rfl ((cc_X8_mid_186 S _ _ _).trans em17) (q := 56) rfl ?_
      obtain ⟨x20, m19, em19, h⟩ := xi_bI_some h
      refine xr_SI i_X8_mid_56 xcse_X8_162 rfl (As := [.int x18]) rfl (rest := []) rfl ((cc_X8_mid_162 S _ _).trans em19) (q := 59) rfl ?_
      refine xr_istore i_X8_mid_59 rfl (L2 := [some (.ref v0), some (.int v1), some (.int (((Int32.ofInt 1) <<< ((m1.1 b7 1) &&& 31)) - (Int32.ofInt 1))), some (.int x14), some (.int x20)]) rfl (q := 61) rfl ?_
      refine xr_aload_n i_X8_mid_61 rfl (q := 62) rfl ?_
      refine xr_iload_n i_X8_mid_62 rfl (q := 63) rfl ?_
      refine xr_bipush i_X8_mid_63 (q := 65) rfl ?_
      refine xr_iload_n i_X8_mid_65 rfl (q := 66) rfl ?_
      refine xr_isub i_X8_mid_66 (q := 67) rfl ?_
      refine xr_imul i_X8_mid_67 (q := 68) rfl ?_
      refine xr_iload i_X8_mid_68 rfl (q := 70) rfl ?_
      refine xr_iload_n i_X8_mid_70 rfl (q := 71) rfl ?_
      refine xr_imul i_X8_mid_71 (q := 72) rfl ?_
      refine xr_iadd i_X8_mid_72 (q := 73) rfl ?_
      refine xr_i2l i_X8_mid_73 (q := 74) rfl ?_
      refine xr_ldc2_w i_X8_mid_74 xkle_X8_289 (q := 77) rfl ?_
      obtain ⟨m21, em21, h⟩ := xi_bV_some h
      refine xr_VV i_X8_mid_77 xcve_X8_251 rfl (As := [.ref v0, .long (Int32.toInt64 ((x14 * (((Int8.ofInt 12).toInt32) - v1)) + (x20 * v1))), .long (12 : Int64)]) rfl (rest := []) rfl ((cc_X8_mid_251 S _ _ _ _).trans em21) (q := 80) rfl ?_
      refine xr_iconst i_X8_mid_80 (q := 81) rfl ?_
      exact xr_ireturn i_X8_mid_81 rfl h
set_option maxRecDepth 100000 in
theorem po_X8_mid {l : Launch} {E : xi_E} {S : xi_S} {D : va_G} {tys : List (ClassId × FieldType)} (hC : xCx E S tys) : xi_Pok l E S D vwCl tys xNs RX8 xTs cX8_mid 5 5 (P_X8_mid S) := ⟨xi_dc_ok, by rw [hC.2]; exact xfo_X8, xkio_X8, xklo_X8, xi_calls_ok (ins := .invokestatic) (List.forall_mem_cons.mpr ⟨(xc_X8_71 (sn_X8_within hC) (by decide)), List.forall_mem_cons.mpr ⟨(xc_X8_162 (sn_J6_bitCount_0f7a4 hC) (by decide)), fun _ h => absurd h List.not_mem_nil⟩⟩), xi_calls_ok (ins := .invokevirtual) (List.forall_mem_cons.mpr ⟨(xc_X8_186 hC.1 (sn_X6_scorers hC) (by decide)), List.forall_mem_cons.mpr ⟨(xc_X8_251 hC.1 (sn_X8_tell hC) (by decide)), fun _ h => absurd h List.not_mem_nil⟩⟩)⟩
theorem sn_X8_mid {l : Launch} {E : xi_E} {S : xi_S} {D : va_G} {tys : List (ClassId × FieldType)} (hC : xCx E S tys) : ∀ As m1 r m2, F_X8_mid S As m1 = some (r, m2) → xi_Sound l E S D vwCl tys xNs xTs yX8_mid cX8_mid 5 (some .int) 5 As m1 r m2 := by
  intro As m1 r m2 h
  unfold F_X8_mid at h
  split at h
  · exact xi_meth (P := P_X8_mid S) (by decide) hC.1 (po_X8_mid hC) (Nat.le_of_ble_eq_true rfl) rfl (xe_X8_mid _ _ _ h)
  · exact xi_no h
theorem i_X8_doByLot_0 : xi_dc cX8_doByLot 0 = some (.iload_n 1, 1) := by decide +kernel
theorem i_X8_doByLot_1 : xi_dc cX8_doByLot 1 = some (.bipush 8, 2) := by decide +kernel
theorem i_X8_doByLot_3 : xi_dc cX8_doByLot 3 = some (.idiv, 1) := by decide +kernel
theorem i_X8_doByLot_4 : xi_dc cX8_doByLot 4 = some (.bipush 8, 2) := by decide +kernel
theorem i_X8_doByLot_6 : xi_dc cX8_doByLot 6 = some (.irem, 1) := by decide +kernel
theorem i_X8_doByLot_7 : xi_dc cX8_doByLot 7 = some (.istore_n 2, 1) := by decide +kernel
theorem i_X8_doByLot_8 : xi_dc cX8_doByLot 8 = some (.iload_n 2, 1) := by decide +kernel
theorem i_X8_doByLot_9 : xi_dc cX8_doByLot 9 = some (.iconst 2, 1) := by decide +kernel
theorem i_X8_doByLot_10 : xi_dc cX8_doByLot 10 = some (.if_icmp .gt 21, 3) := by decide +kernel
theorem t_X8_doByLot_10 : ((10 : Nat) : Int) + 21 = ((31 : Nat) : Int) := by decide +kernel
theorem i_X8_doByLot_13 : xi_dc cX8_doByLot 13 = some (.aload_n 0, 1) := by decide +kernel
theorem i_X8_doByLot_14 : xi_dc cX8_doByLot 14 = some (.getfield 21, 3) := by decide +kernel
theorem i_X8_doByLot_17 : xi_dc cX8_doByLot 17 = some (.aload_n 0, 1) := by decide +kernel
theorem i_X8_doByLot_18 : xi_dc cX8_doByLot 18 = some (.getfield 21, 3) := by decide +kernel
theorem i_X8_doByLot_21 : xi_dc cX8_doByLot 21 = some (.iconst 0, 1) := by decide +kernel
theorem i_X8_doByLot_22 : xi_dc cX8_doByLot 22 = some (.invokevirtual 186, 3) := by decide +kernel
theorem i_X8_doByLot_25 : xi_dc cX8_doByLot 25 = some (.invokevirtual 189, 3) := by decide +kernel
theorem i_X8_doByLot_28 : xi_dc cX8_doByLot 28 = some (.goto 117, 3) := by decide +kernel
theorem t_X8_doByLot_28 : ((28 : Nat) : Int) + 117 = ((145 : Nat) : Int) := by decide +kernel
theorem i_X8_doByLot_31 : xi_dc cX8_doByLot 31 = some (.iload_n 2, 1) := by decide +kernel
theorem i_X8_doByLot_32 : xi_dc cX8_doByLot 32 = some (.iconst 4, 1) := by decide +kernel
theorem i_X8_doByLot_33 : xi_dc cX8_doByLot 33 = some (.if_icmp .gt 55, 3) := by decide +kernel
theorem t_X8_doByLot_33 : ((33 : Nat) : Int) + 55 = ((88 : Nat) : Int) := by decide +kernel
theorem i_X8_doByLot_36 : xi_dc cX8_doByLot 36 = some (.iload_n 1, 1) := by decide +kernel
theorem i_X8_doByLot_37 : xi_dc cX8_doByLot 37 = some (.bipush 64, 2) := by decide +kernel
theorem i_X8_doByLot_39 : xi_dc cX8_doByLot 39 = some (.idiv, 1) := by decide +kernel
theorem i_X8_doByLot_40 : xi_dc cX8_doByLot 40 = some (.iconst 4, 1) := by decide +kernel
theorem i_X8_doByLot_41 : xi_dc cX8_doByLot 41 = some (.irem, 1) := by decide +kernel
theorem i_X8_doByLot_42 : xi_dc cX8_doByLot 42 = some (.istore_n 3, 1) := by decide +kernel
theorem i_X8_doByLot_43 : xi_dc cX8_doByLot 43 = some (.iload_n 2, 1) := by decide +kernel
theorem i_X8_doByLot_44 : xi_dc cX8_doByLot 44 = some (.iconst 3, 1) := by decide +kernel
theorem i_X8_doByLot_45 : xi_dc cX8_doByLot 45 = some (.if_icmp .ne 7, 3) := by decide +kernel
theorem t_X8_doByLot_45 : ((45 : Nat) : Int) + 7 = ((52 : Nat) : Int) := by decide +kernel
theorem i_X8_doByLot_48 : xi_dc cX8_doByLot 48 = some (.iconst (-1), 1) := by decide +kernel
theorem i_X8_doByLot_49 : xi_dc cX8_doByLot 49 = some (.goto 4, 3) := by decide +kernel
theorem t_X8_doByLot_49 : ((49 : Nat) : Int) + 4 = ((53 : Nat) : Int) := by decide +kernel
theorem i_X8_doByLot_52 : xi_dc cX8_doByLot 52 = some (.iconst 1, 1) := by decide +kernel
theorem i_X8_doByLot_53 : xi_dc cX8_doByLot 53 = some (.istore 4, 2) := by decide +kernel
theorem i_X8_doByLot_55 : xi_dc cX8_doByLot 55 = some (.aload_n 0, 1) := by decide +kernel
theorem i_X8_doByLot_56 : xi_dc cX8_doByLot 56 = some (.getfield 21, 3) := by decide +kernel
theorem i_X8_doByLot_59 : xi_dc cX8_doByLot 59 = some (.iload_n 3, 1) := by decide +kernel
theorem i_X8_doByLot_60 : xi_dc cX8_doByLot 60 = some (.aload_n 0, 1) := by decide +kernel
theorem i_X8_doByLot_61 : xi_dc cX8_doByLot 61 = some (.getfield 21, 3) := by decide +kernel
theorem i_X8_doByLot_64 : xi_dc cX8_doByLot 64 = some (.getfield 192, 3) := by decide +kernel
theorem i_X8_doByLot_67 : xi_dc cX8_doByLot 67 = some (.iload_n 3, 1) := by decide +kernel
theorem i_X8_doByLot_68 : xi_dc cX8_doByLot 68 = some (.iload 4, 2) := by decide +kernel
theorem i_X8_doByLot_70 : xi_dc cX8_doByLot 70 = some (.invokestatic 195, 3) := by decide +kernel
theorem i_X8_doByLot_73 : xi_dc cX8_doByLot 73 = some (.ifCond .eq 8, 3) := by decide +kernel
theorem t_X8_doByLot_73 : ((73 : Nat) : Int) + 8 = ((81 : Nat) : Int) := by decide +kernel
theorem i_X8_doByLot_76 : xi_dc cX8_doByLot 76 = some (.iload 4, 2) := by decide +kernel
theorem i_X8_doByLot_78 : xi_dc cX8_doByLot 78 = some (.goto 4, 3) := by decide +kernel
theorem t_X8_doByLot_78 : ((78 : Nat) : Int) + 4 = ((82 : Nat) : Int) := by decide +kernel
theorem i_X8_doByLot_81 : xi_dc cX8_doByLot 81 = some (.iconst 0, 1) := by decide +kernel
theorem i_X8_doByLot_82 : xi_dc cX8_doByLot 82 = some (.invokevirtual 202, 3) := by decide +kernel
theorem i_X8_doByLot_85 : xi_dc cX8_doByLot 85 = some (.goto 60, 3) := by decide +kernel
theorem t_X8_doByLot_85 : ((85 : Nat) : Int) + 60 = ((145 : Nat) : Int) := by decide +kernel
theorem i_X8_doByLot_88 : xi_dc cX8_doByLot 88 = some (.iload_n 2, 1) := by decide +kernel
theorem i_X8_doByLot_89 : xi_dc cX8_doByLot 89 = some (.iconst 5, 1) := by decide +kernel
theorem i_X8_doByLot_90 : xi_dc cX8_doByLot 90 = some (.if_icmp .ne 22, 3) := by decide +kernel
theorem t_X8_doByLot_90 : ((90 : Nat) : Int) + 22 = ((112 : Nat) : Int) := by decide +kernel
theorem i_X8_doByLot_93 : xi_dc cX8_doByLot 93 = some (.aload_n 0, 1) := by decide +kernel
theorem i_X8_doByLot_94 : xi_dc cX8_doByLot 94 = some (.getfield 21, 3) := by decide +kernel
theorem i_X8_doByLot_97 : xi_dc cX8_doByLot 97 = some (.iconst 1, 1) := by decide +kernel
theorem i_X8_doByLot_98 : xi_dc cX8_doByLot 98 = some (.aload_n 0, 1) := by decide +kernel
theorem i_X8_doByLot_99 : xi_dc cX8_doByLot 99 = some (.getfield 21, 3) := by decide +kernel
theorem i_X8_doByLot_102 : xi_dc cX8_doByLot 102 = some (.getfield 176, 3) := by decide +kernel
theorem i_X8_doByLot_105 : xi_dc cX8_doByLot 105 = some (.isub, 1) := by decide +kernel
theorem i_X8_doByLot_106 : xi_dc cX8_doByLot 106 = some (.invokevirtual 206, 3) := by decide +kernel
theorem i_X8_doByLot_109 : xi_dc cX8_doByLot 109 = some (.goto 36, 3) := by decide +kernel
theorem t_X8_doByLot_109 : ((109 : Nat) : Int) + 36 = ((145 : Nat) : Int) := by decide +kernel
theorem i_X8_doByLot_112 : xi_dc cX8_doByLot 112 = some (.aload_n 0, 1) := by decide +kernel
theorem i_X8_doByLot_113 : xi_dc cX8_doByLot 113 = some (.getfield 21, 3) := by decide +kernel
theorem i_X8_doByLot_116 : xi_dc cX8_doByLot 116 = some (.getfield 129, 3) := by decide +kernel
theorem i_X8_doByLot_119 : xi_dc cX8_doByLot 119 = some (.ifCond .le 26, 3) := by decide +kernel
theorem t_X8_doByLot_119 : ((119 : Nat) : Int) + 26 = ((145 : Nat) : Int) := by decide +kernel
theorem i_X8_doByLot_122 : xi_dc cX8_doByLot 122 = some (.aload_n 0, 1) := by decide +kernel
theorem i_X8_doByLot_123 : xi_dc cX8_doByLot 123 = some (.getfield 21, 3) := by decide +kernel
theorem i_X8_doByLot_126 : xi_dc cX8_doByLot 126 = some (.iload_n 1, 1) := by decide +kernel
theorem i_X8_doByLot_127 : xi_dc cX8_doByLot 127 = some (.aload_n 0, 1) := by decide +kernel
theorem i_X8_doByLot_128 : xi_dc cX8_doByLot 128 = some (.getfield 21, 3) := by decide +kernel
theorem i_X8_doByLot_131 : xi_dc cX8_doByLot 131 = some (.getfield 129, 3) := by decide +kernel
theorem i_X8_doByLot_134 : xi_dc cX8_doByLot 134 = some (.irem, 1) := by decide +kernel
theorem i_X8_doByLot_135 : xi_dc cX8_doByLot 135 = some (.iload_n 1, 1) := by decide +kernel
theorem i_X8_doByLot_136 : xi_dc cX8_doByLot 136 = some (.bipush 64, 2) := by decide +kernel
theorem i_X8_doByLot_138 : xi_dc cX8_doByLot 138 = some (.idiv, 1) := by decide +kernel
theorem i_X8_doByLot_139 : xi_dc cX8_doByLot 139 = some (.bipush 21, 2) := by decide +kernel
theorem i_X8_doByLot_141 : xi_dc cX8_doByLot 141 = some (.irem, 1) := by decide +kernel
theorem i_X8_doByLot_142 : xi_dc cX8_doByLot 142 = some (.invokevirtual 209, 3) := by decide +kernel
theorem i_X8_doByLot_145 : xi_dc cX8_doByLot 145 = some (.return_, 1) := by decide +kernel
def P_X8_doByLot (S : xi_S) : xi_P := (xi_dc cX8_doByLot, xi_tab xfl_X8, xi_tab xki_X8, xi_tab xkl_X8, xi_tab xcs_X8, xi_tab xcv_X8, xi_calls [(195, xi_wS 3 (F_X8_mayMove S))], xi_calls [(186, xi_wV S 8 1 (F_X6_scorers S)), (189, xi_wV S 8 1 (F_X6_endTerm S)), (202, xi_wV S 8 2 (F_X6_moveCoat S)), (206, xi_wV S 8 1 (F_X6_turnWeather S)), (209, xi_wV S 8 2 (F_X6_send S))], 0)
theorem cc_X8_doByLot_195 (S : xi_S) (a0 : Nat) (a1 : Int32) (a2 : Int32) (m : xi_M) : (P_X8_doByLot S).2.2.2.2.2.2.1 195 [.ref a0, .int a1, .int a2] m = (E_X8_mayMove S a0 a1 a2 m) := by
  show xi_calls [(195, xi_wS 3 (F_X8_mayMove S))] 195 [.ref a0, .int a1, .int a2] m = _
  refine Eq.trans (b := xi_wS 3 (F_X8_mayMove S) [.ref a0, .int a1, .int a2] m) (xi_calls_hit rfl) ?_
  exact xi_wS_eq rfl
theorem cc_X8_doByLot_186 (S : xi_S) (a0 : Nat) (a1 : Int32) (m : xi_M) : (P_X8_doByLot S).2.2.2.2.2.2.2.1 186 [.ref a0, .int a1] m = (if S.1 a0 = 8 then E_X6_scorers S a0 a1 m else none) := by
  show xi_calls [(186, xi_wV S 8 1 (F_X6_scorers S)), (189, xi_wV S 8 1 (F_X6_endTerm S)), (202, xi_wV S 8 2 (F_X6_moveCoat S)), (206, xi_wV S 8 1 (F_X6_turnWeather S)), (209, xi_wV S 8 2 (F_X6_send S))] 186 [.ref a0, .int a1] m = _
  refine Eq.trans (b := xi_wV S 8 1 (F_X6_scorers S) [.ref a0, .int a1] m) (xi_calls_hit rfl) ?_
  exact xi_wV_eq rfl
theorem cc_X8_doByLot_189 (S : xi_S) (a0 : Nat) (a1 : Int32) (m : xi_M) : (P_X8_doByLot S).2.2.2.2.2.2.2.1 189 [.ref a0, .int a1] m = (if S.1 a0 = 8 then E_X6_endTerm S a0 a1 m else none) := by
  show xi_calls [(186, xi_wV S 8 1 (F_X6_scorers S)), (189, xi_wV S 8 1 (F_X6_endTerm S)), (202, xi_wV S 8 2 (F_X6_moveCoat S)), (206, xi_wV S 8 1 (F_X6_turnWeather S)), (209, xi_wV S 8 2 (F_X6_send S))] 189 [.ref a0, .int a1] m = _
  refine Eq.trans (b := xi_calls [(189, xi_wV S 8 1 (F_X6_endTerm S)), (202, xi_wV S 8 2 (F_X6_moveCoat S)), (206, xi_wV S 8 1 (F_X6_turnWeather S)), (209, xi_wV S 8 2 (F_X6_send S))] 189 [.ref a0, .int a1] m) (xi_calls_miss rfl) ?_
  refine Eq.trans (b := xi_wV S 8 1 (F_X6_endTerm S) [.ref a0, .int a1] m) (xi_calls_hit rfl) ?_
  exact xi_wV_eq rfl
theorem cc_X8_doByLot_202 (S : xi_S) (a0 : Nat) (a1 : Int32) (a2 : Int32) (m : xi_M) : (P_X8_doByLot S).2.2.2.2.2.2.2.1 202 [.ref a0, .int a1, .int a2] m = (if S.1 a0 = 8 then E_X6_moveCoat S a0 a1 a2 m else none) := by
  show xi_calls [(186, xi_wV S 8 1 (F_X6_scorers S)), (189, xi_wV S 8 1 (F_X6_endTerm S)), (202, xi_wV S 8 2 (F_X6_moveCoat S)), (206, xi_wV S 8 1 (F_X6_turnWeather S)), (209, xi_wV S 8 2 (F_X6_send S))] 202 [.ref a0, .int a1, .int a2] m = _
  refine Eq.trans (b := xi_calls [(189, xi_wV S 8 1 (F_X6_endTerm S)), (202, xi_wV S 8 2 (F_X6_moveCoat S)), (206, xi_wV S 8 1 (F_X6_turnWeather S)), (209, xi_wV S 8 2 (F_X6_send S))] 202 [.ref a0, .int a1, .int a2] m) (xi_calls_miss rfl) ?_
  refine Eq.trans (b := xi_calls [(202, xi_wV S 8 2 (F_X6_moveCoat S)), (206, xi_wV S 8 1 (F_X6_turnWeather S)), (209, xi_wV S 8 2 (F_X6_send S))] 202 [.ref a0, .int a1, .int a2] m) (xi_calls_miss rfl) ?_
  refine Eq.trans (b := xi_wV S 8 2 (F_X6_moveCoat S) [.ref a0, .int a1, .int a2] m) (xi_calls_hit rfl) ?_
  exact xi_wV_eq rfl
theorem cc_X8_doByLot_206 (S : xi_S) (a0 : Nat) (a1 : Int32) (m : xi_M) : (P_X8_doByLot S).2.2.2.2.2.2.2.1 206 [.ref a0, .int a1] m = (if S.1 a0 = 8 then E_X6_turnWeather S a0 a1 m else none) := by
  show xi_calls [(186, xi_wV S 8 1 (F_X6_scorers S)), (189, xi_wV S 8 1 (F_X6_endTerm S)), (202, xi_wV S 8 2 (F_X6_moveCoat S)), (206, xi_wV S 8 1 (F_X6_turnWeather S)), (209, xi_wV S 8 2 (F_X6_send S))] 206 [.ref a0, .int a1] m = _
  refine Eq.trans (b := xi_calls [(189, xi_wV S 8 1 (F_X6_endTerm S)), (202, xi_wV S 8 2 (F_X6_moveCoat S)), (206, xi_wV S 8 1 (F_X6_turnWeather S)), (209, xi_wV S 8 2 (F_X6_send S))] 206 [.ref a0, .int a1] m) (xi_calls_miss rfl) ?_
  refine Eq.trans (b := xi_calls [(202, xi_wV S 8 2 (F_X6_moveCoat S)), (206, xi_wV S 8 1 (F_X6_turnWeather S)), (209, xi_wV S 8 2 (F_X6_send S))] 206 [.ref a0, .int a1] m) (xi_calls_miss rfl) ?_
  refine Eq.trans (b := xi_calls [(206, xi_wV S 8 1 (F_X6_turnWeather S)), (209, xi_wV S 8 2 (F_X6_send S))] 206 [.ref a0, .int a1] m) (xi_calls_miss rfl) ?_
  refine Eq.trans (b := xi_wV S 8 1 (F_X6_turnWeather S) [.ref a0, .int a1] m) (xi_calls_hit rfl) ?_
  exact xi_wV_eq rfl
theorem cc_X8_doByLot_209 (S : xi_S) (a0 : Nat) (a1 : Int32) (a2 : Int32) (m : xi_M) : (P_X8_doByLot S).2.2.2.2.2.2.2.1 209 [.ref a0, .int a1, .int a2] m = (if S.1 a0 = 8 then E_X6_send S a0 a1 a2 m else none) := by
  show xi_calls [(186, xi_wV S 8 1 (F_X6_scorers S)), (189, xi_wV S 8 1 (F_X6_endTerm S)), (202, xi_wV S 8 2 (F_X6_moveCoat S)), (206, xi_wV S 8 1 (F_X6_turnWeather S)), (209, xi_wV S 8 2 (F_X6_send S))] 209 [.ref a0, .int a1, .int a2] m = _
  refine Eq.trans (b := xi_calls [(189, xi_wV S 8 1 (F_X6_endTerm S)), (202, xi_wV S 8 2 (F_X6_moveCoat S)), (206, xi_wV S 8 1 (F_X6_turnWeather S)), (209, xi_wV S 8 2 (F_X6_send S))] 209 [.ref a0, .int a1, .int a2] m) (xi_calls_miss rfl) ?_
  refine Eq.trans (b := xi_calls [(202, xi_wV S 8 2 (F_X6_moveCoat S)), (206, xi_wV S 8 1 (F_X6_turnWeather S)), (209, xi_wV S 8 2 (F_X6_send S))] 209 [.ref a0, .int a1, .int a2] m) (xi_calls_miss rfl) ?_
  refine Eq.trans (b := xi_calls [(206, xi_wV S 8 1 (F_X6_turnWeather S)), (209, xi_wV S 8 2 (F_X6_send S))] 209 [.ref a0, .int a1, .int a2] m) (xi_calls_miss rfl) ?_
  refine Eq.trans (b := xi_calls [(209, xi_wV S 8 2 (F_X6_send S))] 209 [.ref a0, .int a1, .int a2] m) (xi_calls_miss rfl) ?_
  refine Eq.trans (b := xi_wV S 8 2 (F_X6_send S) [.ref a0, .int a1, .int a2] m) (xi_calls_hit rfl) ?_
  exact xi_wV_eq rfl
def E_X8_doByLot (S : xi_S) (v0 : Nat) (v1 : Int32) (m : xi_M) : Option xi_R :=
  if ((Int8.ofInt 8).toInt32) = 0 then none else
  if ((Int8.ofInt 8).toInt32) = 0 then none else
  if (Int32.ofInt 2) < ((v1 / ((Int8.ofInt 8).toInt32)) - (v1 / ((Int8.ofInt 8).toInt32)) / ((Int8.ofInt 8).toInt32) * ((Int8.ofInt 8).toInt32)) then
    if (Int32.ofInt 4) < ((v1 / ((Int8.ofInt 8).toInt32)) - (v1 / ((Int8.ofInt 8).toInt32)) / ((Int8.ofInt 8).toInt32) * ((Int8.ofInt 8).toInt32)) then
      if ((v1 / ((Int8.ofInt 8).toInt32)) - (v1 / ((Int8.ofInt 8).toInt32)) / ((Int8.ofInt 8).toInt32) * ((Int8.ofInt 8).toInt32)) = (Int32.ofInt 5) then
        if S.1 v0 = 10 then (S.2.2 v0 2).bind fun b17 =>
          if S.1 v0 = 10 then (S.2.2 v0 2).bind fun b19 =>
            if S.1 b19 = 8 then
              xi_bV (if S.1 b17 = 8 then E_X6_turnWeather S b17 ((Int32.ofInt 1) - (m.1 b19 3)) m else none) fun m21 =>
              some (none, m21)
            else none
          else none
        else none
      else
        if S.1 v0 = 10 then (S.2.2 v0 2).bind fun b4 =>
          if S.1 b4 = 8 then
            if (m.1 b4 1) ≤ 0 then
              some (none, m)
            else
              if S.1 v0 = 10 then (S.2.2 v0 2).bind fun b7 =>
                if S.1 v0 = 10 then (S.2.2 v0 2).bind fun b9 =>
                  if S.1 b9 = 8 then
                    if (m.1 b9 1) = 0 then none else
                    if ((Int8.ofInt 64).toInt32) = 0 then none else
                    if ((Int8.ofInt 21).toInt32) = 0 then none else
                    xi_bV (if S.1 b7 = 8 then E_X6_send S b7 (v1 - v1 / (m.1 b9 1) * (m.1 b9 1)) ((v1 / ((Int8.ofInt 64).toInt32)) - (v1 / ((Int8.ofInt 64).toInt32)) / ((Int8.ofInt 21).toInt32) * ((Int8.ofInt 21).toInt32)) m else none) fun m14 =>
                    some (none, m14)
                  else none
                else none
              else none
          else none
        else none
    else
      if ((Int8.ofInt 64).toInt32) = 0 then none else
      if (Int32.ofInt 4) = 0 then none else
      if ((v1 / ((Int8.ofInt 8).toInt32)) - (v1 / ((Int8.ofInt 8).toInt32)) / ((Int8.ofInt 8).toInt32) * ((Int8.ofInt 8).toInt32)) = (Int32.ofInt 3) then
        if S.1 v0 = 10 then (S.2.2 v0 2).bind fun b37 =>
          if S.1 v0 = 10 then (S.2.2 v0 2).bind fun b39 =>
            if S.1 b39 = 8 then (S.2.2 b39 5).bind fun b41 =>
              xi_bI (E_X8_mayMove S b41 ((v1 / ((Int8.ofInt 64).toInt32)) - (v1 / ((Int8.ofInt 64).toInt32)) / (Int32.ofInt 4) * (Int32.ofInt 4)) (Int32.ofInt (-1)) m) fun x43 m42 =>
              if x43 = 0 then
                xi_bV (if S.1 b37 = 8 then E_X6_moveCoat S b37 ((v1 / ((Int8.ofInt 64).toInt32)) - (v1 / ((Int8.ofInt 64).toInt32)) / (Int32.ofInt 4) * (Int32.ofInt 4)) (Int32.ofInt 0) m42 else none) fun m44 =>
                some (none, m44)
              else
                xi_bV (if S.1 b37 = 8 then E_X6_moveCoat S b37 ((v1 / ((Int8.ofInt 64).toInt32)) - (v1 / ((Int8.ofInt 64).toInt32)) / (Int32.ofInt 4) * (Int32.ofInt 4)) (Int32.ofInt (-1)) m42 else none) fun m45 =>
                some (none, m45)
            else none
          else none
        else none
      else
        if S.1 v0 = 10 then (S.2.2 v0 2).bind fun b26 =>
          if S.1 v0 = 10 then (S.2.2 v0 2).bind fun b28 =>
            if S.1 b28 = 8 then (S.2.2 b28 5).bind fun b30 =>
              xi_bI (E_X8_mayMove S b30 ((v1 / ((Int8.ofInt 64).toInt32)) - (v1 / ((Int8.ofInt 64).toInt32)) / (Int32.ofInt 4) * (Int32.ofInt 4)) (Int32.ofInt 1) m) fun x32 m31 =>
              if x32 = 0 then
                xi_bV (if S.1 b26 = 8 then E_X6_moveCoat S b26 ((v1 / ((Int8.ofInt 64).toInt32)) - (v1 / ((Int8.ofInt 64).toInt32)) / (Int32.ofInt 4) * (Int32.ofInt 4)) (Int32.ofInt 0) m31 else none) fun m33 =>
                some (none, m33)
              else
                xi_bV (if S.1 b26 = 8 then E_X6_moveCoat S b26 ((v1 / ((Int8.ofInt 64).toInt32)) - (v1 / ((Int8.ofInt 64).toInt32)) / (Int32.ofInt 4) * (Int32.ofInt 4)) (Int32.ofInt 1) m31 else none) fun m34 =>
                some (none, m34)
            else none
          else none
        else none
  else
    if S.1 v0 = 10 then (S.2.2 v0 2).bind fun b50 =>
      if S.1 v0 = 10 then (S.2.2 v0 2).bind fun b52 =>
        xi_bI (if S.1 b52 = 8 then E_X6_scorers S b52 (Int32.ofInt 0) m else none) fun x54 m53 =>
        xi_bV (if S.1 b50 = 8 then E_X6_endTerm S b50 x54 m53 else none) fun m55 =>
        some (none, m55)
      else none
    else none
def F_X8_doByLot (S : xi_S) : xi_F := fun As m => match As with
  | [.ref v0, .int v1] => E_X8_doByLot S v0 v1 m
  | _ => none
set_option maxRecDepth 100000 in
set_option maxHeartbeats 4000000 in
theorem xe_X8_doByLot {S : xi_S} {res : xi_R} (v0 : Nat) (v1 : Int32) (m : xi_M) (h : E_X8_doByLot S v0 v1 m = some res) : xi_X S (P_X8_doByLot S) (0, [some (.ref v0), some (.int v1), none, none, none], [], m) res := by
  unfold E_X8_doByLot at h
  refine xr_iload_n i_X8_doByLot_0 rfl (q := 1) rfl ?_
  refine xr_bipush i_X8_doByLot_1 (q := 3) rfl ?_
  obtain ⟨c1, h⟩ := xi_ifn_some h
  refine xr_idiv i_X8_doByLot_3 c1 (q := 4) rfl ?_
  refine xr_bipush i_X8_doByLot_4 (q := 6) rfl ?_
  obtain ⟨c2, h⟩ := xi_ifn_some h
  refine xr_irem i_X8_doByLot_6 c2 (q := 7) rfl ?_
  refine xr_istore_n i_X8_doByLot_7 rfl (L2 := [some (.ref v0), some (.int v1), some (.int ((v1 / ((Int8.ofInt 8).toInt32)) - (v1 / ((Int8.ofInt 8).toInt32)) / ((Int8.ofInt 8).toInt32) * ((Int8.ofInt 8).toInt32))), none, none]) rfl (q := 8) rfl ?_
  refine xr_iload_n i_X8_doByLot_8 rfl (q := 9) rfl ?_
  refine xr_iconst i_X8_doByLot_9 (q := 10) rfl ?_
  by_cases c56 : (Int32.ofInt 2) < ((v1 / ((Int8.ofInt 8).toInt32)) - (v1 / ((Int8.ofInt 8).toInt32)) / ((Int8.ofInt 8).toInt32) * ((Int8.ofInt 8).toInt32))
  · replace h := (if_pos c56).symm.trans h
    refine xr_if_icmp_gt_p i_X8_doByLot_10 c56 (q := 31) t_X8_doByLot_10 (q2 := 13) rfl ?_
    refine xr_iload_n i_X8_doByLot_31 rfl (q := 32) rfl ?_
    refine xr_iconst i_X8_doByLot_32 (q := 33) rfl ?_
    by_cases c48 : (Int32.ofInt 4) < ((v1 / ((Int8.ofInt 8).toInt32)) - (v1 / ((Int8.ofInt 8).toInt32)) / ((Int8.ofInt 8).toInt32) * ((Int8.ofInt 8).toInt32))
    · replace h := (if_pos c48).symm.trans h
      refine xr_if_icmp_gt_p i_X8_doByLot_33 c48 (q := 88) t_X8_doByLot_33 (q2 := 36) rfl ?_
      refine xr_iload_n i_X8_doByLot_88 rfl (q := 89) rfl ?_
      refine xr_iconst i_X8_doByLot_89 (q := 90) rfl ?_
      by_cases c22 : ((v1 / ((Int8.ofInt 8).toInt32)) - (v1 / ((Int8.ofInt 8).toInt32)) / ((Int8.ofInt 8).toInt32) * ((Int8.ofInt 8).toInt32)) = (Int32.ofInt 5)
      · replace h := (if_pos c22).symm.trans h
        refine xr_if_icmp_ne_p i_X8_doByLot_90 c22 (q := 112) t_X8_doByLot_90 (q2 := 93) rfl ?_
        refine xr_aload_n i_X8_doByLot_93 rfl (q := 94) rfl ?_
        obtain ⟨c16, h⟩ := xi_if_some h
        obtain ⟨b17, eb17, h⟩ := xi_bind_some h
        refine xr_getR i_X8_doByLot_94 xfe_X8_21 c16 eb17 (q := 97) rfl ?_
        refine xr_iconst i_X8_doByLot_97 (q := 98) rfl ?_
        refine xr_aload_n i_X8_doByLot_98 rfl (q := 99) rfl ?_
        obtain ⟨c18, h⟩ := xi_if_some h
        obtain ⟨b19, eb19, h⟩ := xi_bind_some h
        refine xr_getR i_X8_doByLot_99 xfe_X8_21 c18 eb19 (q := 102) rfl ?_
        obtain ⟨c20, h⟩ := xi_if_some h
        refine xr_getI i_X8_doByLot_102 xfe_X8_176 c20 (q := 105) rfl ?_
        refine xr_isub i_X8_doByLot_105 (q := 106) rfl ?_
        obtain ⟨m21, em21, h⟩ := xi_bV_some h
        refine xr_VV i_X8_doByLot_106 xcve_X8_206 rfl (As := [.ref b17, .int ((Int32.ofInt 1) - (m.1 b19 3))]) rfl (rest := []) rfl ((cc_X8_doByLot_206 S _ _ _).trans em21) (q := 109) rfl ?_
        refine xr_goto i_X8_doByLot_109 (q := 145) t_X8_doByLot_109 ?_
        exact xr_return i_X8_doByLot_145 rfl h
      · replace h := (if_neg c22).symm.trans h
        refine xr_if_icmp_ne_n i_X8_doByLot_90 c22 (q := 112) t_X8_doByLot_90 (q2 := 93) rfl ?_
        refine xr_aload_n i_X8_doByLot_112 rfl (q := 113) rfl ?_
        obtain ⟨c3, h⟩ := xi_if_some h
        obtain ⟨b4, eb4, h⟩ := xi_bind_some h
        refine xr_getR i_X8_doByLot_113 xfe_X8_21 c3 eb4 (q := 116) rfl ?_
        obtain ⟨c5, h⟩ := xi_if_some h
        refine xr_getI i_X8_doByLot_116 xfe_X8_129 c5 (q := 119) rfl ?_
        by_cases c15 : (m.1 b4 1) ≤ 0
        · replace h := (if_pos c15).symm.trans h
          refine xr_ifCond_le_p i_X8_doByLot_119 c15 (q := 145) t_X8_doByLot_119 (q2 := 122) rfl ?_
          exact xr_return i_X8_doByLot_145 rfl h
        · replace h := (if_neg c15).symm.trans h
          refine xr_ifCond_le_n i_X8_doByLot_119 c15 (q := 145) t_X8_doByLot_119 (q2 := 122) rfl ?_
          refine xr_aload_n i_X8_doByLot_122 rfl (q := 123) rfl ?_
          obtain ⟨c6, h⟩ := xi_if_some h
          obtain ⟨b7, eb7, h⟩ := xi_bind_some h
          refine xr_getR i_X8_doByLot_123 xfe_X8_21 c6 eb7 (q := 126) rfl ?_
          refine xr_iload_n i_X8_doByLot_126 rfl (q := 127) rfl ?_
          refine xr_aload_n i_X8_doByLot_127 rfl (q := 128) rfl ?_
          obtain ⟨c8, h⟩ := xi_if_some h
          obtain ⟨b9, eb9, h⟩ := xi_bind_some h
          refine xr_getR i_X8_doByLot_128 xfe_X8_21 c8 eb9 (q := 131) rfl ?_
          obtain ⟨c10, h⟩ := xi_if_some h
          refine xr_getI i_X8_doByLot_131 xfe_X8_129 c10 (q := 134) rfl ?_
          obtain ⟨c11, h⟩ := xi_ifn_some h
          refine xr_irem i_X8_doByLot_134 c11 (q := 135) rfl ?_
          refine xr_iload_n i_X8_doByLot_135 rfl (q := 136) rfl ?_
          refine xr_bipush i_X8_doByLot_136 (q := 138) rfl ?_
          obtain ⟨c12, h⟩ := xi_ifn_some h
          refine xr_idiv i_X8_doByLot_138 c12 (q := 139) rfl ?_
          refine xr_bipush i_X8_doByLot_139 (q := 141) rfl ?_
          obtain ⟨c13, h⟩ := xi_ifn_some h
          refine xr_irem i_X8_doByLot_141 c13 (q := 142) rfl ?_
          obtain ⟨m14, em14, h⟩ := xi_bV_some h
          refine xr_VV i_X8_doByLot_142 xcve_X8_209 rfl (As := [.ref b7, .int (v1 - v1 / (m.1 b9 1) * (m.1 b9 1)), .int ((v1 / ((Int8.ofInt 64).toInt32)) - (v1 / ((Int8.ofInt 64).toInt32)) / ((Int8.ofInt 21).toInt32) * ((Int8.ofInt 21).toInt32))]) rfl (rest := []) rfl ((cc_X8_doByLot_209 S _ _ _ _).trans em14) (q := 145) rfl ?_
          exact xr_return i_X8_doByLot_145 rfl h
    · replace h := (if_neg c48).symm.trans h
      refine xr_if_icmp_gt_n i_X8_doByLot_33 c48 (q := 88) t_X8_doByLot_33 (q2 := 36) rfl ?_
      refine xr_iload_n i_X8_doByLot_36 rfl (q := 37) rfl ?_
      refine xr_bipush i_X8_doByLot_37 (q := 39) rfl ?_
      obtain ⟨c23, h⟩ := xi_ifn_some h
      refine xr_idiv i_X8_doByLot_39 c23 (q := 40) rfl ?_
      refine xr_iconst i_X8_doByLot_40 (q := 41) rfl ?_
      obtain ⟨c24, h⟩ := xi_ifn_some h
      refine xr_irem i_X8_doByLot_41 c24 (q := 42) rfl ?_
      refine xr_istore_n i_X8_doByLot_42 rfl (L2 := [some (.ref v0), some (.int v1), some (.int ((v1 / ((Int8.ofInt 8).toInt32)) - (v1 / ((Int8.ofInt 8).toInt32)) / ((Int8.ofInt 8).toInt32) * ((Int8.ofInt 8).toInt32))), some (.int ((v1 / ((Int8.ofInt 64).toInt32)) - (v1 / ((Int8.ofInt 64).toInt32)) / (Int32.ofInt 4) * (Int32.ofInt 4))), none]) rfl (q := 43) rfl ?_
      refine xr_iload_n i_X8_doByLot_43 rfl (q := 44) rfl ?_
      refine xr_iconst i_X8_doByLot_44 (q := 45) rfl ?_
      by_cases c47 : ((v1 / ((Int8.ofInt 8).toInt32)) - (v1 / ((Int8.ofInt 8).toInt32)) / ((Int8.ofInt 8).toInt32) * ((Int8.ofInt 8).toInt32)) = (Int32.ofInt 3)
      · replace h := (if_pos c47).symm.trans h
        refine xr_if_icmp_ne_p i_X8_doByLot_45 c47 (q := 52) t_X8_doByLot_45 (q2 := 48) rfl ?_
        refine xr_iconst i_X8_doByLot_48 (q := 49) rfl ?_
        refine xr_goto i_X8_doByLot_49 (q := 53) t_X8_doByLot_49 ?_
        refine xr_istore i_X8_doByLot_53 rfl (L2 := [some (.ref v0), some (.int v1), some (.int ((v1 / ((Int8.ofInt 8).toInt32)) - (v1 / ((Int8.ofInt 8).toInt32)) / ((Int8.ofInt 8).toInt32) * ((Int8.ofInt 8).toInt32))), some (.int ((v1 / ((Int8.ofInt 64).toInt32)) - (v1 / ((Int8.ofInt 64).toInt32)) / (Int32.ofInt 4) * (Int32.ofInt 4))), some (.int (Int32.ofInt (-1)))]) rfl (q := 55) rfl ?_
        refine xr_aload_n i_X8_doByLot_55 rfl (q := 56) rfl ?_
        obtain ⟨c36, h⟩ := xi_if_some h
        obtain ⟨b37, eb37, h⟩ := xi_bind_some h
        refine xr_getR i_X8_doByLot_56 xfe_X8_21 c36 eb37 (q := 59) rfl ?_
        refine xr_iload_n i_X8_doByLot_59 rfl (q := 60) rfl ?_
        refine xr_aload_n i_X8_doByLot_60 rfl (q := 61) rfl ?_
        obtain ⟨c38, h⟩ := xi_if_some h
        obtain ⟨b39, eb39, h⟩ := xi_bind_some h
        refine xr_getR i_X8_doByLot_61 xfe_X8_21 c38 eb39 (q := 64) rfl ?_
        obtain ⟨c40, h⟩ := xi_if_some h
        obtain ⟨b41, eb41, h⟩ := xi_bind_some h
        refine xr_getR i_X8_doByLot_64 xfe_X8_192 c40 eb41 (q := 67) rfl ?_
        refine xr_iload_n i_X8_doByLot_67 rfl (q := 68) rfl ?_
        refine xr_iload i_X8_doByLot_68 rfl (q := 70) rfl ?_
        obtain ⟨x43, m42, em42, h⟩ := xi_bI_some h
        refine xr_SI i_X8_doByLot_70 xcse_X8_195 rfl (As := [.ref b41, .int ((v1 / ((Int8.ofInt 64).toInt32)) - (v1 / ((Int8.ofInt 64).toInt32)) / (Int32.ofInt 4) * (Int32.ofInt 4)), .int (Int32.ofInt (-1))]) rfl (rest := [.int ((v1 / ((Int8.ofInt 64).toInt32)) - (v1 / ((Int8.ofInt 64).toInt32)) / (Int32.ofInt 4) * (Int32.ofInt 4)), .ref b37]) rfl ((cc_X8_doByLot_195 S _ _ _ _).trans em42) (q := 73) rfl ?_
        by_cases c46 : x43 = 0
        · replace h := (if_pos c46).symm.trans h
          refine xr_ifCond_eq_p i_X8_doByLot_73 c46 (q := 81) t_X8_doByLot_73 (q2 := 76) rfl ?_
          refine xr_iconst i_X8_doByLot_81 (q := 82) rfl ?_
          obtain ⟨m44, em44, h⟩ := xi_bV_some h
          refine xr_VV i_X8_doByLot_82 xcve_X8_202 rfl (As := [.ref b37, .int ((v1 / ((Int8.ofInt 64).toInt32)) - (v1 / ((Int8.ofInt 64).toInt32)) / (Int32.ofInt 4) * (Int32.ofInt 4)), .int (Int32.ofInt 0)]) rfl (rest := []) rfl ((cc_X8_doByLot_202 S _ _ _ _).trans em44) (q := 85) rfl ?_
          refine xr_goto i_X8_doByLot_85 (q := 145) t_X8_doByLot_85 ?_
          exact xr_return i_X8_doByLot_145 rfl h
        · replace h := (if_neg c46).symm.trans h
          refine xr_ifCond_eq_n i_X8_doByLot_73 c46 (q := 81) t_X8_doByLot_73 (q2 := 76) rfl ?_
          refine xr_iload i_X8_doByLot_76 rfl (q := 78) rfl ?_
          refine xr_goto i_X8_doByLot_78 (q := 82) t_X8_doByLot_78 ?_
          obtain ⟨m45, em45, h⟩ := xi_bV_some h
          refine xr_VV i_X8_doByLot_82 xcve_X8_202 rfl (As := [.ref b37, .int ((v1 / ((Int8.ofInt 64).toInt32)) - (v1 / ((Int8.ofInt 64).toInt32)) / (Int32.ofInt 4) * (Int32.ofInt 4)), .int (Int32.ofInt (-1))]) rfl (rest := []) rfl ((cc_X8_doByLot_202 S _ _ _ _).trans em45) (q := 85) rfl ?_
          refine xr_goto i_X8_doByLot_85 (q := 145) t_X8_doByLot_85 ?_
          exact xr_return i_X8_doByLot_145 rfl h
      · replace h := (if_neg c47).symm.trans h
        refine xr_if_icmp_ne_n i_X8_doByLot_45 c47 (q := 52) t_X8_doByLot_45 (q2 := 48) rfl ?_
        refine xr_iconst i_X8_doByLot_52 (q := 53) rfl ?_
        refine xr_istore i_X8_doByLot_53 rfl (L2 := [some (.ref v0), some (.int v1), some (.int ((v1 / ((Int8.ofInt 8).toInt32)) - (v1 / ((Int8.ofInt 8).toInt32)) / ((Int8.ofInt 8).toInt32) * ((Int8.ofInt 8).toInt32))), some (.int ((v1 / ((Int8.ofInt 64).toInt32)) - (v1 / ((Int8.ofInt 64).toInt32)) / (Int32.ofInt 4) * (Int32.ofInt 4))), some (.int (Int32.ofInt 1))]) rfl (q := 55) rfl ?_
        refine xr_aload_n i_X8_doByLot_55 rfl (q := 56) rfl ?_
        obtain ⟨c25, h⟩ := xi_if_some h
        obtain ⟨b26, eb26, h⟩ := xi_bind_some h
        refine xr_getR i_X8_doByLot_56 xfe_X8_21 c25 eb26 (q := 59) rfl ?_
        refine xr_iload_n i_X8_doByLot_59 rfl (q := 60) rfl ?_
        refine xr_aload_n i_X8_doByLot_60 rfl (q := 61) rfl ?_
        obtain ⟨c27, h⟩ := xi_if_some h
        obtain ⟨b28, eb28, h⟩ := xi_bind_some h
        refine xr_getR i_X8_doByLot_61 xfe_X8_21 c27 eb28 (q := 64) rfl ?_
        obtain ⟨c29, h⟩ := xi_if_some h
        obtain ⟨b30, eb30, h⟩ := xi_bind_some h
        refine xr_getR i_X8_doByLot_64 xfe_X8_192 c29 eb30 (q := 67) rfl ?_
        refine xr_iload_n i_X8_doByLot_67 rfl (q := 68) rfl ?_
        refine xr_iload i_X8_doByLot_68 rfl (q := 70) rfl ?_
        obtain ⟨x32, m31, em31, h⟩ := xi_bI_some h
        refine xr_SI i_X8_doByLot_70 xcse_X8_195 rfl (As := [.ref b30, .int ((v1 / ((Int8.ofInt 64).toInt32)) - (v1 / ((Int8.ofInt 64).toInt32)) / (Int32.ofInt 4) * (Int32.ofInt 4)), .int (Int32.ofInt 1)]) rfl (rest := [.int ((v1 / ((Int8.ofInt 64).toInt32)) - (v1 / ((Int8.ofInt 64).toInt32)) / (Int32.ofInt 4) * (Int32.ofInt 4)), .ref b26]) rfl ((cc_X8_doByLot_195 S _ _ _ _).trans em31) (q := 73) rfl ?_
        by_cases c35 : x32 = 0
        · replace h := (if_pos c35).symm.trans h
          refine xr_ifCond_eq_p i_X8_doByLot_73 c35 (q := 81) t_X8_doByLot_73 (q2 := 76) rfl ?_
          refine xr_iconst i_X8_doByLot_81 (q := 82) rfl ?_
          obtain ⟨m33, em33, h⟩ := xi_bV_some h
          refine xr_VV i_X8_doByLot_82 xcve_X8_202 rfl (As := [.ref b26, .int ((v1 / ((Int8.ofInt 64).toInt32)) - (v1 / ((Int8.ofInt 64).toInt32)) / (Int32.ofInt 4) * (Int32.ofInt 4)), .int (Int32.ofInt 0)]) rfl (rest := []) rfl ((cc_X8_doByLot_202 S _ _ _ _).trans em33) (q := 85) rfl ?_
          refine xr_goto i_X8_doByLot_85 (q := 145) t_X8_doByLot_85 ?_
          exact xr_return i_X8_doByLot_145 rfl h
        · replace h := (if_neg c35).symm.trans h
          refine xr_ifCond_eq_n i_X8_doByLot_73 c35 (q := 81) t_X8_doByLot_73 (q2 := 76) rfl ?_
          refine xr_iload i_X8_doByLot_76 rfl (q := 78) rfl ?_
          refine xr_goto i_X8_doByLot_78 (q := 82) t_X8_doByLot_78 ?_
          obtain ⟨m34, em34, h⟩ := xi_bV_some h
          refine xr_VV i_X8_doByLot_82 xcve_X8_202 rfl (As := [.ref b26, .int ((v1 / ((Int8.ofInt 64).toInt32)) - (v1 / ((Int8.ofInt 64).toInt32)) / (Int32.ofInt 4) * (Int32.ofInt 4)), .int (Int32.ofInt 1)]) rfl (rest := []) rfl ((cc_X8_doByLot_202 S _ _ _ _).trans em34) (q := 85) rfl ?_
          refine xr_goto i_X8_doByLot_85 (q := 145) t_X8_doByLot_85 ?_
          exact xr_return i_X8_doByLot_145 rfl h
  · replace h := (if_neg c56).symm.trans h
    refine xr_if_icmp_gt_n i_X8_doByLot_10 c56 (q := 31) t_X8_doByLot_10 (q2 := 13) rfl ?_
    refine xr_aload_n i_X8_doByLot_13 rfl (q := 14) rfl ?_
    obtain ⟨c49, h⟩ := xi_if_some h
    obtain ⟨b50, eb50, h⟩ := xi_bind_some h
    refine xr_getR i_X8_doByLot_14 xfe_X8_21 c49 eb50 (q := 17) rfl ?_
    refine xr_aload_n i_X8_doByLot_17 rfl (q := 18) rfl ?_
    obtain ⟨c51, h⟩ := xi_if_some h
    obtain ⟨b52, eb52, h⟩ := xi_bind_some h
    refine xr_getR i_X8_doByLot_18 xfe_X8_21 c51 eb52 (q := 21) rfl ?_
    refine xr_iconst i_X8_doByLot_21 (q := 22) rfl ?_
    obtain ⟨x54, m53, em53, h⟩ := xi_bI_some h
    refine xr_VI i_X8_doByLot_22 xcve_X8_186 rfl (As := [.ref b52, .int (Int32.ofInt 0)]) rfl (rest := [.ref b50]) rfl ((cc_X8_doByLot_186 S _ _ _).trans em53) (q := 25) rfl ?_
    obtain ⟨m55, em55, h⟩ := xi_bV_some h
    refine xr_VV i_X8_doByLot_25 xcve_X8_189 rfl (As := [.ref b50, .int x54]) rfl (rest := []) rfl ((cc_X8_doByLot_189 S _ _ _).trans em55) (q := 28) rfl ?_
    refine xr_goto i_X8_doByLot_28 (q := 145) t_X8_doByLot_28 ?_
    exact xr_return i_X8_doByLot_145 rfl h
set_option maxRecDepth 100000 in
theorem po_X8_doByLot {l : Launch} {E : xi_E} {S : xi_S} {D : va_G} {tys : List (ClassId × FieldType)} (hC : xCx E S tys) : xi_Pok l E S D vwCl tys xNs RX8 xTs cX8_doByLot 5 5 (P_X8_doByLot S) := ⟨xi_dc_ok, by rw [hC.2]; exact xfo_X8, xkio_X8, xklo_X8, xi_calls_ok (ins := .invokestatic) (List.forall_mem_cons.mpr ⟨(xc_X8_195 (sn_X8_mayMove hC) (by decide)), fun _ h => absurd h List.not_mem_nil⟩), xi_calls_ok (ins := .invokevirtual) (List.forall_mem_cons.mpr ⟨(xc_X8_186 hC.1 (sn_X6_scorers hC) (by decide)), List.forall_mem_cons.mpr ⟨(xc_X8_189 hC.1 (sn_X6_endTerm hC) (by decide)), List.forall_mem_cons.mpr ⟨(xc_X8_202 hC.1 (sn_X6_moveCoat hC) (by decide)), List.forall_mem_cons.mpr ⟨(xc_X8_206 hC.1 (sn_X6_turnWeather hC) (by decide)), List.forall_mem_cons.mpr ⟨(xc_X8_209 hC.1 (sn_X6_send hC) (by decide)), fun _ h => absurd h List.not_mem_nil⟩⟩⟩⟩⟩)⟩
theorem sn_X8_doByLot {l : Launch} {E : xi_E} {S : xi_S} {D : va_G} {tys : List (ClassId × FieldType)} (hC : xCx E S tys) : ∀ As m1 r m2, F_X8_doByLot S As m1 = some (r, m2) → xi_Sound l E S D vwCl tys xNs xTs yX8_doByLot cX8_doByLot 5 none 5 As m1 r m2 := by
  intro As m1 r m2 h
  unfold F_X8_doByLot at h
  split at h
  · exact xi_meth (P := P_X8_doByLot S) (by decide) hC.1 (po_X8_doByLot hC) (Nat.le_of_ble_eq_true rfl) rfl (xe_X8_doByLot _ _ _ h)
  · exact xi_no h
theorem i_X8_lots_0 : xi_dc cX8_lots 0 = some (.iload_n 1, 1) := by decide +kernel
theorem i_X8_lots_1 : xi_dc cX8_lots 1 = some (.iconst 1, 1) := by decide +kernel
theorem i_X8_lots_2 : xi_dc cX8_lots 2 = some (.if_icmp .lt 23, 3) := by decide +kernel
theorem t_X8_lots_2 : ((2 : Nat) : Int) + 23 = ((25 : Nat) : Int) := by decide +kernel
theorem i_X8_lots_5 : xi_dc cX8_lots 5 = some (.iload_n 1, 1) := by decide +kernel
theorem i_X8_lots_6 : xi_dc cX8_lots 6 = some (.bipush 20, 2) := by decide +kernel
theorem i_X8_lots_8 : xi_dc cX8_lots 8 = some (.if_icmp .gt 17, 3) := by decide +kernel
theorem t_X8_lots_8 : ((8 : Nat) : Int) + 17 = ((25 : Nat) : Int) := by decide +kernel
theorem i_X8_lots_11 : xi_dc cX8_lots 11 = some (.iload_n 2, 1) := by decide +kernel
theorem i_X8_lots_12 : xi_dc cX8_lots 12 = some (.iconst 1, 1) := by decide +kernel
theorem i_X8_lots_13 : xi_dc cX8_lots 13 = some (.if_icmp .lt 12, 3) := by decide +kernel
theorem t_X8_lots_13 : ((13 : Nat) : Int) + 12 = ((25 : Nat) : Int) := by decide +kernel
theorem i_X8_lots_16 : xi_dc cX8_lots 16 = some (.iload_n 2, 1) := by decide +kernel
theorem i_X8_lots_17 : xi_dc cX8_lots 17 = some (.i2l, 1) := by decide +kernel
theorem i_X8_lots_18 : xi_dc cX8_lots 18 = some (.ldc2_w 291, 3) := by decide +kernel
theorem i_X8_lots_21 : xi_dc cX8_lots 21 = some (.lcmp, 1) := by decide +kernel
theorem i_X8_lots_22 : xi_dc cX8_lots 22 = some (.ifCond .lt 5, 3) := by decide +kernel
theorem t_X8_lots_22 : ((22 : Nat) : Int) + 5 = ((27 : Nat) : Int) := by decide +kernel
theorem i_X8_lots_25 : xi_dc cX8_lots 25 = some (.iconst (-1), 1) := by decide +kernel
theorem i_X8_lots_26 : xi_dc cX8_lots 26 = some (.ireturn, 1) := by decide +kernel
theorem i_X8_lots_27 : xi_dc cX8_lots 27 = some (.aload_n 0, 1) := by decide +kernel
theorem i_X8_lots_28 : xi_dc cX8_lots 28 = some (.getfield 21, 3) := by decide +kernel
theorem i_X8_lots_31 : xi_dc cX8_lots 31 = some (.getfield 129, 3) := by decide +kernel
theorem i_X8_lots_34 : xi_dc cX8_lots 34 = some (.ifCond .ne 6, 3) := by decide +kernel
theorem t_X8_lots_34 : ((34 : Nat) : Int) + 6 = ((40 : Nat) : Int) := by decide +kernel
theorem i_X8_lots_37 : xi_dc cX8_lots 37 = some (.bipush (-4), 2) := by decide +kernel
theorem i_X8_lots_39 : xi_dc cX8_lots 39 = some (.ireturn, 1) := by decide +kernel
theorem i_X8_lots_40 : xi_dc cX8_lots 40 = some (.aload_n 0, 1) := by decide +kernel
theorem i_X8_lots_41 : xi_dc cX8_lots 41 = some (.getfield 21, 3) := by decide +kernel
theorem i_X8_lots_44 : xi_dc cX8_lots 44 = some (.getfield 183, 3) := by decide +kernel
theorem i_X8_lots_47 : xi_dc cX8_lots 47 = some (.iload_n 1, 1) := by decide +kernel
theorem i_X8_lots_48 : xi_dc cX8_lots 48 = some (.iadd, 1) := by decide +kernel
theorem i_X8_lots_49 : xi_dc cX8_lots 49 = some (.bipush 40, 2) := by decide +kernel
theorem i_X8_lots_51 : xi_dc cX8_lots 51 = some (.if_icmp .le 6, 3) := by decide +kernel
theorem t_X8_lots_51 : ((51 : Nat) : Int) + 6 = ((57 : Nat) : Int) := by decide +kernel
theorem i_X8_lots_54 : xi_dc cX8_lots 54 = some (.bipush (-2), 2) := by decide +kernel
theorem i_X8_lots_56 : xi_dc cX8_lots 56 = some (.ireturn, 1) := by decide +kernel
theorem i_X8_lots_57 : xi_dc cX8_lots 57 = some (.iload_n 2, 1) := by decide +kernel
theorem i_X8_lots_58 : xi_dc cX8_lots 58 = some (.i2l, 1) := by decide +kernel
theorem i_X8_lots_59 : xi_dc cX8_lots 59 = some (.lstore_n 3, 1) := by decide +kernel
theorem i_X8_lots_60 : xi_dc cX8_lots 60 = some (.iconst 0, 1) := by decide +kernel
theorem i_X8_lots_61 : xi_dc cX8_lots 61 = some (.istore 5, 2) := by decide +kernel
theorem i_X8_lots_63 : xi_dc cX8_lots 63 = some (.iload 5, 2) := by decide +kernel
theorem i_X8_lots_65 : xi_dc cX8_lots 65 = some (.iload_n 1, 1) := by decide +kernel
theorem i_X8_lots_66 : xi_dc cX8_lots 66 = some (.if_icmp .ge 25, 3) := by decide +kernel
theorem t_X8_lots_66 : ((66 : Nat) : Int) + 25 = ((91 : Nat) : Int) := by decide +kernel
theorem i_X8_lots_69 : xi_dc cX8_lots 69 = some (.lload_n 3, 1) := by decide +kernel
theorem i_X8_lots_70 : xi_dc cX8_lots 70 = some (.ldc2_w 293, 3) := by decide +kernel
theorem i_X8_lots_73 : xi_dc cX8_lots 73 = some (.lmul, 1) := by decide +kernel
theorem i_X8_lots_74 : xi_dc cX8_lots 74 = some (.ldc2_w 291, 3) := by decide +kernel
theorem i_X8_lots_77 : xi_dc cX8_lots 77 = some (.lrem, 1) := by decide +kernel
theorem i_X8_lots_78 : xi_dc cX8_lots 78 = some (.lstore_n 3, 1) := by decide +kernel
theorem i_X8_lots_79 : xi_dc cX8_lots 79 = some (.aload_n 0, 1) := by decide +kernel
theorem i_X8_lots_80 : xi_dc cX8_lots 80 = some (.lload_n 3, 1) := by decide +kernel
theorem i_X8_lots_81 : xi_dc cX8_lots 81 = some (.l2i, 1) := by decide +kernel
theorem i_X8_lots_82 : xi_dc cX8_lots 82 = some (.invokevirtual 295, 3) := by decide +kernel
theorem i_X8_lots_85 : xi_dc cX8_lots 85 = some (.iinc 5 1, 3) := by decide +kernel
theorem i_X8_lots_88 : xi_dc cX8_lots 88 = some (.goto (-25), 3) := by decide +kernel
theorem t_X8_lots_88 : ((88 : Nat) : Int) + (-25) = ((63 : Nat) : Int) := by decide +kernel
theorem i_X8_lots_91 : xi_dc cX8_lots 91 = some (.aload_n 0, 1) := by decide +kernel
theorem i_X8_lots_92 : xi_dc cX8_lots 92 = some (.getfield 21, 3) := by decide +kernel
theorem i_X8_lots_95 : xi_dc cX8_lots 95 = some (.getfield 221, 3) := by decide +kernel
theorem i_X8_lots_98 : xi_dc cX8_lots 98 = some (.iconst 0, 1) := by decide +kernel
theorem i_X8_lots_99 : xi_dc cX8_lots 99 = some (.iaload, 1) := by decide +kernel
theorem i_X8_lots_100 : xi_dc cX8_lots 100 = some (.aload_n 0, 1) := by decide +kernel
theorem i_X8_lots_101 : xi_dc cX8_lots 101 = some (.getfield 21, 3) := by decide +kernel
theorem i_X8_lots_104 : xi_dc cX8_lots 104 = some (.getfield 221, 3) := by decide +kernel
theorem i_X8_lots_107 : xi_dc cX8_lots 107 = some (.iconst 1, 1) := by decide +kernel
theorem i_X8_lots_108 : xi_dc cX8_lots 108 = some (.iaload, 1) := by decide +kernel
theorem i_X8_lots_109 : xi_dc cX8_lots 109 = some (.iadd, 1) := by decide +kernel
theorem i_X8_lots_110 : xi_dc cX8_lots 110 = some (.ireturn, 1) := by decide +kernel
def P_X8_lots (S : xi_S) : xi_P := (xi_dc cX8_lots, xi_tab xfl_X8, xi_tab xki_X8, xi_tab xkl_X8, xi_tab xcs_X8, xi_tab xcv_X8, xi_calls [], xi_calls [(295, xi_wV S 10 1 (F_X8_doByLot S))], 1)
theorem cc_X8_lots_295 (S : xi_S) (a0 : Nat) (a1 : Int32) (m : xi_M) : (P_X8_lots S).2.2.2.2.2.2.2.1 295 [.ref a0, .int a1] m = (if S.1 a0 = 10 then E_X8_doByLot S a0 a1 m else none) := by
  show xi_calls [(295, xi_wV S 10 1 (F_X8_doByLot S))] 295 [.ref a0, .int a1] m = _
  refine Eq.trans (b := xi_wV S 10 1 (F_X8_doByLot S) [.ref a0, .int a1] m) (xi_calls_hit rfl) ?_
  exact xi_wV_eq rfl
def G_X8_lots_63 (S : xi_S) : Nat → Nat → Int32 → Int64 → Int32 → xi_M → Option xi_R
  | 0, _, _, _, _, _ => none
  | n + 1, v0, v1, v3, v5, m =>
    if v1 ≤ v5 then
      if S.1 v0 = 10 then (S.2.2 v0 2).bind fun b2 =>
        if S.1 b2 = 8 then (S.2.2 b2 6).bind fun b4 =>
          if S.1 b4 = 0 ∧ ¬ ((Int32.ofInt 0) < 0 ∨ S.2.1 b4 ≤ Int32.toNatClampNeg (Int32.ofInt 0)) then
            if S.1 v0 = 10 then (S.2.2 v0 2).bind fun b7 =>
              if S.1 b7 = 8 then (S.2.2 b7 6).bind fun b9 =>
                if S.1 b9 = 0 ∧ ¬ ((Int32.ofInt 1) < 0 ∨ S.2.1 b9 ≤ Int32.toNatClampNeg (Int32.ofInt 1)) then
                  some (some (.int ((m.1 b4 (Int32.toNatClampNeg (Int32.ofInt 0))) + (m.1 b9 (Int32.toNatClampNeg (Int32.ofInt 1))))), m)
                else none
              else none
            else none
          else none
        else none
      else none
    else
      if (2147483647 : Int64) = 0 then none else
      xi_bV (if S.1 v0 = 10 then E_X8_doByLot S v0 (Int64.toInt32 ((v3 * (48271 : Int64)) - (v3 * (48271 : Int64)) / (2147483647 : Int64) * (2147483647 : Int64))) m else none) fun m12 =>
      G_X8_lots_63 S n v0 v1 ((v3 * (48271 : Int64)) - (v3 * (48271 : Int64)) / (2147483647 : Int64) * (2147483647 : Int64)) (v5 + Int32.ofInt 1) m12
set_option maxRecDepth 100000 in
set_option maxHeartbeats 4000000 in
theorem xs_X8_lots_63 {S : xi_S} {res : xi_R} : ∀ (n : Nat) (v0 : Nat) (v1 : Int32) (v3 : Int64) (v5 : Int32) (m : xi_M), G_X8_lots_63 S n v0 v1 v3 v5 m = some res → xi_X S (P_X8_lots S) (63, [some (.ref v0), some (.int v1), none, some (.long v3), none, some (.int v5)], [], m) res := by
  intro n
  induction n with
  | zero => intro v0 v1 v3 v5 m h; exact xi_no h
  | succ n ih =>
    intro v0 v1 v3 v5 m h
    unfold G_X8_lots_63 at h
    refine xr_iload i_X8_lots_63 rfl (q := 65) rfl ?_
    refine xr_iload_n i_X8_lots_65 rfl (q := 66) rfl ?_
    by_cases c13 : v1 ≤ v5
    · replace h := (if_pos c13).symm.trans h
      refine xr_if_icmp_ge_p i_X8_lots_66 c13 (q := 91) t_X8_lots_66 (q2 := 69) rfl ?_
      refine xr_aload_n i_X8_lots_91 rfl (q := 92) rfl ?_
      obtain ⟨c1, h⟩ := xi_if_some h
      obtain ⟨b2, eb2, h⟩ := xi_bind_some h
      refine xr_getR i_X8_lots_92 xfe_X8_21 c1 eb2 (q := 95) rfl ?_
      obtain ⟨c3, h⟩ := xi_if_some h
      obtain ⟨b4, eb4, h⟩ := xi_bind_some h
      refine xr_getR i_X8_lots_95 xfe_X8_221 c3 eb4 (q := 98) rfl ?_
      refine xr_iconst i_X8_lots_98 (q := 99) rfl ?_
      obtain ⟨c5, h⟩ := xi_if_some h
      refine xr_iaload i_X8_lots_99 c5 (q := 100) rfl ?_
      refine xr_aload_n i_X8_lots_100 rfl (q := 101) rfl ?_
      obtain ⟨c6, h⟩ := xi_if_some h
      obtain ⟨b7, eb7, h⟩ := xi_bind_some h
      refine xr_getR i_X8_lots_101 xfe_X8_21 c6 eb7 (q := 104) rfl ?_
      obtain ⟨c8, h⟩ := xi_if_some h
      obtain ⟨b9, eb9, h⟩ := xi_bind_some h
      refine xr_getR i_X8_lots_104 xfe_X8_221 c8 eb9 (q := 107) rfl ?_
      refine xr_iconst i_X8_lots_107 (q := 108) rfl ?_
      obtain ⟨c10, h⟩ := xi_if_some h
      refine xr_iaload i_X8_lots_108 c10 (q := 109) rfl ?_
      refine xr_iadd i_X8_lots_109 (q := 110) rfl ?_
      exact xr_ireturn i_X8_lots_110 rfl h
    · replace h := (if_neg c13).symm.trans h
      refine xr_if_icmp_ge_n i_X8_lots_66 c13 (q := 91) t_X8_lots_66 (q2 := 69) rfl ?_
      refine xr_lload_n i_X8_lots_69 rfl (q := 70) rfl ?_
      refine xr_ldc2_w i_X8_lots_70 xkle_X8_293 (q := 73) rfl ?_
      refine xr_lmul i_X8_lots_73 (q := 74) rfl ?_
      refine xr_ldc2_w i_X8_lots_74 xkle_X8_291 (q := 77) rfl ?_
      obtain ⟨c11, h⟩ := xi_ifn_some h
      refine xr_lrem i_X8_lots_77 c11 (q := 78) rfl ?_
      refine xr_lstore_n i_X8_lots_78 rfl (L2 := [some (.ref v0), some (.int v1), none, some (.long ((v3 * (48271 : Int64)) - (v3 * (48271 : Int64)) / (2147483647 : Int64) * (2147483647 : Int64))), none, some (.int v5)]) rfl (q := 79) rfl ?_
      refine xr_aload_n i_X8_lots_79 rfl (q := 80) rfl ?_
      refine xr_lload_n i_X8_lots_80 rfl (q := 81) rfl ?_
      refine xr_l2i i_X8_lots_81 (q := 82) rfl ?_
      obtain ⟨m12, em12, h⟩ := xi_bV_some h
      refine xr_VV i_X8_lots_82 xcve_X8_295 rfl (As := [.ref v0, .int (Int64.toInt32 ((v3 * (48271 : Int64)) - (v3 * (48271 : Int64)) / (2147483647 : Int64) * (2147483647 : Int64)))]) rfl (rest := []) rfl ((cc_X8_lots_295 S _ _ _).trans em12) (q := 85) rfl ?_
      refine xr_iinc i_X8_lots_85 rfl rfl (L2 := [some (.ref v0), some (.int v1), none, some (.long ((v3 * (48271 : Int64)) - (v3 * (48271 : Int64)) / (2147483647 : Int64) * (2147483647 : Int64))), none, some (.int (v5 + Int32.ofInt 1))]) rfl (q := 88) rfl ?_
      refine xr_goto i_X8_lots_88 (q := 63) t_X8_lots_88 ?_
      exact xi_X_le (xi_le_s (xi_le_s (xi_le_n (xi_le_s (xi_le_n (xi_le_s xi_le_z)))))) (ih _ _ _ _ _ h)
def E_X8_lots (S : xi_S) (v0 : Nat) (v1 : Int32) (v2 : Int32) (m : xi_M) : Option xi_R :=
  if v1 < (Int32.ofInt 1) then
    some (some (.int (Int32.ofInt (-1))), m)
  else
    if ((Int8.ofInt 20).toInt32) < v1 then
      some (some (.int (Int32.ofInt (-1))), m)
    else
      if v2 < (Int32.ofInt 1) then
        some (some (.int (Int32.ofInt (-1))), m)
      else
        if (lg_cmp (Int32.toInt64 v2) (2147483647 : Int64)) < 0 then
          if S.1 v0 = 10 then (S.2.2 v0 2).bind fun b2 =>
            if S.1 b2 = 8 then
              if (m.1 b2 1) = 0 then
                some (some (.int ((Int8.ofInt (-4)).toInt32)), m)
              else
                if S.1 v0 = 10 then (S.2.2 v0 2).bind fun b5 =>
                  if S.1 b5 = 8 then
                    if ((m.1 b5 4) + v1) ≤ ((Int8.ofInt 40).toInt32) then
                      G_X8_lots_63 S 10000 v0 v1 (Int32.toInt64 v2) (Int32.ofInt 0) m
                    else
                      some (some (.int ((Int8.ofInt (-2)).toInt32)), m)
                  else none
                else none
            else none
          else none
        else
          some (some (.int (Int32.ofInt (-1))), m)
def F_X8_lots (S : xi_S) : xi_F := fun As m => match As with
  | [.ref v0, .int v1, .int v2] => E_X8_lots S v0 v1 v2 m
  | _ => none
set_option maxRecDepth 100000 in
set_option maxHeartbeats 4000000 in
theorem xe_X8_lots {S : xi_S} {res : xi_R} (v0 : Nat) (v1 : Int32) (v2 : Int32) (m : xi_M) (h : E_X8_lots S v0 v1 v2 m = some res) : xi_X S (P_X8_lots S) (0, [some (.ref v0), some (.int v1), some (.int v2), none, none, none], [], m) res := by
  unfold E_X8_lots at h
  refine xr_iload_n i_X8_lots_0 rfl (q := 1) rfl ?_
  refine xr_iconst i_X8_lots_1 (q := 2) rfl ?_
  by_cases c12 : v1 < (Int32.ofInt 1)
  · replace h := (if_pos c12).symm.trans h
    refine xr_if_icmp_lt_p i_X8_lots_2 c12 (q := 25) t_X8_lots_2 (q2 := 5) rfl ?_
    refine xr_iconst i_X8_lots_25 (q := 26) rfl ?_
    exact xr_ireturn i_X8_lots_26 rfl h
  · replace h := (if_neg c12).symm.trans h
    refine xr_if_icmp_lt_n i_X8_lots_2 c12 (q := 25) t_X8_lots_2 (q2 := 5) rfl ?_
    refine xr_iload_n i_X8_lots_5 rfl (q := 6) rfl ?_
    refine xr_bipush i_X8_lots_6 (q := 8) rfl ?_
    by_cases c11 : ((Int8.ofInt 20).toInt32) < v1
    · replace h := (if_pos c11).symm.trans h
      refine xr_if_icmp_gt_p i_X8_lots_8 c11 (q := 25) t_X8_lots_8 (q2 := 11) rfl ?_
      refine xr_iconst i_X8_lots_25 (q := 26) rfl ?_
      exact xr_ireturn i_X8_lots_26 rfl h
    · replace h := (if_neg c11).symm.trans h
      refine xr_if_icmp_gt_n i_X8_lots_8 c11 (q := 25) t_X8_lots_8 (q2 := 11) rfl ?_
      refine xr_iload_n i_X8_lots_11 rfl (q := 12) rfl ?_
      refine xr_iconst i_X8_lots_12 (q := 13) rfl ?_
      by_cases c10 : v2 < (Int32.ofInt 1)
      · replace h := (if_pos c10).symm.trans h
        refine xr_if_icmp_lt_p i_X8_lots_13 c10 (q := 25) t_X8_lots_13 (q2 := 16) rfl ?_
        refine xr_iconst i_X8_lots_25 (q := 26) rfl ?_
        exact xr_ireturn i_X8_lots_26 rfl h
      · replace h := (if_neg c10).symm.trans h
        refine xr_if_icmp_lt_n i_X8_lots_13 c10 (q := 25) t_X8_lots_13 (q2 := 16) rfl ?_
        refine xr_iload_n i_X8_lots_16 rfl (q := 17) rfl ?_
        refine xr_i2l i_X8_lots_17 (q := 18) rfl ?_
        refine xr_ldc2_w i_X8_lots_18 xkle_X8_291 (q := 21) rfl ?_
        refine xr_lcmp i_X8_lots_21 (q := 22) rfl ?_
        by_cases c9 : (lg_cmp (Int32.toInt64 v2) (2147483647 : Int64)) < 0
        · replace h := (if_pos c9).symm.trans h
          refine xr_ifCond_lt_p i_X8_lots_22 c9 (q := 27) t_X8_lots_22 (q2 := 25) rfl ?_
          refine xr_aload_n i_X8_lots_27 rfl (q := 28) rfl ?_
          obtain ⟨c1, h⟩ := xi_if_some h
          obtain ⟨b2, eb2, h⟩ := xi_bind_some h
          refine xr_getR i_X8_lots_28 xfe_X8_21 c1 eb2 (q := 31) rfl ?_
          obtain ⟨c3, h⟩ := xi_if_some h
          refine xr_getI i_X8_lots_31 xfe_X8_129 c3 (q := 34) rfl ?_
          by_cases c8 : (m.1 b2 1) = 0
          · replace h := (if_pos c8).symm.trans h
            refine xr_ifCond_ne_p i_X8_lots_34 c8 (q := 40) t_X8_lots_34 (q2 := 37) rfl ?_
            refine xr_bipush i_X8_lots_37 (q := 39) rfl ?_
            exact xr_ireturn i_X8_lots_39 rfl h
          · replace h := (if_neg c8).symm.trans h
            refine xr_ifCond_ne_n i_X8_lots_34 c8 (q := 40) t_X8_lots_34 (q2 := 37) rfl ?_
            refine xr_aload_n i_X8_lots_40 rfl (q := 41) rfl ?_
            obtain ⟨c4, h⟩ := xi_if_some h
            obtain ⟨b5, eb5, h⟩ := xi_bind_some h
            refine xr_getR i_X8_lots_41 xfe_X8_21 c4 eb5 (q := 44) rfl ?_
            obtain ⟨c6, h⟩ := xi_if_some h
            refine xr_getI i_X8_lots_44 xfe_X8_183 c6 (q := 47) rfl ?_
            refine xr_iload_n i_X8_lots_47 rfl (q := 48) rfl ?_
            refine xr_iadd i_X8_lots_48 (q := 49) rfl ?_
            refine xr_bipush i_X8_lots_49 (q := 51) rfl ?_
            by_cases c7 : ((m.1 b5 4) + v1) ≤ ((Int8.ofInt 40).toInt32)
            · replace h := (if_pos c7).symm.trans h
              refine xr_if_icmp_le_p i_X8_lots_51 c7 (q := 57) t_X8_lots_51 (q2 := 54) rfl ?_
              refine xr_iload_n i_X8_lots_57 rfl (q := 58) rfl ?_
              refine xr_i2l i_X8_lots_58 (q := 59) rfl ?_
              refine xr_lstore_n i_X8_lots_59 rfl (L2 := [some (.ref v0), some (.int v1), some (.int v2), some (.long (Int32.toInt64 v2)), none, none]) rfl (q := 60) rfl ?_
              refine xr_iconst i_X8_lots_60 (q := 61) rfl ?_
              refine xr_istore i_X8_lots_61 rfl (L2 := [some (.ref v0), some (.int v1), some (.int v2), some (.long (Int32.toInt64 v2)), none, some (.int (Int32.ofInt 0))]) rfl (q := 63) rfl ?_
              exact xi_X_le (xi_le_s (xi_le_s (xi_le_n (xi_le_s (xi_le_n (xi_le_s xi_le_z)))))) (xs_X8_lots_63 10000 _ _ _ _ _ h)
            · replace h := (if_neg c7).symm.trans h
              refine xr_if_icmp_le_n i_X8_lots_51 c7 (q := 57) t_X8_lots_51 (q2 := 54) rfl ?_
              refine xr_bipush i_X8_lots_54 (q := 56) rfl ?_
              exact xr_ireturn i_X8_lots_56 rfl h
        · replace h := (if_neg c9).symm.trans h
          refine xr_ifCond_lt_n i_X8_lots_22 c9 (q := 27) t_X8_lots_22 (q2 := 25) rfl ?_
          refine xr_iconst i_X8_lots_25 (q := 26) rfl ?_
          exact xr_ireturn i_X8_lots_26 rfl h
set_option maxRecDepth 100000 in
theorem po_X8_lots {l : Launch} {E : xi_E} {S : xi_S} {D : va_G} {tys : List (ClassId × FieldType)} (hC : xCx E S tys) : xi_Pok l E S D vwCl tys xNs RX8 xTs cX8_lots 6 6 (P_X8_lots S) := ⟨xi_dc_ok, by rw [hC.2]; exact xfo_X8, xkio_X8, xklo_X8, xi_calls_ok (ins := .invokestatic) (fun _ h => absurd h List.not_mem_nil), xi_calls_ok (ins := .invokevirtual) (List.forall_mem_cons.mpr ⟨(xc_X8_295 hC.1 (sn_X8_doByLot hC) (by decide)), fun _ h => absurd h List.not_mem_nil⟩)⟩
theorem sn_X8_lots {l : Launch} {E : xi_E} {S : xi_S} {D : va_G} {tys : List (ClassId × FieldType)} (hC : xCx E S tys) : ∀ As m1 r m2, F_X8_lots S As m1 = some (r, m2) → xi_Sound l E S D vwCl tys xNs xTs yX8_lots cX8_lots 6 (some .int) 6 As m1 r m2 := by
  intro As m1 r m2 h
  unfold F_X8_lots at h
  split at h
  · exact xi_meth (P := P_X8_lots S) (by decide) hC.1 (po_X8_lots hC) (Nat.le_of_ble_eq_true rfl) rfl (xe_X8_lots _ _ _ _ h)
  · exact xi_no h
theorem i_X8_asked_0 : xi_dc cX8_asked 0 = some (.aload_n 0, 1) := by decide +kernel
theorem i_X8_asked_1 : xi_dc cX8_asked 1 = some (.getfield 298, 3) := by decide +kernel
theorem i_X8_asked_4 : xi_dc cX8_asked 4 = some (.ireturn, 1) := by decide +kernel
def P_X8_asked (S : xi_S) : xi_P := (xi_dc cX8_asked, xi_tab xfl_X8, xi_tab xki_X8, xi_tab xkl_X8, xi_tab xcs_X8, xi_tab xcv_X8, xi_calls [], xi_calls [], 1)
def E_X8_asked (S : xi_S) (v0 : Nat) (m : xi_M) : Option xi_R :=
  if S.1 v0 = 10 then
    some (some (.int (m.1 v0 11)), m)
  else none
def F_X8_asked (S : xi_S) : xi_F := fun As m => match As with
  | [.ref v0] => E_X8_asked S v0 m
  | _ => none
set_option maxRecDepth 100000 in
set_option maxHeartbeats 4000000 in
theorem xe_X8_asked {S : xi_S} {res : xi_R} (v0 : Nat) (m : xi_M) (h : E_X8_asked S v0 m = some res) : xi_X S (P_X8_asked S) (0, [some (.ref v0)], [], m) res := by
  unfold E_X8_asked at h
  refine xr_aload_n i_X8_asked_0 rfl (q := 1) rfl ?_
  obtain ⟨c1, h⟩ := xi_if_some h
  refine xr_getI i_X8_asked_1 xfe_X8_298 c1 (q := 4) rfl ?_
  exact xr_ireturn i_X8_asked_4 rfl h
set_option maxRecDepth 100000 in
theorem po_X8_asked {l : Launch} {E : xi_E} {S : xi_S} {D : va_G} {tys : List (ClassId × FieldType)} (hC : xCx E S tys) : xi_Pok l E S D vwCl tys xNs RX8 xTs cX8_asked 1 0 (P_X8_asked S) := ⟨xi_dc_ok, by rw [hC.2]; exact xfo_X8, xkio_X8, xklo_X8, xi_calls_ok (ins := .invokestatic) (fun _ h => absurd h List.not_mem_nil), xi_calls_ok (ins := .invokevirtual) (fun _ h => absurd h List.not_mem_nil)⟩
theorem sn_X8_asked {l : Launch} {E : xi_E} {S : xi_S} {D : va_G} {tys : List (ClassId × FieldType)} (hC : xCx E S tys) : ∀ As m1 r m2, F_X8_asked S As m1 = some (r, m2) → xi_Sound l E S D vwCl tys xNs xTs yX8_asked cX8_asked 1 (some .int) 0 As m1 r m2 := by
  intro As m1 r m2 h
  unfold F_X8_asked at h
  split at h
  · exact xi_meth (P := P_X8_asked S) (by decide) hC.1 (po_X8_asked hC) (Nat.le_of_ble_eq_true rfl) rfl (xe_X8_asked _ _ h)
  · exact xi_no h
theorem i_X8_upper_0 : xi_dc cX8_upper 0 = some (.aload_n 0, 1) := by decide +kernel
theorem i_X8_upper_1 : xi_dc cX8_upper 1 = some (.getfield 301, 3) := by decide +kernel
theorem i_X8_upper_4 : xi_dc cX8_upper 4 = some (.lreturn, 1) := by decide +kernel
def P_X8_upper (S : xi_S) : xi_P := (xi_dc cX8_upper, xi_tab xfl_X8, xi_tab xki_X8, xi_tab xkl_X8, xi_tab xcs_X8, xi_tab xcv_X8, xi_calls [], xi_calls [], 3)
def E_X8_upper (S : xi_S) (v0 : Nat) (m : xi_M) : Option xi_R :=
  if S.1 v0 = 10 then
    some (some (.long (m.2 v0 12)), m)
  else none
def F_X8_upper (S : xi_S) : xi_F := fun As m => match As with
  | [.ref v0] => E_X8_upper S v0 m
  | _ => none
set_option maxRecDepth 100000 in
set_option maxHeartbeats 4000000 in
theorem xe_X8_upper {S : xi_S} {res : xi_R} (v0 : Nat) (m : xi_M) (h : E_X8_upper S v0 m = some res) : xi_X S (P_X8_upper S) (0, [some (.ref v0)], [], m) res := by
  unfold E_X8_upper at h
  refine xr_aload_n i_X8_upper_0 rfl (q := 1) rfl ?_
  obtain ⟨c1, h⟩ := xi_if_some h
  refine xr_getJ i_X8_upper_1 xfe_X8_301 c1 (q := 4) rfl ?_
  exact xr_lreturn i_X8_upper_4 rfl h
set_option maxRecDepth 100000 in
theorem po_X8_upper {l : Launch} {E : xi_E} {S : xi_S} {D : va_G} {tys : List (ClassId × FieldType)} (hC : xCx E S tys) : xi_Pok l E S D vwCl tys xNs RX8 xTs cX8_upper 1 0 (P_X8_upper S) := ⟨xi_dc_ok, by rw [hC.2]; exact xfo_X8, xkio_X8, xklo_X8, xi_calls_ok (ins := .invokestatic) (fun _ h => absurd h List.not_mem_nil), xi_calls_ok (ins := .invokevirtual) (fun _ h => absurd h List.not_mem_nil)⟩
theorem sn_X8_upper {l : Launch} {E : xi_E} {S : xi_S} {D : va_G} {tys : List (ClassId × FieldType)} (hC : xCx E S tys) : ∀ As m1 r m2, F_X8_upper S As m1 = some (r, m2) → xi_Sound l E S D vwCl tys xNs xTs yX8_upper cX8_upper 1 (some .long) 0 As m1 r m2 := by
  intro As m1 r m2 h
  unfold F_X8_upper at h
  split at h
  · exact xi_meth (P := P_X8_upper S) (by decide) hC.1 (po_X8_upper hC) (Nat.le_of_ble_eq_true rfl) rfl (xe_X8_upper _ _ h)
  · exact xi_no h
theorem i_X8_lower_0 : xi_dc cX8_lower 0 = some (.aload_n 0, 1) := by decide +kernel
theorem i_X8_lower_1 : xi_dc cX8_lower 1 = some (.getfield 64, 3) := by decide +kernel
theorem i_X8_lower_4 : xi_dc cX8_lower 4 = some (.lreturn, 1) := by decide +kernel
def P_X8_lower (S : xi_S) : xi_P := (xi_dc cX8_lower, xi_tab xfl_X8, xi_tab xki_X8, xi_tab xkl_X8, xi_tab xcs_X8, xi_tab xcv_X8, xi_calls [], xi_calls [], 3)
def E_X8_lower (S : xi_S) (v0 : Nat) (m : xi_M) : Option xi_R :=
  if S.1 v0 = 10 then
    some (some (.long (m.2 v0 13)), m)
  else none
def F_X8_lower (S : xi_S) : xi_F := fun As m => match As with
  | [.ref v0] => E_X8_lower S v0 m
  | _ => none
set_option maxRecDepth 100000 in
set_option maxHeartbeats 4000000 in
theorem xe_X8_lower {S : xi_S} {res : xi_R} (v0 : Nat) (m : xi_M) (h : E_X8_lower S v0 m = some res) : xi_X S (P_X8_lower S) (0, [some (.ref v0)], [], m) res := by
  unfold E_X8_lower at h
  refine xr_aload_n i_X8_lower_0 rfl (q := 1) rfl ?_
  obtain ⟨c1, h⟩ := xi_if_some h
  refine xr_getJ i_X8_lower_1 xfe_X8_64 c1 (q := 4) rfl ?_
  exact xr_lreturn i_X8_lower_4 rfl h
set_option maxRecDepth 100000 in
theorem po_X8_lower {l : Launch} {E : xi_E} {S : xi_S} {D : va_G} {tys : List (ClassId × FieldType)} (hC : xCx E S tys) : xi_Pok l E S D vwCl tys xNs RX8 xTs cX8_lower 1 0 (P_X8_lower S) := ⟨xi_dc_ok, by rw [hC.2]; exact xfo_X8, xkio_X8, xklo_X8, xi_calls_ok (ins := .invokestatic) (fun _ h => absurd h List.not_mem_nil), xi_calls_ok (ins := .invokevirtual) (fun _ h => absurd h List.not_mem_nil)⟩
theorem sn_X8_lower {l : Launch} {E : xi_E} {S : xi_S} {D : va_G} {tys : List (ClassId × FieldType)} (hC : xCx E S tys) : ∀ As m1 r m2, F_X8_lower S As m1 = some (r, m2) → xi_Sound l E S D vwCl tys xNs xTs yX8_lower cX8_lower 1 (some .long) 0 As m1 r m2 := by
  intro As m1 r m2 h
  unfold F_X8_lower at h
  split at h
  · exact xi_meth (P := P_X8_lower S) (by decide) hC.1 (po_X8_lower hC) (Nat.le_of_ble_eq_true rfl) rfl (xe_X8_lower _ _ h)
  · exact xi_no h
theorem i_X8_thereOf_0 : xi_dc cX8_thereOf 0 = some (.iconst 0, 1) := by decide +kernel
theorem i_X8_thereOf_1 : xi_dc cX8_thereOf 1 = some (.istore_n 1, 1) := by decide +kernel
theorem i_X8_thereOf_2 : xi_dc cX8_thereOf 2 = some (.iconst 0, 1) := by decide +kernel
theorem i_X8_thereOf_3 : xi_dc cX8_thereOf 3 = some (.istore_n 2, 1) := by decide +kernel
theorem i_X8_thereOf_4 : xi_dc cX8_thereOf 4 = some (.iload_n 2, 1) := by decide +kernel
theorem i_X8_thereOf_5 : xi_dc cX8_thereOf 5 = some (.aload_n 0, 1) := by decide +kernel
theorem i_X8_thereOf_6 : xi_dc cX8_thereOf 6 = some (.arraylength, 1) := by decide +kernel
theorem i_X8_thereOf_7 : xi_dc cX8_thereOf 7 = some (.if_icmp .ge 21, 3) := by decide +kernel
theorem t_X8_thereOf_7 : ((7 : Nat) : Int) + 21 = ((28 : Nat) : Int) := by decide +kernel
theorem i_X8_thereOf_10 : xi_dc cX8_thereOf 10 = some (.aload_n 0, 1) := by decide +kernel
theorem i_X8_thereOf_11 : xi_dc cX8_thereOf 11 = some (.iload_n 2, 1) := by decide +kernel
theorem i_X8_thereOf_12 : xi_dc cX8_thereOf 12 = some (.aaload, 1) := by decide +kernel
theorem i_X8_thereOf_13 : xi_dc cX8_thereOf 13 = some (.getfield 92, 3) := by decide +kernel
theorem i_X8_thereOf_16 : xi_dc cX8_thereOf 16 = some (.ifCond .eq 6, 3) := by decide +kernel
theorem t_X8_thereOf_16 : ((16 : Nat) : Int) + 6 = ((22 : Nat) : Int) := by decide +kernel
theorem i_X8_thereOf_19 : xi_dc cX8_thereOf 19 = some (.iinc 1 1, 3) := by decide +kernel
theorem i_X8_thereOf_22 : xi_dc cX8_thereOf 22 = some (.iinc 2 1, 3) := by decide +kernel
theorem i_X8_thereOf_25 : xi_dc cX8_thereOf 25 = some (.goto (-21), 3) := by decide +kernel
theorem t_X8_thereOf_25 : ((25 : Nat) : Int) + (-21) = ((4 : Nat) : Int) := by decide +kernel
theorem i_X8_thereOf_28 : xi_dc cX8_thereOf 28 = some (.iload_n 1, 1) := by decide +kernel
theorem i_X8_thereOf_29 : xi_dc cX8_thereOf 29 = some (.ireturn, 1) := by decide +kernel
def P_X8_thereOf (S : xi_S) : xi_P := (xi_dc cX8_thereOf, xi_tab xfl_X8, xi_tab xki_X8, xi_tab xkl_X8, xi_tab xcs_X8, xi_tab xcv_X8, xi_calls [], xi_calls [], 1)
def G_X8_thereOf_4 (S : xi_S) : Nat → Nat → Int32 → Int32 → xi_M → Option xi_R
  | 0, _, _, _, _ => none
  | n + 1, v0, v1, v2, m =>
    if S.1 v0 = 0 ∨ S.1 v0 = 1 ∨ S.1 v0 = 2 then
      if (Int32.ofNat (S.2.1 v0)) ≤ v2 then
        some (some (.int v1), m)
      else
        if (S.1 v0 = 1 ∨ S.1 v0 = 2) ∧ ¬ (v2 < 0 ∨ S.2.1 v0 ≤ Int32.toNatClampNeg v2) then (S.2.2 v0 (Int32.toNatClampNeg v2)).bind fun b3 =>
          if S.1 b3 = 9 then
            if (m.1 b3 0) = 0 then
              G_X8_thereOf_4 S n v0 v1 (v2 + Int32.ofInt 1) m
            else
              G_X8_thereOf_4 S n v0 (v1 + Int32.ofInt 1) (v2 + Int32.ofInt 1) m
          else none
        else none
    else none
set_option maxRecDepth 100000 in
set_option maxHeartbeats 4000000 in
theorem xs_X8_thereOf_4 {S : xi_S} {res : xi_R} : ∀ (n : Nat) (v0 : Nat) (v1 : Int32) (v2 : Int32) (m : xi_M), G_X8_thereOf_4 S n v0 v1 v2 m = some res → xi_X S (P_X8_thereOf S) (4, [some (.ref v0), some (.int v1), some (.int v2)], [], m) res := by
  intro n
  induction n with
  | zero => intro v0 v1 v2 m h; exact xi_no h
  | succ n ih =>
    intro v0 v1 v2 m h
    unfold G_X8_thereOf_4 at h
    refine xr_iload_n i_X8_thereOf_4 rfl (q := 5) rfl ?_
    refine xr_aload_n i_X8_thereOf_5 rfl (q := 6) rfl ?_
    obtain ⟨c1, h⟩ := xi_if_some h
    refine xr_alen i_X8_thereOf_6 c1 (q := 7) rfl ?_
    by_cases c6 : (Int32.ofNat (S.2.1 v0)) ≤ v2
    · replace h := (if_pos c6).symm.trans h
      refine xr_if_icmp_ge_p i_X8_thereOf_7 c6 (q := 28) t_X8_thereOf_7 (q2 := 10) rfl ?_
      refine xr_iload_n i_X8_thereOf_28 rfl (q := 29) rfl ?_
      exact xr_ireturn i_X8_thereOf_29 rfl h
    · replace h := (if_neg c6).symm.trans h
      refine xr_if_icmp_ge_n i_X8_thereOf_7 c6 (q := 28) t_X8_thereOf_7 (q2 := 10) rfl ?_
      refine xr_aload_n i_X8_thereOf_10 rfl (q := 11) rfl ?_
      refine xr_iload_n i_X8_thereOf_11 rfl (q := 12) rfl ?_
      obtain ⟨c2, h⟩ := xi_if_some h
      obtain ⟨b3, eb3, h⟩ := xi_bind_some h
      refine xr_aaload i_X8_thereOf_12 c2 eb3 (q := 13) rfl ?_
      obtain ⟨c4, h⟩ := xi_if_some h
      refine xr_getZ i_X8_thereOf_13 xfe_X8_92 c4 (q := 16) rfl ?_
      by_cases c5 : (m.1 b3 0) = 0
      · replace h := (if_pos c5).symm.trans h
        refine xr_ifCond_eq_p i_X8_thereOf_16 c5 (q := 22) t_X8_thereOf_16 (q2 := 19) rfl ?_
        refine xr_iinc i_X8_thereOf_22 rfl rfl (L2 := [some (.ref v0), some (.int v1), some (.int (v2 + Int32.ofInt 1))]) rfl (q := 25) rfl ?_
        refine xr_goto i_X8_thereOf_25 (q := 4) t_X8_thereOf_25 ?_
        exact xi_X_le (xi_le_s (xi_le_s (xi_le_s xi_le_z))) (ih _ _ _ _ h)
      · replace h := (if_neg c5).symm.trans h
        refine xr_ifCond_eq_n i_X8_thereOf_16 c5 (q := 22) t_X8_thereOf_16 (q2 := 19) rfl ?_
        refine xr_iinc i_X8_thereOf_19 rfl rfl (L2 := [some (.ref v0), some (.int (v1 + Int32.ofInt 1)), some (.int v2)]) rfl (q := 22) rfl ?_
        refine xr_iinc i_X8_thereOf_22 rfl rfl (L2 := [some (.ref v0), some (.int (v1 + Int32.ofInt 1)), some (.int (v2 + Int32.ofInt 1))]) rfl (q := 25) rfl ?_
        refine xr_goto i_X8_thereOf_25 (q := 4) t_X8_thereOf_25 ?_
        exact xi_X_le (xi_le_s (xi_le_s (xi_le_s xi_le_z))) (ih _ _ _ _ h)
def E_X8_thereOf (S : xi_S) (v0 : Nat) (m : xi_M) : Option xi_R :=
  G_X8_thereOf_4 S 10000 v0 (Int32.ofInt 0) (Int32.ofInt 0) m
def F_X8_thereOf (S : xi_S) : xi_F := fun As m => match As with
  | [.ref v0] => E_X8_thereOf S v0 m
  | _ => none
set_option maxRecDepth 100000 in
set_option maxHeartbeats 4000000 in
theorem xe_X8_thereOf {S : xi_S} {res : xi_R} (v0 : Nat) (m : xi_M) (h : E_X8_thereOf S v0 m = some res) : xi_X S (P_X8_thereOf S) (0, [some (.ref v0), none, none], [], m) res := by
  unfold E_X8_thereOf at h
  refine xr_iconst i_X8_thereOf_0 (q := 1) rfl ?_
  refine xr_istore_n i_X8_thereOf_1 rfl (L2 := [some (.ref v0), some (.int (Int32.ofInt 0)), none]) rfl (q := 2) rfl ?_
  refine xr_iconst i_X8_thereOf_2 (q := 3) rfl ?_
  refine xr_istore_n i_X8_thereOf_3 rfl (L2 := [some (.ref v0), some (.int (Int32.ofInt 0)), some (.int (Int32.ofInt 0))]) rfl (q := 4) rfl ?_
  exact xi_X_le (xi_le_s (xi_le_s (xi_le_s xi_le_z))) (xs_X8_thereOf_4 10000 _ _ _ _ h)
set_option maxRecDepth 100000 in
theorem po_X8_thereOf {l : Launch} {E : xi_E} {S : xi_S} {D : va_G} {tys : List (ClassId × FieldType)} (hC : xCx E S tys) : xi_Pok l E S D vwCl tys xNs RX8 xTs cX8_thereOf 3 0 (P_X8_thereOf S) := ⟨xi_dc_ok, by rw [hC.2]; exact xfo_X8, xkio_X8, xklo_X8, xi_calls_ok (ins := .invokestatic) (fun _ h => absurd h List.not_mem_nil), xi_calls_ok (ins := .invokevirtual) (fun _ h => absurd h List.not_mem_nil)⟩
theorem sn_X8_thereOf {l : Launch} {E : xi_E} {S : xi_S} {D : va_G} {tys : List (ClassId × FieldType)} (hC : xCx E S tys) : ∀ As m1 r m2, F_X8_thereOf S As m1 = some (r, m2) → xi_Sound l E S D vwCl tys xNs xTs yX8_thereOf cX8_thereOf 3 (some .int) 0 As m1 r m2 := by
  intro As m1 r m2 h
  unfold F_X8_thereOf at h
  split at h
  · exact xi_meth (P := P_X8_thereOf S) (by decide) hC.1 (po_X8_thereOf hC) (Nat.le_of_ble_eq_true rfl) rfl (xe_X8_thereOf _ _ h)
  · exact xi_no h
theorem i_X8_keptMany_0 : xi_dc cX8_keptMany 0 = some (.iconst 0, 1) := by decide +kernel
theorem i_X8_keptMany_1 : xi_dc cX8_keptMany 1 = some (.istore_n 1, 1) := by decide +kernel
theorem i_X8_keptMany_2 : xi_dc cX8_keptMany 2 = some (.iconst 0, 1) := by decide +kernel
theorem i_X8_keptMany_3 : xi_dc cX8_keptMany 3 = some (.istore_n 2, 1) := by decide +kernel
theorem i_X8_keptMany_4 : xi_dc cX8_keptMany 4 = some (.iload_n 2, 1) := by decide +kernel
theorem i_X8_keptMany_5 : xi_dc cX8_keptMany 5 = some (.iconst 3, 1) := by decide +kernel
theorem i_X8_keptMany_6 : xi_dc cX8_keptMany 6 = some (.if_icmp .ge 20, 3) := by decide +kernel
theorem t_X8_keptMany_6 : ((6 : Nat) : Int) + 20 = ((26 : Nat) : Int) := by decide +kernel
theorem i_X8_keptMany_9 : xi_dc cX8_keptMany 9 = some (.aload_n 0, 1) := by decide +kernel
theorem i_X8_keptMany_10 : xi_dc cX8_keptMany 10 = some (.iload_n 2, 1) := by decide +kernel
theorem i_X8_keptMany_11 : xi_dc cX8_keptMany 11 = some (.invokevirtual 215, 3) := by decide +kernel
theorem i_X8_keptMany_14 : xi_dc cX8_keptMany 14 = some (.ifCond .eq 6, 3) := by decide +kernel
theorem t_X8_keptMany_14 : ((14 : Nat) : Int) + 6 = ((20 : Nat) : Int) := by decide +kernel
theorem i_X8_keptMany_17 : xi_dc cX8_keptMany 17 = some (.iinc 1 1, 3) := by decide +kernel
theorem i_X8_keptMany_20 : xi_dc cX8_keptMany 20 = some (.iinc 2 1, 3) := by decide +kernel
theorem i_X8_keptMany_23 : xi_dc cX8_keptMany 23 = some (.goto (-19), 3) := by decide +kernel
theorem t_X8_keptMany_23 : ((23 : Nat) : Int) + (-19) = ((4 : Nat) : Int) := by decide +kernel
theorem i_X8_keptMany_26 : xi_dc cX8_keptMany 26 = some (.iload_n 1, 1) := by decide +kernel
theorem i_X8_keptMany_27 : xi_dc cX8_keptMany 27 = some (.ireturn, 1) := by decide +kernel
def P_X8_keptMany (S : xi_S) : xi_P := (xi_dc cX8_keptMany, xi_tab xfl_X8, xi_tab xki_X8, xi_tab xkl_X8, xi_tab xcs_X8, xi_tab xcv_X8, xi_calls [], xi_calls [(215, xi_wV S 10 1 (F_X8_isKept S))], 1)
theorem cc_X8_keptMany_215 (S : xi_S) (a0 : Nat) (a1 : Int32) (m : xi_M) : (P_X8_keptMany S).2.2.2.2.2.2.2.1 215 [.ref a0, .int a1] m = (if S.1 a0 = 10 then E_X8_isKept S a0 a1 m else none) := by
  show xi_calls [(215, xi_wV S 10 1 (F_X8_isKept S))] 215 [.ref a0, .int a1] m = _
  refine Eq.trans (b := xi_wV S 10 1 (F_X8_isKept S) [.ref a0, .int a1] m) (xi_calls_hit rfl) ?_
  exact xi_wV_eq rfl
def G_X8_keptMany_4 (S : xi_S) : Nat → Nat → Int32 → Int32 → xi_M → Option xi_R
  | 0, _, _, _, _ => none
  | n + 1, v0, v1, v2, m =>
    if (Int32.ofInt 3) ≤ v2 then
      some (some (.int v1), m)
    else
      xi_bI (if S.1 v0 = 10 then E_X8_isKept S v0 v2 m else none) fun x2 m1 =>
      if x2 = 0 then
        G_X8_keptMany_4 S n v0 v1 (v2 + Int32.ofInt 1) m1
      else
        G_X8_keptMany_4 S n v0 (v1 + Int32.ofInt 1) (v2 + Int32.ofInt 1) m1
set_option maxRecDepth 100000 in
set_option maxHeartbeats 4000000 in
theorem xs_X8_keptMany_4 {S : xi_S} {res : xi_R} : ∀ (n : Nat) (v0 : Nat) (v1 : Int32) (v2 : Int32) (m : xi_M), G_X8_keptMany_4 S n v0 v1 v2 m = some res → xi_X S (P_X8_keptMany S) (4, [some (.ref v0), some (.int v1), some (.int v2)], [], m) res := by
  intro n
  induction n with
  | zero => intro v0 v1 v2 m h; exact xi_no h
  | succ n ih =>
    intro v0 v1 v2 m h
    unfold G_X8_keptMany_4 at h
    refine xr_iload_n i_X8_keptMany_4 rfl (q := 5) rfl ?_
    refine xr_iconst i_X8_keptMany_5 (q := 6) rfl ?_
    by_cases c4 : (Int32.ofInt 3) ≤ v2
    · replace h := (if_pos c4).symm.trans h
      refine xr_if_icmp_ge_p i_X8_keptMany_6 c4 (q := 26) t_X8_keptMany_6 (q2 := 9) rfl ?_
      refine xr_iload_n i_X8_keptMany_26 rfl (q := 27) rfl ?_
      exact xr_ireturn i_X8_keptMany_27 rfl h
    · replace h := (if_neg c4).symm.trans h
      refine xr_if_icmp_ge_n i_X8_keptMany_6 c4 (q := 26) t_X8_keptMany_6 (q2 := 9) rfl ?_
      refine xr_aload_n i_X8_keptMany_9 rfl (q := 10) rfl ?_
      refine xr_iload_n i_X8_keptMany_10 rfl (q := 11) rfl ?_
      obtain ⟨x2, m1, em1, h⟩ := xi_bI_some h
      refine xr_VI i_X8_keptMany_11 xcve_X8_215 rfl (As := [.ref v0, .int v2]) rfl (rest := []) rfl ((cc_X8_keptMany_215 S _ _ _).trans em1) (q := 14) rfl ?_
      by_cases c3 : x2 = 0
      · replace h := (if_pos c3).symm.trans h
        refine xr_ifCond_eq_p i_X8_keptMany_14 c3 (q := 20) t_X8_keptMany_14 (q2 := 17) rfl ?_
        refine xr_iinc i_X8_keptMany_20 rfl rfl (L2 := [some (.ref v0), some (.int v1), some (.int (v2 + Int32.ofInt 1))]) rfl (q := 23) rfl ?_
        refine xr_goto i_X8_keptMany_23 (q := 4) t_X8_keptMany_23 ?_
        exact xi_X_le (xi_le_s (xi_le_s (xi_le_s xi_le_z))) (ih _ _ _ _ h)
      · replace h := (if_neg c3).symm.trans h
        refine xr_ifCond_eq_n i_X8_keptMany_14 c3 (q := 20) t_X8_keptMany_14 (q2 := 17) rfl ?_
        refine xr_iinc i_X8_keptMany_17 rfl rfl (L2 := [some (.ref v0), some (.int (v1 + Int32.ofInt 1)), some (.int v2)]) rfl (q := 20) rfl ?_
        refine xr_iinc i_X8_keptMany_20 rfl rfl (L2 := [some (.ref v0), some (.int (v1 + Int32.ofInt 1)), some (.int (v2 + Int32.ofInt 1))]) rfl (q := 23) rfl ?_
        refine xr_goto i_X8_keptMany_23 (q := 4) t_X8_keptMany_23 ?_
        exact xi_X_le (xi_le_s (xi_le_s (xi_le_s xi_le_z))) (ih _ _ _ _ h)
def E_X8_keptMany (S : xi_S) (v0 : Nat) (m : xi_M) : Option xi_R :=
  G_X8_keptMany_4 S 10000 v0 (Int32.ofInt 0) (Int32.ofInt 0) m
def F_X8_keptMany (S : xi_S) : xi_F := fun As m => match As with
  | [.ref v0] => E_X8_keptMany S v0 m
  | _ => none
set_option maxRecDepth 100000 in
set_option maxHeartbeats 4000000 in
theorem xe_X8_keptMany {S : xi_S} {res : xi_R} (v0 : Nat) (m : xi_M) (h : E_X8_keptMany S v0 m = some res) : xi_X S (P_X8_keptMany S) (0, [some (.ref v0), none, none], [], m) res := by
  unfold E_X8_keptMany at h
  refine xr_iconst i_X8_keptMany_0 (q := 1) rfl ?_
  refine xr_istore_n i_X8_keptMany_1 rfl (L2 := [some (.ref v0), some (.int (Int32.ofInt 0)), none]) rfl (q := 2) rfl ?_
  refine xr_iconst i_X8_keptMany_2 (q := 3) rfl ?_
  refine xr_istore_n i_X8_keptMany_3 rfl (L2 := [some (.ref v0), some (.int (Int32.ofInt 0)), some (.int (Int32.ofInt 0))]) rfl (q := 4) rfl ?_
  exact xi_X_le (xi_le_s (xi_le_s (xi_le_s xi_le_z))) (xs_X8_keptMany_4 10000 _ _ _ _ h)
set_option maxRecDepth 100000 in
theorem po_X8_keptMany {l : Launch} {E : xi_E} {S : xi_S} {D : va_G} {tys : List (ClassId × FieldType)} (hC : xCx E S tys) : xi_Pok l E S D vwCl tys xNs RX8 xTs cX8_keptMany 3 1 (P_X8_keptMany S) := ⟨xi_dc_ok, by rw [hC.2]; exact xfo_X8, xkio_X8, xklo_X8, xi_calls_ok (ins := .invokestatic) (fun _ h => absurd h List.not_mem_nil), xi_calls_ok (ins := .invokevirtual) (List.forall_mem_cons.mpr ⟨(xc_X8_215 hC.1 (sn_X8_isKept hC) (by decide)), fun _ h => absurd h List.not_mem_nil⟩)⟩
theorem sn_X8_keptMany {l : Launch} {E : xi_E} {S : xi_S} {D : va_G} {tys : List (ClassId × FieldType)} (hC : xCx E S tys) : ∀ As m1 r m2, F_X8_keptMany S As m1 = some (r, m2) → xi_Sound l E S D vwCl tys xNs xTs yX8_keptMany cX8_keptMany 3 (some .int) 1 As m1 r m2 := by
  intro As m1 r m2 h
  unfold F_X8_keptMany at h
  split at h
  · exact xi_meth (P := P_X8_keptMany S) (by decide) hC.1 (po_X8_keptMany hC) (Nat.le_of_ble_eq_true rfl) rfl (xe_X8_keptMany _ _ h)
  · exact xi_no h
theorem i_X8_count_0 : xi_dc cX8_count 0 = some (.iload_n 1, 1) := by decide +kernel
theorem i_X8_count_1 : xi_dc cX8_count 1 = some (.bipush 15, 2) := by decide +kernel
theorem i_X8_count_3 : xi_dc cX8_count 3 = some (.invokestatic 71, 3) := by decide +kernel
theorem i_X8_count_6 : xi_dc cX8_count 6 = some (.ifCond .ne 5, 3) := by decide +kernel
theorem t_X8_count_6 : ((6 : Nat) : Int) + 5 = ((11 : Nat) : Int) := by decide +kernel
theorem i_X8_count_9 : xi_dc cX8_count 9 = some (.iconst (-1), 1) := by decide +kernel
theorem i_X8_count_10 : xi_dc cX8_count 10 = some (.ireturn, 1) := by decide +kernel
theorem i_X8_count_11 : xi_dc cX8_count 11 = some (.iload_n 1, 1) := by decide +kernel
theorem i_X8_count_12 : xi_dc cX8_count 12 = some (.tableswitch 49 13 15 #[28, 36, 44], 28) := by decide +kernel
theorem i_X8_count_40 : xi_dc cX8_count 40 = some (.aload_n 0, 1) := by decide +kernel
theorem i_X8_count_41 : xi_dc cX8_count 41 = some (.getfield 11, 3) := by decide +kernel
theorem i_X8_count_44 : xi_dc cX8_count 44 = some (.invokestatic 304, 3) := by decide +kernel
theorem i_X8_count_47 : xi_dc cX8_count 47 = some (.ireturn, 1) := by decide +kernel
theorem i_X8_count_48 : xi_dc cX8_count 48 = some (.aload_n 0, 1) := by decide +kernel
theorem i_X8_count_49 : xi_dc cX8_count 49 = some (.getfield 15, 3) := by decide +kernel
theorem i_X8_count_52 : xi_dc cX8_count 52 = some (.invokestatic 304, 3) := by decide +kernel
theorem i_X8_count_55 : xi_dc cX8_count 55 = some (.ireturn, 1) := by decide +kernel
theorem i_X8_count_56 : xi_dc cX8_count 56 = some (.aload_n 0, 1) := by decide +kernel
theorem i_X8_count_57 : xi_dc cX8_count 57 = some (.invokevirtual 308, 3) := by decide +kernel
theorem i_X8_count_60 : xi_dc cX8_count 60 = some (.ireturn, 1) := by decide +kernel
theorem i_X8_count_61 : xi_dc cX8_count 61 = some (.aload_n 0, 1) := by decide +kernel
theorem i_X8_count_62 : xi_dc cX8_count 62 = some (.getfield 21, 3) := by decide +kernel
theorem i_X8_count_65 : xi_dc cX8_count 65 = some (.iload_n 1, 1) := by decide +kernel
theorem i_X8_count_66 : xi_dc cX8_count 66 = some (.invokevirtual 311, 3) := by decide +kernel
theorem i_X8_count_69 : xi_dc cX8_count 69 = some (.ireturn, 1) := by decide +kernel
def P_X8_count (S : xi_S) : xi_P := (xi_dc cX8_count, xi_tab xfl_X8, xi_tab xki_X8, xi_tab xkl_X8, xi_tab xcs_X8, xi_tab xcv_X8, xi_calls [(71, xi_wS 2 (F_X8_within S)), (304, xi_wS 1 (F_X8_thereOf S))], xi_calls [(308, xi_wV S 10 0 (F_X8_keptMany S)), (311, xi_wV S 8 1 (F_X6_number S))], 1)
theorem cc_X8_count_71 (S : xi_S) (a0 : Int32) (a1 : Int32) (m : xi_M) : (P_X8_count S).2.2.2.2.2.2.1 71 [.int a0, .int a1] m = (E_X8_within S a0 a1 m) := by
  show xi_calls [(71, xi_wS 2 (F_X8_within S)), (304, xi_wS 1 (F_X8_thereOf S))] 71 [.int a0, .int a1] m = _
  refine Eq.trans (b := xi_wS 2 (F_X8_within S) [.int a0, .int a1] m) (xi_calls_hit rfl) ?_
  exact xi_wS_eq rfl
theorem cc_X8_count_304 (S : xi_S) (a0 : Nat) (m : xi_M) : (P_X8_count S).2.2.2.2.2.2.1 304 [.ref a0] m = (E_X8_thereOf S a0 m) := by
  show xi_calls [(71, xi_wS 2 (F_X8_within S)), (304, xi_wS 1 (F_X8_thereOf S))] 304 [.ref a0] m = _
  refine Eq.trans (b := xi_calls [(304, xi_wS 1 (F_X8_thereOf S))] 304 [.ref a0] m) (xi_calls_miss rfl) ?_
  refine Eq.trans (b := xi_wS 1 (F_X8_thereOf S) [.ref a0] m) (xi_calls_hit rfl) ?_
  exact xi_wS_eq rfl
theorem cc_X8_count_308 (S : xi_S) (a0 : Nat) (m : xi_M) : (P_X8_count S).2.2.2.2.2.2.2.1 308 [.ref a0] m = (if S.1 a0 = 10 then E_X8_keptMany S a0 m else none) := by
  show xi_calls [(308, xi_wV S 10 0 (F_X8_keptMany S)), (311, xi_wV S 8 1 (F_X6_number S))] 308 [.ref a0] m = _
  refine Eq.trans (b := xi_wV S 10 0 (F_X8_keptMany S) [.ref a0] m) (xi_calls_hit rfl) ?_
  exact xi_wV_eq rfl
theorem cc_X8_count_311 (S : xi_S) (a0 : Nat) (a1 : Int32) (m : xi_M) : (P_X8_count S).2.2.2.2.2.2.2.1 311 [.ref a0, .int a1] m = (if S.1 a0 = 8 then E_X6_number S a0 a1 m else none) := by
  show xi_calls [(308, xi_wV S 10 0 (F_X8_keptMany S)), (311, xi_wV S 8 1 (F_X6_number S))] 311 [.ref a0, .int a1] m = _
  refine Eq.trans (b := xi_calls [(311, xi_wV S 8 1 (F_X6_number S))] 311 [.ref a0, .int a1] m) (xi_calls_miss rfl) ?_
  refine Eq.trans (b := xi_wV S 8 1 (F_X6_number S) [.ref a0, .int a1] m) (xi_calls_hit rfl) ?_
  exact xi_wV_eq rfl
def E_X8_count (S : xi_S) (v0 : Nat) (v1 : Int32) (m : xi_M) : Option xi_R :=
  xi_bI (E_X8_within S v1 ((Int8.ofInt 15).toInt32) m) fun x2 m1 =>
  if x2 = 0 then
    some (some (.int (Int32.ofInt (-1))), m1)
  else
    if Int32.toInt v1 = 13 then
      if S.1 v0 = 10 then (S.2.2 v0 0).bind fun b5 =>
        xi_bI (E_X8_thereOf S b5 m1) fun x7 m6 =>
        some (some (.int x7), m6)
      else none
    else
      if Int32.toInt v1 = 14 then
        if S.1 v0 = 10 then (S.2.2 v0 1).bind fun b10 =>
          xi_bI (E_X8_thereOf S b10 m1) fun x12 m11 =>
          some (some (.int x12), m11)
        else none
      else
        if Int32.toInt v1 = 15 then
          xi_bI (if S.1 v0 = 10 then E_X8_keptMany S v0 m1 else none) fun x15 m14 =>
          some (some (.int x15), m14)
        else
          if S.1 v0 = 10 then (S.2.2 v0 2).bind fun b17 =>
            xi_bI (if S.1 b17 = 8 then E_X6_number S b17 v1 m1 else none) fun x19 m18 =>
            some (some (.int x19), m18)
          else none
def F_X8_count (S : xi_S) : xi_F := fun As m => match As with
  | [.ref v0, .int v1] => E_X8_count S v0 v1 m
  | _ => none
set_option maxRecDepth 100000 in
set_option maxHeartbeats 4000000 in
theorem xe_X8_count {S : xi_S} {res : xi_R} (v0 : Nat) (v1 : Int32) (m : xi_M) (h : E_X8_count S v0 v1 m = some res) : xi_X S (P_X8_count S) (0, [some (.ref v0), some (.int v1)], [], m) res := by
  unfold E_X8_count at h
  refine xr_iload_n i_X8_count_0 rfl (q := 1) rfl ?_
  refine xr_bipush i_X8_count_1 (q := 3) rfl ?_
  obtain ⟨x2, m1, em1, h⟩ := xi_bI_some h
  refine xr_SI i_X8_count_3 xcse_X8_71 rfl (As := [.int v1, .int ((Int8.ofInt 15).toInt32)]) rfl (rest := []) rfl ((cc_X8_count_71 S _ _ _).trans em1) (q := 6) rfl ?_
  by_cases c20 : x2 = 0
  · replace h := (if_pos c20).symm.trans h
    refine xr_ifCond_ne_p i_X8_count_6 c20 (q := 11) t_X8_count_6 (q2 := 9) rfl ?_
    refine xr_iconst i_X8_count_9 (q := 10) rfl ?_
    exact xr_ireturn i_X8_count_10 rfl h
  · replace h := (if_neg c20).symm.trans h
    refine xr_ifCond_ne_n i_X8_count_6 c20 (q := 11) t_X8_count_6 (q2 := 9) rfl ?_
    refine xr_iload_n i_X8_count_11 rfl (q := 12) rfl ?_
    by_cases c3 : Int32.toInt v1 = 13
    · replace h := (if_pos c3).symm.trans h
      refine xr_table i_X8_count_12 rfl (off := 28) (fun kk => xi_sw_hit c3) (q := 40) rfl ?_
      refine xr_aload_n i_X8_count_40 rfl (q := 41) rfl ?_
      obtain ⟨c4, h⟩ := xi_if_some h
      obtain ⟨b5, eb5, h⟩ := xi_bind_some h
      refine xr_getR i_X8_count_41 xfe_X8_11 c4 eb5 (q := 44) rfl ?_
      obtain ⟨x7, m6, em6, h⟩ := xi_bI_some h
      refine xr_SI i_X8_count_44 xcse_X8_304 rfl (As := [.ref b5]) rfl (rest := []) rfl ((cc_X8_count_304 S _ _).trans em6) (q := 47) rfl ?_
      exact xr_ireturn i_X8_count_47 rfl h
    · replace h := (if_neg c3).symm.trans h
      by_cases c8 : Int32.toInt v1 = 14
      · replace h := (if_pos c8).symm.trans h
        refine xr_table i_X8_count_12 rfl (off := 36) (fun kk => (xi_sw_miss c3).trans (xi_sw_hit c8)) (q := 48) rfl ?_
        refine xr_aload_n i_X8_count_48 rfl (q := 49) rfl ?_
        obtain ⟨c9, h⟩ := xi_if_some h
        obtain ⟨b10, eb10, h⟩ := xi_bind_some h
        refine xr_getR i_X8_count_49 xfe_X8_15 c9 eb10 (q := 52) rfl ?_
        obtain ⟨x12, m11, em11, h⟩ := xi_bI_some h
        refine xr_SI i_X8_count_52 xcse_X8_304 rfl (As := [.ref b10]) rfl (rest := []) rfl ((cc_X8_count_304 S _ _).trans em11) (q := 55) rfl ?_
        exact xr_ireturn i_X8_count_55 rfl h
      · replace h := (if_neg c8).symm.trans h
        by_cases c13 : Int32.toInt v1 = 15
        · replace h := (if_pos c13).symm.trans h
          refine xr_table i_X8_count_12 rfl (off := 44) (fun kk => (xi_sw_miss c3).trans ((xi_sw_miss c8).trans (xi_sw_hit c13))) (q := 56) rfl ?_
          refine xr_aload_n i_X8_count_56 rfl (q := 57) rfl ?_
          obtain ⟨x15, m14, em14, h⟩ := xi_bI_some h
          refine xr_VI i_X8_count_57 xcve_X8_308 rfl (As := [.ref v0]) rfl (rest := []) rfl ((cc_X8_count_308 S _ _).trans em14) (q := 60) rfl ?_
          exact xr_ireturn i_X8_count_60 rfl h
        · replace h := (if_neg c13).symm.trans h
          refine xr_table i_X8_count_12 rfl (off := 49) (fun kk => (xi_sw_miss c3).trans ((xi_sw_miss c8).trans ((xi_sw_miss c13).trans (rfl)))) (q := 61) rfl ?_
          refine xr_aload_n i_X8_count_61 rfl (q := 62) rfl ?_
          obtain ⟨c16, h⟩ := xi_if_some h
          obtain ⟨b17, eb17, h⟩ := xi_bind_some h
          refine xr_getR i_X8_count_62 xfe_X8_21 c16 eb17 (q := 65) rfl ?_
          refine xr_iload_n i_X8_count_65 rfl (q := 66) rfl ?_
          obtain ⟨x19, m18, em18, h⟩ := xi_bI_some h
          refine xr_VI i_X8_count_66 xcve_X8_311 rfl (As := [.ref b17, .int v1]) rfl (rest := []) rfl ((cc_X8_count_311 S _ _ _).trans em18) (q := 69) rfl ?_
          exact xr_ireturn i_X8_count_69 rfl h
set_option maxRecDepth 100000 in
theorem po_X8_count {l : Launch} {E : xi_E} {S : xi_S} {D : va_G} {tys : List (ClassId × FieldType)} (hC : xCx E S tys) : xi_Pok l E S D vwCl tys xNs RX8 xTs cX8_count 2 3 (P_X8_count S) := ⟨xi_dc_ok, by rw [hC.2]; exact xfo_X8, xkio_X8, xklo_X8, xi_calls_ok (ins := .invokestatic) (List.forall_mem_cons.mpr ⟨(xc_X8_71 (sn_X8_within hC) (by decide)), List.forall_mem_cons.mpr ⟨(xc_X8_304 (sn_X8_thereOf hC) (by decide)), fun _ h => absurd h List.not_mem_nil⟩⟩), xi_calls_ok (ins := .invokevirtual) (List.forall_mem_cons.mpr ⟨(xc_X8_308 hC.1 (sn_X8_keptMany hC) (by decide)), List.forall_mem_cons.mpr ⟨(xc_X8_311 hC.1 (sn_X6_number hC) (by decide)), fun _ h => absurd h List.not_mem_nil⟩⟩)⟩
theorem sn_X8_count {l : Launch} {E : xi_E} {S : xi_S} {D : va_G} {tys : List (ClassId × FieldType)} (hC : xCx E S tys) : ∀ As m1 r m2, F_X8_count S As m1 = some (r, m2) → xi_Sound l E S D vwCl tys xNs xTs yX8_count cX8_count 2 (some .int) 3 As m1 r m2 := by
  intro As m1 r m2 h
  unfold F_X8_count at h
  split at h
  · exact xi_meth (P := P_X8_count S) (by decide) hC.1 (po_X8_count hC) (Nat.le_of_ble_eq_true rfl) rfl (xe_X8_count _ _ _ h)
  · exact xi_no h
theorem i_X8_finding_0 : xi_dc cX8_finding 0 = some (.aload_n 0, 1) := by decide +kernel
theorem i_X8_finding_1 : xi_dc cX8_finding 1 = some (.getfield 314, 3) := by decide +kernel
theorem i_X8_finding_4 : xi_dc cX8_finding 4 = some (.ireturn, 1) := by decide +kernel
def P_X8_finding (S : xi_S) : xi_P := (xi_dc cX8_finding, xi_tab xfl_X8, xi_tab xki_X8, xi_tab xkl_X8, xi_tab xcs_X8, xi_tab xcv_X8, xi_calls [], xi_calls [], 1)
def E_X8_finding (S : xi_S) (v0 : Nat) (m : xi_M) : Option xi_R :=
  if S.1 v0 = 10 then
    some (some (.int (m.1 v0 10)), m)
  else none
def F_X8_finding (S : xi_S) : xi_F := fun As m => match As with
  | [.ref v0] => E_X8_finding S v0 m
  | _ => none
set_option maxRecDepth 100000 in
set_option maxHeartbeats 4000000 in
theorem xe_X8_finding {S : xi_S} {res : xi_R} (v0 : Nat) (m : xi_M) (h : E_X8_finding S v0 m = some res) : xi_X S (P_X8_finding S) (0, [some (.ref v0)], [], m) res := by
  unfold E_X8_finding at h
  refine xr_aload_n i_X8_finding_0 rfl (q := 1) rfl ?_
  obtain ⟨c1, h⟩ := xi_if_some h
  refine xr_getI i_X8_finding_1 xfe_X8_314 c1 (q := 4) rfl ?_
  exact xr_ireturn i_X8_finding_4 rfl h
set_option maxRecDepth 100000 in
theorem po_X8_finding {l : Launch} {E : xi_E} {S : xi_S} {D : va_G} {tys : List (ClassId × FieldType)} (hC : xCx E S tys) : xi_Pok l E S D vwCl tys xNs RX8 xTs cX8_finding 1 0 (P_X8_finding S) := ⟨xi_dc_ok, by rw [hC.2]; exact xfo_X8, xkio_X8, xklo_X8, xi_calls_ok (ins := .invokestatic) (fun _ h => absurd h List.not_mem_nil), xi_calls_ok (ins := .invokevirtual) (fun _ h => absurd h List.not_mem_nil)⟩
theorem sn_X8_finding {l : Launch} {E : xi_E} {S : xi_S} {D : va_G} {tys : List (ClassId × FieldType)} (hC : xCx E S tys) : ∀ As m1 r m2, F_X8_finding S As m1 = some (r, m2) → xi_Sound l E S D vwCl tys xNs xTs yX8_finding cX8_finding 1 (some .int) 0 As m1 r m2 := by
  intro As m1 r m2 h
  unfold F_X8_finding at h
  split at h
  · exact xi_meth (P := P_X8_finding S) (by decide) hC.1 (po_X8_finding hC) (Nat.le_of_ble_eq_true rfl) rfl (xe_X8_finding _ _ h)
  · exact xi_no h
theorem i_X8_findings_0 : xi_dc cX8_findings 0 = some (.iload_n 1, 1) := by decide +kernel
theorem i_X8_findings_1 : xi_dc cX8_findings 1 = some (.iconst 1, 1) := by decide +kernel
theorem i_X8_findings_2 : xi_dc cX8_findings 2 = some (.if_icmp .lt 8, 3) := by decide +kernel
theorem t_X8_findings_2 : ((2 : Nat) : Int) + 8 = ((10 : Nat) : Int) := by decide +kernel
theorem i_X8_findings_5 : xi_dc cX8_findings 5 = some (.iload_n 1, 1) := by decide +kernel
theorem i_X8_findings_6 : xi_dc cX8_findings 6 = some (.iconst 5, 1) := by decide +kernel
theorem i_X8_findings_7 : xi_dc cX8_findings 7 = some (.if_icmp .le 5, 3) := by decide +kernel
theorem t_X8_findings_7 : ((7 : Nat) : Int) + 5 = ((12 : Nat) : Int) := by decide +kernel
theorem i_X8_findings_10 : xi_dc cX8_findings 10 = some (.iconst (-1), 1) := by decide +kernel
theorem i_X8_findings_11 : xi_dc cX8_findings 11 = some (.ireturn, 1) := by decide +kernel
theorem i_X8_findings_12 : xi_dc cX8_findings 12 = some (.aload_n 0, 1) := by decide +kernel
theorem i_X8_findings_13 : xi_dc cX8_findings 13 = some (.getfield 60, 3) := by decide +kernel
theorem i_X8_findings_16 : xi_dc cX8_findings 16 = some (.iload_n 1, 1) := by decide +kernel
theorem i_X8_findings_17 : xi_dc cX8_findings 17 = some (.iaload, 1) := by decide +kernel
theorem i_X8_findings_18 : xi_dc cX8_findings 18 = some (.ireturn, 1) := by decide +kernel
def P_X8_findings (S : xi_S) : xi_P := (xi_dc cX8_findings, xi_tab xfl_X8, xi_tab xki_X8, xi_tab xkl_X8, xi_tab xcs_X8, xi_tab xcv_X8, xi_calls [], xi_calls [], 1)
def E_X8_findings (S : xi_S) (v0 : Nat) (v1 : Int32) (m : xi_M) : Option xi_R :=
  if v1 < (Int32.ofInt 1) then
    some (some (.int (Int32.ofInt (-1))), m)
  else
    if v1 ≤ (Int32.ofInt 5) then
      if S.1 v0 = 10 then (S.2.2 v0 9).bind fun b2 =>
        if S.1 b2 = 0 ∧ ¬ (v1 < 0 ∨ S.2.1 b2 ≤ Int32.toNatClampNeg v1) then
          some (some (.int (m.1 b2 (Int32.toNatClampNeg v1))), m)
        else none
      else none
    else
      some (some (.int (Int32.ofInt (-1))), m)
def F_X8_findings (S : xi_S) : xi_F := fun As m => match As with
  | [.ref v0, .int v1] => E_X8_findings S v0 v1 m
  | _ => none
set_option maxRecDepth 100000 in
set_option maxHeartbeats 4000000 in
theorem xe_X8_findings {S : xi_S} {res : xi_R} (v0 : Nat) (v1 : Int32) (m : xi_M) (h : E_X8_findings S v0 v1 m = some res) : xi_X S (P_X8_findings S) (0, [some (.ref v0), some (.int v1)], [], m) res := by
  unfold E_X8_findings at h
  refine xr_iload_n i_X8_findings_0 rfl (q := 1) rfl ?_
  refine xr_iconst i_X8_findings_1 (q := 2) rfl ?_
  by_cases c5 : v1 < (Int32.ofInt 1)
  · replace h := (if_pos c5).symm.trans h
    refine xr_if_icmp_lt_p i_X8_findings_2 c5 (q := 10) t_X8_findings_2 (q2 := 5) rfl ?_
    refine xr_iconst i_X8_findings_10 (q := 11) rfl ?_
    exact xr_ireturn i_X8_findings_11 rfl h
  · replace h := (if_neg c5).symm.trans h
    refine xr_if_icmp_lt_n i_X8_findings_2 c5 (q := 10) t_X8_findings_2 (q2 := 5) rfl ?_
    refine xr_iload_n i_X8_findings_5 rfl (q := 6) rfl ?_
    refine xr_iconst i_X8_findings_6 (q := 7) rfl ?_
    by_cases c4 : v1 ≤ (Int32.ofInt 5)
    · replace h := (if_pos c4).symm.trans h
      refine xr_if_icmp_le_p i_X8_findings_7 c4 (q := 12) t_X8_findings_7 (q2 := 10) rfl ?_
      refine xr_aload_n i_X8_findings_12 rfl (q := 13) rfl ?_
      obtain ⟨c1, h⟩ := xi_if_some h
      obtain ⟨b2, eb2, h⟩ := xi_bind_some h
      refine xr_getR i_X8_findings_13 xfe_X8_60 c1 eb2 (q := 16) rfl ?_
      refine xr_iload_n i_X8_findings_16 rfl (q := 17) rfl ?_
      obtain ⟨c3, h⟩ := xi_if_some h
      refine xr_iaload i_X8_findings_17 c3 (q := 18) rfl ?_
      exact xr_ireturn i_X8_findings_18 rfl h
    · replace h := (if_neg c4).symm.trans h
      refine xr_if_icmp_le_n i_X8_findings_7 c4 (q := 12) t_X8_findings_7 (q2 := 10) rfl ?_
      refine xr_iconst i_X8_findings_10 (q := 11) rfl ?_
      exact xr_ireturn i_X8_findings_11 rfl h
set_option maxRecDepth 100000 in
theorem po_X8_findings {l : Launch} {E : xi_E} {S : xi_S} {D : va_G} {tys : List (ClassId × FieldType)} (hC : xCx E S tys) : xi_Pok l E S D vwCl tys xNs RX8 xTs cX8_findings 2 0 (P_X8_findings S) := ⟨xi_dc_ok, by rw [hC.2]; exact xfo_X8, xkio_X8, xklo_X8, xi_calls_ok (ins := .invokestatic) (fun _ h => absurd h List.not_mem_nil), xi_calls_ok (ins := .invokevirtual) (fun _ h => absurd h List.not_mem_nil)⟩
theorem sn_X8_findings {l : Launch} {E : xi_E} {S : xi_S} {D : va_G} {tys : List (ClassId × FieldType)} (hC : xCx E S tys) : ∀ As m1 r m2, F_X8_findings S As m1 = some (r, m2) → xi_Sound l E S D vwCl tys xNs xTs yX8_findings cX8_findings 2 (some .int) 0 As m1 r m2 := by
  intro As m1 r m2 h
  unfold F_X8_findings at h
  split at h
  · exact xi_meth (P := P_X8_findings S) (by decide) hC.1 (po_X8_findings hC) (Nat.le_of_ble_eq_true rfl) rfl (xe_X8_findings _ _ _ h)
  · exact xi_no h
theorem i_X8_digest_0 : xi_dc cX8_digest 0 = some (.ldc2_w 317, 3) := by decide +kernel
theorem i_X8_digest_3 : xi_dc cX8_digest 3 = some (.lstore_n 1, 1) := by decide +kernel
theorem i_X8_digest_4 : xi_dc cX8_digest 4 = some (.iconst 0, 1) := by decide +kernel
theorem i_X8_digest_5 : xi_dc cX8_digest 5 = some (.istore_n 3, 1) := by decide +kernel
theorem i_X8_digest_6 : xi_dc cX8_digest 6 = some (.iload_n 3, 1) := by decide +kernel
theorem i_X8_digest_7 : xi_dc cX8_digest 7 = some (.bipush 15, 2) := by decide +kernel
theorem i_X8_digest_9 : xi_dc cX8_digest 9 = some (.if_icmp .gt 22, 3) := by decide +kernel
theorem t_X8_digest_9 : ((9 : Nat) : Int) + 22 = ((31 : Nat) : Int) := by decide +kernel
theorem i_X8_digest_12 : xi_dc cX8_digest 12 = some (.ldc2_w 319, 3) := by decide +kernel
theorem i_X8_digest_15 : xi_dc cX8_digest 15 = some (.lload_n 1, 1) := by decide +kernel
theorem i_X8_digest_16 : xi_dc cX8_digest 16 = some (.lmul, 1) := by decide +kernel
theorem i_X8_digest_17 : xi_dc cX8_digest 17 = some (.aload_n 0, 1) := by decide +kernel
theorem i_X8_digest_18 : xi_dc cX8_digest 18 = some (.iload_n 3, 1) := by decide +kernel
theorem i_X8_digest_19 : xi_dc cX8_digest 19 = some (.invokevirtual 321, 3) := by decide +kernel
theorem i_X8_digest_22 : xi_dc cX8_digest 22 = some (.i2l, 1) := by decide +kernel
theorem i_X8_digest_23 : xi_dc cX8_digest 23 = some (.ladd, 1) := by decide +kernel
theorem i_X8_digest_24 : xi_dc cX8_digest 24 = some (.lstore_n 1, 1) := by decide +kernel
theorem i_X8_digest_25 : xi_dc cX8_digest 25 = some (.iinc 3 1, 3) := by decide +kernel
theorem i_X8_digest_28 : xi_dc cX8_digest 28 = some (.goto (-22), 3) := by decide +kernel
theorem t_X8_digest_28 : ((28 : Nat) : Int) + (-22) = ((6 : Nat) : Int) := by decide +kernel
theorem i_X8_digest_31 : xi_dc cX8_digest 31 = some (.iconst 0, 1) := by decide +kernel
theorem i_X8_digest_32 : xi_dc cX8_digest 32 = some (.istore_n 3, 1) := by decide +kernel
theorem i_X8_digest_33 : xi_dc cX8_digest 33 = some (.iload_n 3, 1) := by decide +kernel
theorem i_X8_digest_34 : xi_dc cX8_digest 34 = some (.aload_n 0, 1) := by decide +kernel
theorem i_X8_digest_35 : xi_dc cX8_digest 35 = some (.getfield 21, 3) := by decide +kernel
theorem i_X8_digest_38 : xi_dc cX8_digest 38 = some (.getfield 129, 3) := by decide +kernel
theorem i_X8_digest_41 : xi_dc cX8_digest 41 = some (.if_icmp .ge 43, 3) := by decide +kernel
theorem t_X8_digest_41 : ((41 : Nat) : Int) + 43 = ((84 : Nat) : Int) := by decide +kernel
theorem i_X8_digest_44 : xi_dc cX8_digest 44 = some (.iconst 0, 1) := by decide +kernel
theorem i_X8_digest_45 : xi_dc cX8_digest 45 = some (.istore 4, 2) := by decide +kernel
theorem i_X8_digest_47 : xi_dc cX8_digest 47 = some (.iload 4, 2) := by decide +kernel
theorem i_X8_digest_49 : xi_dc cX8_digest 49 = some (.bipush 6, 2) := by decide +kernel
theorem i_X8_digest_51 : xi_dc cX8_digest 51 = some (.if_icmp .gt 27, 3) := by decide +kernel
theorem t_X8_digest_51 : ((51 : Nat) : Int) + 27 = ((78 : Nat) : Int) := by decide +kernel
theorem i_X8_digest_54 : xi_dc cX8_digest 54 = some (.ldc2_w 319, 3) := by decide +kernel
theorem i_X8_digest_57 : xi_dc cX8_digest 57 = some (.lload_n 1, 1) := by decide +kernel
theorem i_X8_digest_58 : xi_dc cX8_digest 58 = some (.lmul, 1) := by decide +kernel
theorem i_X8_digest_59 : xi_dc cX8_digest 59 = some (.aload_n 0, 1) := by decide +kernel
theorem i_X8_digest_60 : xi_dc cX8_digest 60 = some (.getfield 21, 3) := by decide +kernel
theorem i_X8_digest_63 : xi_dc cX8_digest 63 = some (.iload_n 3, 1) := by decide +kernel
theorem i_X8_digest_64 : xi_dc cX8_digest 64 = some (.iload 4, 2) := by decide +kernel
theorem i_X8_digest_66 : xi_dc cX8_digest 66 = some (.invokevirtual 136, 3) := by decide +kernel
theorem i_X8_digest_69 : xi_dc cX8_digest 69 = some (.i2l, 1) := by decide +kernel
theorem i_X8_digest_70 : xi_dc cX8_digest 70 = some (.ladd, 1) := by decide +kernel
theorem i_X8_digest_71 : xi_dc cX8_digest 71 = some (.lstore_n 1, 1) := by decide +kernel
theorem i_X8_digest_72 : xi_dc cX8_digest 72 = some (.iinc 4 1, 3) := by decide +kernel
theorem i_X8_digest_75 : xi_dc cX8_digest 75 = some (.goto (-28), 3) := by decide +kernel
theorem t_X8_digest_75 : ((75 : Nat) : Int) + (-28) = ((47 : Nat) : Int) := by decide +kernel
theorem i_X8_digest_78 : xi_dc cX8_digest 78 = some (.iinc 3 1, 3) := by decide +kernel
theorem i_X8_digest_81 : xi_dc cX8_digest 81 = some (.goto (-48), 3) := by decide +kernel
theorem t_X8_digest_81 : ((81 : Nat) : Int) + (-48) = ((33 : Nat) : Int) := by decide +kernel
theorem i_X8_digest_84 : xi_dc cX8_digest 84 = some (.iconst 0, 1) := by decide +kernel
theorem i_X8_digest_85 : xi_dc cX8_digest 85 = some (.istore_n 3, 1) := by decide +kernel
theorem i_X8_digest_86 : xi_dc cX8_digest 86 = some (.iload_n 3, 1) := by decide +kernel
theorem i_X8_digest_87 : xi_dc cX8_digest 87 = some (.iconst 3, 1) := by decide +kernel
theorem i_X8_digest_88 : xi_dc cX8_digest 88 = some (.if_icmp .ge 38, 3) := by decide +kernel
theorem t_X8_digest_88 : ((88 : Nat) : Int) + 38 = ((126 : Nat) : Int) := by decide +kernel
theorem i_X8_digest_91 : xi_dc cX8_digest 91 = some (.ldc2_w 319, 3) := by decide +kernel
theorem i_X8_digest_94 : xi_dc cX8_digest 94 = some (.lload_n 1, 1) := by decide +kernel
theorem i_X8_digest_95 : xi_dc cX8_digest 95 = some (.lmul, 1) := by decide +kernel
theorem i_X8_digest_96 : xi_dc cX8_digest 96 = some (.aload_n 0, 1) := by decide +kernel
theorem i_X8_digest_97 : xi_dc cX8_digest 97 = some (.iload_n 3, 1) := by decide +kernel
theorem i_X8_digest_98 : xi_dc cX8_digest 98 = some (.invokevirtual 215, 3) := by decide +kernel
theorem i_X8_digest_101 : xi_dc cX8_digest 101 = some (.ifCond .eq 15, 3) := by decide +kernel
theorem t_X8_digest_101 : ((101 : Nat) : Int) + 15 = ((116 : Nat) : Int) := by decide +kernel
theorem i_X8_digest_104 : xi_dc cX8_digest 104 = some (.aload_n 0, 1) := by decide +kernel
theorem i_X8_digest_105 : xi_dc cX8_digest 105 = some (.getfield 28, 3) := by decide +kernel
theorem i_X8_digest_108 : xi_dc cX8_digest 108 = some (.iload_n 3, 1) := by decide +kernel
theorem i_X8_digest_109 : xi_dc cX8_digest 109 = some (.aaload, 1) := by decide +kernel
theorem i_X8_digest_110 : xi_dc cX8_digest 110 = some (.getfield 183, 3) := by decide +kernel
theorem i_X8_digest_113 : xi_dc cX8_digest 113 = some (.goto 4, 3) := by decide +kernel
theorem t_X8_digest_113 : ((113 : Nat) : Int) + 4 = ((117 : Nat) : Int) := by decide +kernel
theorem i_X8_digest_116 : xi_dc cX8_digest 116 = some (.iconst (-1), 1) := by decide +kernel
theorem i_X8_digest_117 : xi_dc cX8_digest 117 = some (.i2l, 1) := by decide +kernel
theorem i_X8_digest_118 : xi_dc cX8_digest 118 = some (.ladd, 1) := by decide +kernel
theorem i_X8_digest_119 : xi_dc cX8_digest 119 = some (.lstore_n 1, 1) := by decide +kernel
theorem i_X8_digest_120 : xi_dc cX8_digest 120 = some (.iinc 3 1, 3) := by decide +kernel
theorem i_X8_digest_123 : xi_dc cX8_digest 123 = some (.goto (-37), 3) := by decide +kernel
theorem t_X8_digest_123 : ((123 : Nat) : Int) + (-37) = ((86 : Nat) : Int) := by decide +kernel
theorem i_X8_digest_126 : xi_dc cX8_digest 126 = some (.iconst 0, 1) := by decide +kernel
theorem i_X8_digest_127 : xi_dc cX8_digest 127 = some (.istore_n 3, 1) := by decide +kernel
theorem i_X8_digest_128 : xi_dc cX8_digest 128 = some (.iload_n 3, 1) := by decide +kernel
theorem i_X8_digest_129 : xi_dc cX8_digest 129 = some (.bipush 6, 2) := by decide +kernel
theorem i_X8_digest_131 : xi_dc cX8_digest 131 = some (.if_icmp .ge 20, 3) := by decide +kernel
theorem t_X8_digest_131 : ((131 : Nat) : Int) + 20 = ((151 : Nat) : Int) := by decide +kernel
theorem i_X8_digest_134 : xi_dc cX8_digest 134 = some (.aload_n 0, 1) := by decide +kernel
theorem i_X8_digest_135 : xi_dc cX8_digest 135 = some (.getfield 11, 3) := by decide +kernel
theorem i_X8_digest_138 : xi_dc cX8_digest 138 = some (.iload_n 3, 1) := by decide +kernel
theorem i_X8_digest_139 : xi_dc cX8_digest 139 = some (.aaload, 1) := by decide +kernel
theorem i_X8_digest_140 : xi_dc cX8_digest 140 = some (.lload_n 1, 1) := by decide +kernel
theorem i_X8_digest_141 : xi_dc cX8_digest 141 = some (.invokevirtual 324, 3) := by decide +kernel
theorem i_X8_digest_144 : xi_dc cX8_digest 144 = some (.lstore_n 1, 1) := by decide +kernel
theorem i_X8_digest_145 : xi_dc cX8_digest 145 = some (.iinc 3 1, 3) := by decide +kernel
theorem i_X8_digest_148 : xi_dc cX8_digest 148 = some (.goto (-20), 3) := by decide +kernel
theorem t_X8_digest_148 : ((148 : Nat) : Int) + (-20) = ((128 : Nat) : Int) := by decide +kernel
theorem i_X8_digest_151 : xi_dc cX8_digest 151 = some (.iconst 0, 1) := by decide +kernel
theorem i_X8_digest_152 : xi_dc cX8_digest 152 = some (.istore_n 3, 1) := by decide +kernel
theorem i_X8_digest_153 : xi_dc cX8_digest 153 = some (.iload_n 3, 1) := by decide +kernel
theorem i_X8_digest_154 : xi_dc cX8_digest 154 = some (.iconst 4, 1) := by decide +kernel
theorem i_X8_digest_155 : xi_dc cX8_digest 155 = some (.if_icmp .ge 20, 3) := by decide +kernel
theorem t_X8_digest_155 : ((155 : Nat) : Int) + 20 = ((175 : Nat) : Int) := by decide +kernel
theorem i_X8_digest_158 : xi_dc cX8_digest 158 = some (.aload_n 0, 1) := by decide +kernel
theorem i_X8_digest_159 : xi_dc cX8_digest 159 = some (.getfield 15, 3) := by decide +kernel
theorem i_X8_digest_162 : xi_dc cX8_digest 162 = some (.iload_n 3, 1) := by decide +kernel
theorem i_X8_digest_163 : xi_dc cX8_digest 163 = some (.aaload, 1) := by decide +kernel
theorem i_X8_digest_164 : xi_dc cX8_digest 164 = some (.lload_n 1, 1) := by decide +kernel
theorem i_X8_digest_165 : xi_dc cX8_digest 165 = some (.invokevirtual 324, 3) := by decide +kernel
theorem i_X8_digest_168 : xi_dc cX8_digest 168 = some (.lstore_n 1, 1) := by decide +kernel
theorem i_X8_digest_169 : xi_dc cX8_digest 169 = some (.iinc 3 1, 3) := by decide +kernel
theorem i_X8_digest_172 : xi_dc cX8_digest 172 = some (.goto (-19), 3) := by decide +kernel
theorem t_X8_digest_172 : ((172 : Nat) : Int) + (-19) = ((153 : Nat) : Int) := by decide +kernel
theorem i_X8_digest_175 : xi_dc cX8_digest 175 = some (.lload_n 1, 1) := by decide +kernel
theorem i_X8_digest_176 : xi_dc cX8_digest 176 = some (.lreturn, 1) := by decide +kernel
def P_X8_digest (S : xi_S) : xi_P := (xi_dc cX8_digest, xi_tab xfl_X8, xi_tab xki_X8, xi_tab xkl_X8, xi_tab xcs_X8, xi_tab xcv_X8, xi_calls [], xi_calls [(136, xi_wV S 8 2 (F_X6_fact S)), (215, xi_wV S 10 1 (F_X8_isKept S)), (321, xi_wV S 10 1 (F_X8_count S)), (324, xi_wV S 9 1 (F_X7_digestOnto S))], 3)
theorem cc_X8_digest_136 (S : xi_S) (a0 : Nat) (a1 : Int32) (a2 : Int32) (m : xi_M) : (P_X8_digest S).2.2.2.2.2.2.2.1 136 [.ref a0, .int a1, .int a2] m = (if S.1 a0 = 8 then E_X6_fact S a0 a1 a2 m else none) := by
  show xi_calls [(136, xi_wV S 8 2 (F_X6_fact S)), (215, xi_wV S 10 1 (F_X8_isKept S)), (321, xi_wV S 10 1 (F_X8_count S)), (324, xi_wV S 9 1 (F_X7_digestOnto S))] 136 [.ref a0, .int a1, .int a2] m = _
  refine Eq.trans (b := xi_wV S 8 2 (F_X6_fact S) [.ref a0, .int a1, .int a2] m) (xi_calls_hit rfl) ?_
  exact xi_wV_eq rfl
theorem cc_X8_digest_215 (S : xi_S) (a0 : Nat) (a1 : Int32) (m : xi_M) : (P_X8_digest S).2.2.2.2.2.2.2.1 215 [.ref a0, .int a1] m = (if S.1 a0 = 10 then E_X8_isKept S a0 a1 m else none) := by
  show xi_calls [(136, xi_wV S 8 2 (F_X6_fact S)), (215, xi_wV S 10 1 (F_X8_isKept S)), (321, xi_wV S 10 1 (F_X8_count S)), (324, xi_wV S 9 1 (F_X7_digestOnto S))] 215 [.ref a0, .int a1] m = _
  refine Eq.trans (b := xi_calls [(215, xi_wV S 10 1 (F_X8_isKept S)), (321, xi_wV S 10 1 (F_X8_count S)), (324, xi_wV S 9 1 (F_X7_digestOnto S))] 215 [.ref a0, .int a1] m) (xi_calls_miss rfl) ?_
  refine Eq.trans (b := xi_wV S 10 1 (F_X8_isKept S) [.ref a0, .int a1] m) (xi_calls_hit rfl) ?_
  exact xi_wV_eq rfl
theorem cc_X8_digest_321 (S : xi_S) (a0 : Nat) (a1 : Int32) (m : xi_M) : (P_X8_digest S).2.2.2.2.2.2.2.1 321 [.ref a0, .int a1] m = (if S.1 a0 = 10 then E_X8_count S a0 a1 m else none) := by
  show xi_calls [(136, xi_wV S 8 2 (F_X6_fact S)), (215, xi_wV S 10 1 (F_X8_isKept S)), (321, xi_wV S 10 1 (F_X8_count S)), (324, xi_wV S 9 1 (F_X7_digestOnto S))] 321 [.ref a0, .int a1] m = _
  refine Eq.trans (b := xi_calls [(215, xi_wV S 10 1 (F_X8_isKept S)), (321, xi_wV S 10 1 (F_X8_count S)), (324, xi_wV S 9 1 (F_X7_digestOnto S))] 321 [.ref a0, .int a1] m) (xi_calls_miss rfl) ?_
  refine Eq.trans (b := xi_calls [(321, xi_wV S 10 1 (F_X8_count S)), (324, xi_wV S 9 1 (F_X7_digestOnto S))] 321 [.ref a0, .int a1] m) (xi_calls_miss rfl) ?_
  refine Eq.trans (b := xi_wV S 10 1 (F_X8_count S) [.ref a0, .int a1] m) (xi_calls_hit rfl) ?_
  exact xi_wV_eq rfl
theorem cc_X8_digest_324 (S : xi_S) (a0 : Nat) (a1 : Int64) (m : xi_M) : (P_X8_digest S).2.2.2.2.2.2.2.1 324 [.ref a0, .long a1] m = (if S.1 a0 = 9 then E_X7_digestOnto S a0 a1 m else none) := by
  show xi_calls [(136, xi_wV S 8 2 (F_X6_fact S)), (215, xi_wV S 10 1 (F_X8_isKept S)), (321, xi_wV S 10 1 (F_X8_count S)), (324, xi_wV S 9 1 (F_X7_digestOnto S))] 324 [.ref a0, .long a1] m = _
  refine Eq.trans (b := xi_calls [(215, xi_wV S 10 1 (F_X8_isKept S)), (321, xi_wV S 10 1 (F_X8_count S)), (324, xi_wV S 9 1 (F_X7_digestOnto S))] 324 [.ref a0, .long a1] m) (xi_calls_miss rfl) ?_
  refine Eq.trans (b := xi_calls [(321, xi_wV S 10 1 (F_X8_count S)), (324, xi_wV S 9 1 (F_X7_digestOnto S))] 324 [.ref a0, .long a1] m) (xi_calls_miss rfl) ?_
  refine Eq.trans (b := xi_calls [(324, xi_wV S 9 1 (F_X7_digestOnto S))] 324 [.ref a0, .long a1] m) (xi_calls_miss rfl) ?_
  refine Eq.trans (b := xi_wV S 9 1 (F_X7_digestOnto S) [.ref a0, .long a1] m) (xi_calls_hit rfl) ?_
  exact xi_wV_eq rfl
def G_X8_digest_47 (S : xi_S) (k33 : Nat → Int64 → Int32 → xi_M → Option xi_R) : Nat → Nat → Int64 → Int32 → Int32 → xi_M → Option xi_R
  | 0, _, _, _, _, _ => none
  | n + 1, v0, v1, v3, v4, m =>
    if ((Int8.ofInt 6).toInt32) < v4 then
      k33 v0 v1 (v3 + Int32.ofInt 1) m
    else
      if S.1 v0 = 10 then (S.2.2 v0 2).bind fun b2 =>
        xi_bI (if S.1 b2 = 8 then E_X6_fact S b2 v3 v4 m else none) fun x4 m3 =>
        G_X8_digest_47 S k33 n v0 (((31 : Int64) * v1) + (Int32.toInt64 x4)) v3 (v4 + Int32.ofInt 1) m3
      else none
set_option maxRecDepth 100000 in
set_option maxHeartbeats 4000000 in
theorem xs_X8_digest_47 {S : xi_S} {res : xi_R} {k33 : Nat → Int64 → Int32 → xi_M → Option xi_R} (hk33 : ∀ (v0 : Nat) (v1 : Int64) (v3 : Int32) (m : xi_M), k33 v0 v1 v3 m = some res → xi_X S (P_X8_digest S) (33, [some (.ref v0), some (.long v1), none, some (.int v3), none], [], m) res) : ∀ (n : Nat) (v0 : Nat) (v1 : Int64) (v3 : Int32) (v4 : Int32) (m : xi_M), G_X8_digest_47 S k33 n v0 v1 v3 v4 m = some res → xi_X S (P_X8_digest S) (47, [some (.ref v0), some (.long v1), none, some (.int v3), some (.int v4)], [], m) res := by
  intro n
  induction n with
  | zero => intro v0 v1 v3 v4 m h; exact xi_no h
  | succ n ih =>
    intro v0 v1 v3 v4 m h
    unfold G_X8_digest_47 at h
    refine xr_iload i_X8_digest_47 rfl (q := 49) rfl ?_
    refine xr_bipush i_X8_digest_49 (q := 51) rfl ?_
    by_cases c5 : ((Int8.ofInt 6).toInt32) < v4
    · replace h := (if_pos c5).symm.trans h
      refine xr_if_icmp_gt_p i_X8_digest_51 c5 (q := 78) t_X8_digest_51 (q2 := 54) rfl ?_
      refine xr_iinc i_X8_digest_78 rfl rfl (L2 := [some (.ref v0), some (.long v1), none, some (.int (v3 + Int32.ofInt 1)), some (.int v4)]) rfl (q := 81) rfl ?_
      refine xr_goto i_X8_digest_81 (q := 33) t_X8_digest_81 ?_
      exact xi_X_le (xi_le_s (xi_le_s (xi_le_n (xi_le_s (xi_le_n xi_le_z))))) (hk33 _ _ _ _ h)
    · replace h := (if_neg c5).symm.trans h
      refine xr_if_icmp_gt_n i_X8_digest_51 c5 (q := 78) t_X8_digest_51 (q2 := 54) rfl ?_
      refine xr_ldc2_w i_X8_digest_54 xkle_X8_319 (q := 57) rfl ?_
      refine xr_lload_n i_X8_digest_57 rfl (q := 58) rfl ?_
      refine xr_lmul i_X8_digest_58 (q := 59) rfl ?_
      refine xr_aload_n i_X8_digest_59 rfl (q := 60) rfl ?_
      obtain ⟨c1, h⟩ := xi_if_some h
      obtain ⟨b2, eb2, h⟩ := xi_bind_some h
      refine xr_getR i_X8_digest_60 xfe_X8_21 c1 eb2 (q := 63) rfl ?_
      refine xr_iload_n i_X8_digest_63 rfl (q := 64) rfl ?_
      refine xr_iload i_X8_digest_64 rfl (q := 66) rfl ?_
      obtain ⟨x4, m3, em3, h⟩ := xi_bI_some h
      refine xr_VI i_X8_digest_66 xcve_X8_136 rfl (As := [.ref b2, .int v3, .int v4]) rfl (rest := [.long ((31 : Int64) * v1)]) rfl ((cc_X8_digest_136 S _ _ _ _).trans em3) (q := 69) rfl ?_
      refine xr_i2l i_X8_digest_69 (q := 70) rfl ?_
      refine xr_ladd i_X8_digest_70 (q := 71) rfl ?_
      refine xr_lstore_n i_X8_digest_71 rfl (L2 := [some (.ref v0), some (.long (((31 : Int64) * v1) + (Int32.toInt64 x4))), none, some (.int v3), some (.int v4)]) rfl (q := 72) rfl ?_
      refine xr_iinc i_X8_digest_72 rfl rfl (L2 := [some (.ref v0), some (.long (((31 : Int64) * v1) + (Int32.toInt64 x4))), none, some (.int v3), some (.int (v4 + Int32.ofInt 1))]) rfl (q := 75) rfl ?_
      refine xr_goto i_X8_digest_75 (q := 47) t_X8_digest_75 ?_
      exact xi_X_le (xi_le_s (xi_le_s (xi_le_n (xi_le_s (xi_le_s xi_le_z))))) (ih _ _ _ _ _ h)
def G_X8_digest_153 (S : xi_S) : Nat → Nat → Int64 → Int32 → xi_M → Option xi_R
  | 0, _, _, _, _ => none
  | n + 1, v0, v1, v3, m =>
    if (Int32.ofInt 4) ≤ v3 then
      some (some (.long v1), m)
    else
      if S.1 v0 = 10 then (S.2.2 v0 1).bind fun b2 =>
        if (S.1 b2 = 1 ∨ S.1 b2 = 2) ∧ ¬ (v3 < 0 ∨ S.2.1 b2 ≤ Int32.toNatClampNeg v3) then (S.2.2 b2 (Int32.toNatClampNeg v3)).bind fun b4 =>
          xi_bJ (if S.1 b4 = 9 then E_X7_digestOnto S b4 v1 m else none) fun x6 m5 =>
          G_X8_digest_153 S n v0 x6 (v3 + Int32.ofInt 1) m5
        else none
      else none
set_option maxRecDepth 100000 in
set_option maxHeartbeats 4000000 in
theorem xs_X8_digest_153 {S : xi_S} {res : xi_R} : ∀ (n : Nat) (v0 : Nat) (v1 : Int64) (v3 : Int32) (m : xi_M), G_X8_digest_153 S n v0 v1 v3 m = some res → xi_X S (P_X8_digest S) (153, [some (.ref v0), some (.long v1), none, some (.int v3), none], [], m) res := by
  intro n
  induction n with
  | zero => intro v0 v1 v3 m h; exact xi_no h
  | succ n ih =>
    intro v0 v1 v3 m h
    unfold G_X8_digest_153 at h
    refine xr_iload_n i_X8_digest_153 rfl (q := 154) rfl ?_
    refine xr_iconst i_X8_digest_154 (q := 155) rfl ?_
    by_cases c7 : (Int32.ofInt 4) ≤ v3
    · replace h := (if_pos c7).symm.trans h
      refine xr_if_icmp_ge_p i_X8_digest_155 c7 (q := 175) t_X8_digest_155 (q2 := 158) rfl ?_
      refine xr_lload_n i_X8_digest_175 rfl (q := 176) rfl ?_
      exact xr_lreturn i_X8_digest_176 rfl h
    · replace h := (if_neg c7).symm.trans h
      refine xr_if_icmp_ge_n i_X8_digest_155 c7 (q := 175) t_X8_digest_155 (q2 := 158) rfl ?_
      refine xr_aload_n i_X8_digest_158 rfl (q := 159) rfl ?_
      obtain ⟨c1, h⟩ := xi_if_some h
      obtain ⟨b2, eb2, h⟩ := xi_bind_some h
      refine xr_getR i_X8_digest_159 xfe_X8_15 c1 eb2 (q := 162) rfl ?_
      refine xr_iload_n i_X8_digest_162 rfl (q := 163) rfl ?_
      obtain ⟨c3, h⟩ := xi_if_some h
      obtain ⟨b4, eb4, h⟩ := xi_bind_some h
      refine xr_aaload i_X8_digest_163 c3 eb4 (q := 164) rfl ?_
      refine xr_lload_n i_X8_digest_164 rfl (q := 165) rfl ?_
      obtain ⟨x6, m5, em5, h⟩ := xi_bJ_some h
      refine xr_VJ i_X8_digest_165 xcve_X8_324 rfl (As := [.ref b4, .long v1]) rfl (rest := []) rfl ((cc_X8_digest_324 S _ _ _).trans em5) (q := 168) rfl ?_
      refine xr_lstore_n i_X8_digest_168 rfl (L2 := [some (.ref v0), some (.long x6), none, some (.int v3), none]) rfl (q := 169) rfl ?_
      refine xr_iinc i_X8_digest_169 rfl rfl (L2 := [some (.ref v0), some (.long x6), none, some (.int (v3 + Int32.ofInt 1)), none]) rfl (q := 172) rfl ?_
      refine xr_goto i_X8_digest_172 (q := 153) t_X8_digest_172 ?_
      exact xi_X_le (xi_le_s (xi_le_s (xi_le_n (xi_le_s (xi_le_n xi_le_z))))) (ih _ _ _ _ h)
def G_X8_digest_128 (S : xi_S) : Nat → Nat → Int64 → Int32 → xi_M → Option xi_R
  | 0, _, _, _, _ => none
  | n + 1, v0, v1, v3, m =>
    if ((Int8.ofInt 6).toInt32) ≤ v3 then
      G_X8_digest_153 S 10000 v0 v1 (Int32.ofInt 0) m
    else
      if S.1 v0 = 10 then (S.2.2 v0 0).bind fun b2 =>
        if (S.1 b2 = 1 ∨ S.1 b2 = 2) ∧ ¬ (v3 < 0 ∨ S.2.1 b2 ≤ Int32.toNatClampNeg v3) then (S.2.2 b2 (Int32.toNatClampNeg v3)).bind fun b4 =>
          xi_bJ (if S.1 b4 = 9 then E_X7_digestOnto S b4 v1 m else none) fun x6 m5 =>
          G_X8_digest_128 S n v0 x6 (v3 + Int32.ofInt 1) m5
        else none
      else none
set_option maxRecDepth 100000 in
set_option maxHeartbeats 4000000 in
theorem xs_X8_digest_128 {S : xi_S} {res : xi_R} : ∀ (n : Nat) (v0 : Nat) (v1 : Int64) (v3 : Int32) (m : xi_M), G_X8_digest_128 S n v0 v1 v3 m = some res → xi_X S (P_X8_digest S) (128, [some (.ref v0), some (.long v1), none, some (.int v3), none], [], m) res := by
  intro n
  induction n with
  | zero => intro v0 v1 v3 m h; exact xi_no h
  | succ n ih =>
    intro v0 v1 v3 m h
    unfold G_X8_digest_128 at h
    refine xr_iload_n i_X8_digest_128 rfl (q := 129) rfl ?_
    refine xr_bipush i_X8_digest_129 (q := 131) rfl ?_
    by_cases c7 : ((Int8.ofInt 6).toInt32) ≤ v3
    · replace h := (if_pos c7).symm.trans h
      refine xr_if_icmp_ge_p i_X8_digest_131 c7 (q := 151) t_X8_digest_131 (q2 := 134) rfl ?_
      refine xr_iconst i_X8_digest_151 (q := 152) rfl ?_
      refine xr_istore_n i_X8_digest_152 rfl (L2 := [some (.ref v0), some (.long v1), none, some (.int (Int32.ofInt 0)), none]) rfl (q := 153) rfl ?_
      exact xi_X_le (xi_le_s (xi_le_s (xi_le_n (xi_le_s (xi_le_n xi_le_z))))) (xs_X8_digest_153 10000 _ _ _ _ h)
    · replace h := (if_neg c7).symm.trans h
      refine xr_if_icmp_ge_n i_X8_digest_131 c7 (q := 151) t_X8_digest_131 (q2 := 134) rfl ?_
      refine xr_aload_n i_X8_digest_134 rfl (q := 135) rfl ?_
      obtain ⟨c1, h⟩ := xi_if_some h
      obtain ⟨b2, eb2, h⟩ := xi_bind_some h
      refine xr_getR i_X8_digest_135 xfe_X8_11 c1 eb2 (q := 138) rfl ?_
      refine xr_iload_n i_X8_digest_138 rfl (q := 139) rfl ?_
      obtain ⟨c3, h⟩ := xi_if_some h
      obtain ⟨b4, eb4, h⟩ := xi_bind_some h
      refine xr_aaload i_X8_digest_139 c3 eb4 (q := 140) rfl ?_
      refine xr_lload_n i_X8_digest_140 rfl (q := 141) rfl ?_
      obtain ⟨x6, m5, em5, h⟩ := xi_bJ_some h
      refine xr_VJ i_X8_digest_141 xcve_X8_324 rfl (As := [.ref b4, .long v1]) rfl (rest := []) rfl ((cc_X8_digest_324 S _ _ _).trans em5) (q := 144) rfl ?_
      refine xr_lstore_n i_X8_digest_144 rfl (L2 := [some (.ref v0), some (.long x6), none, some (.int v3), none]) rfl (q := 145) rfl ?_
      refine xr_iinc i_X8_digest_145 rfl rfl (L2 := [some (.ref v0), some (.long x6), none, some (.int (v3 + Int32.ofInt 1)), none]) rfl (q := 148) rfl ?_
      refine xr_goto i_X8_digest_148 (q := 128) t_X8_digest_148 ?_
      exact xi_X_le (xi_le_s (xi_le_s (xi_le_n (xi_le_s (xi_le_n xi_le_z))))) (ih _ _ _ _ h)
def G_X8_digest_86 (S : xi_S) : Nat → Nat → Int64 → Int32 → xi_M → Option xi_R
  | 0, _, _, _, _ => none
  | n + 1, v0, v1, v3, m =>
    if (Int32.ofInt 3) ≤ v3 then
      G_X8_digest_128 S 10000 v0 v1 (Int32.ofInt 0) m
    else
      xi_bI (if S.1 v0 = 10 then E_X8_isKept S v0 v3 m else none) fun x2 m1 =>
      if x2 = 0 then
        G_X8_digest_86 S n v0 (((31 : Int64) * v1) + (Int32.toInt64 (Int32.ofInt (-1)))) (v3 + Int32.ofInt 1) m1
      else
        if S.1 v0 = 10 then (S.2.2 v0 4).bind fun b4 =>
          if (S.1 b4 = 1 ∨ S.1 b4 = 2) ∧ ¬ (v3 < 0 ∨ S.2.1 b4 ≤ Int32.toNatClampNeg v3) then (S.2.2 b4 (Int32.toNatClampNeg v3)).bind fun b6 =>
            if S.1 b6 = 8 then
              G_X8_digest_86 S n v0 (((31 : Int64) * v1) + (Int32.toInt64 (m1.1 b6 4))) (v3 + Int32.ofInt 1) m1
            else none
          else none
        else none
set_option maxRecDepth 100000 in
set_option maxHeartbeats 4000000 in
theorem xs_X8_digest_86 {S : xi_S} {res : xi_R} : ∀ (n : Nat) (v0 : Nat) (v1 : Int64) (v3 : Int32) (m : xi_M), G_X8_digest_86 S n v0 v1 v3 m = some res → xi_X S (P_X8_digest S) (86, [some (.ref v0), some (.long v1), none, some (.int v3), none], [], m) res := by
  intro n
  induction n with
  | zero => intro v0 v1 v3 m h; exact xi_no h
  | succ n ih =>
    intro v0 v1 v3 m h
    unfold G_X8_digest_86 at h
    refine xr_iload_n i_X8_digest_86 rfl (q := 87) rfl ?_
    refine xr_iconst i_X8_digest_87 (q := 88) rfl ?_
    by_cases c9 : (Int32.ofInt 3) ≤ v3
    · replace h := (if_pos c9).symm.trans h
      refine xr_if_icmp_ge_p i_X8_digest_88 c9 (q := 126) t_X8_digest_88 (q2 := 91) rfl ?_
      refine xr_iconst i_X8_digest_126 (q := 127) rfl ?_
      refine xr_istore_n i_X8_digest_127 rfl (L2 := [some (.ref v0), some (.long v1), none, some (.int (Int32.ofInt 0)), none]) rfl (q := 128) rfl ?_
      exact xi_X_le (xi_le_s (xi_le_s (xi_le_n (xi_le_s (xi_le_n xi_le_z))))) (xs_X8_digest_128 10000 _ _ _ _ h)
    · replace h := (if_neg c9).symm.trans h
      refine xr_if_icmp_ge_n i_X8_digest_88 c9 (q := 126) t_X8_digest_88 (q2 := 91) rfl ?_
      refine xr_ldc2_w i_X8_digest_91 xkle_X8_319 (q := 94) rfl ?_
      refine xr_lload_n i_X8_digest_94 rfl (q := 95) rfl ?_
      refine xr_lmul i_X8_digest_95 (q := 96) rfl ?_
      refine xr_aload_n i_X8_digest_96 rfl (q := 97) rfl ?_
      refine xr_iload_n i_X8_digest_97 rfl (q := 98) rfl ?_
      obtain ⟨x2, m1, em1, h⟩ := xi_bI_some h
      refine xr_VI i_X8_digest_98 xcve_X8_215 rfl (As := [.ref v0, .int v3]) rfl (rest := [.long ((31 : Int64) * v1)]) rfl ((cc_X8_digest_215 S _ _ _).trans em1) (q := 101) rfl ?_
      by_cases c8 : x2 = 0
      · replace h := (if_pos c8).symm.trans h
        refine xr_ifCond_eq_p i_X8_digest_101 c8 (q := 116) t_X8_digest_101 (q2 := 104) rfl ?_
        refine xr_iconst i_X8_digest_116 (q := 117) rfl ?_
        refine xr_i2l i_X8_digest_117 (q := 118) rfl ?_
        refine xr_ladd i_X8_digest_118 (q := 119) rfl ?_
        refine xr_lstore_n i_X8_digest_119 rfl (L2 := [some (.ref v0), some (.long (((31 : Int64) * v1) + (Int32.toInt64 (Int32.ofInt (-1))))), none, some (.int v3), none]) rfl (q := 120) rfl ?_
        refine xr_iinc i_X8_digest_120 rfl rfl (L2 := [some (.ref v0), some (.long (((31 : Int64) * v1) + (Int32.toInt64 (Int32.ofInt (-1))))), none, some (.int (v3 + Int32.ofInt 1)), none]) rfl (q := 123) rfl ?_
        refine xr_goto i_X8_digest_123 (q := 86) t_X8_digest_123 ?_
        exact xi_X_le (xi_le_s (xi_le_s (xi_le_n (xi_le_s (xi_le_n xi_le_z))))) (ih _ _ _ _ h)
      · replace h := (if_neg c8).symm.trans h
        refine xr_ifCond_eq_n i_X8_digest_101 c8 (q := 116) t_X8_digest_101 (q2 := 104) rfl ?_
        refine xr_aload_n i_X8_digest_104 rfl (q := 105) rfl ?_
        obtain ⟨c3, h⟩ := xi_if_some h
        obtain ⟨b4, eb4, h⟩ := xi_bind_some h
        refine xr_getR i_X8_digest_105 xfe_X8_28 c3 eb4 (q := 108) rfl ?_
        refine xr_iload_n i_X8_digest_108 rfl (q := 109) rfl ?_
        obtain ⟨c5, h⟩ := xi_if_some h
        obtain ⟨b6, eb6, h⟩ := xi_bind_some h
        refine xr_aaload i_X8_digest_109 c5 eb6 (q := 110) rfl ?_
        obtain ⟨c7, h⟩ := xi_if_some h
        refine xr_getI i_X8_digest_110 xfe_X8_183 c7 (q := 113) rfl ?_
        refine xr_goto i_X8_digest_113 (q := 117) t_X8_digest_113 ?_
        refine xr_i2l i_X8_digest_117 (q := 118) rfl ?_
        refine xr_ladd i_X8_digest_118 (q := 119) rfl ?_
        refine xr_lstore_n i_X8_digest_119 rfl (L2 := [some (.ref v0), some (.long (((31 : Int64) * v1) + (Int32.toInt64 (m1.1 b6 4)))), none, some (.int v3), none]) rfl (q := 120) rfl ?_
        refine xr_iinc i_X8_digest_120 rfl rfl (L2 := [some (.ref v0), some (.long (((31 : Int64) * v1) + (Int32.toInt64 (m1.1 b6 4)))), none, some (.int (v3 + Int32.ofInt 1)), none]) rfl (q := 123) rfl ?_
        refine xr_goto i_X8_digest_123 (q := 86) t_X8_digest_123 ?_
        exact xi_X_le (xi_le_s (xi_le_s (xi_le_n (xi_le_s (xi_le_n xi_le_z))))) (ih _ _ _ _ h)
def G_X8_digest_33 (S : xi_S) : Nat → Nat → Int64 → Int32 → xi_M → Option xi_R
  | 0, _, _, _, _ => none
  | n + 1, v0, v1, v3, m =>
    if S.1 v0 = 10 then (S.2.2 v0 2).bind fun b2 =>
      if S.1 b2 = 8 then
        if (m.1 b2 1) ≤ v3 then
          G_X8_digest_86 S 10000 v0 v1 (Int32.ofInt 0) m
        else
          G_X8_digest_47 S (G_X8_digest_33 S n) 10000 v0 v1 v3 (Int32.ofInt 0) m
      else none
    else none
set_option maxRecDepth 100000 in
set_option maxHeartbeats 4000000 in
theorem xs_X8_digest_33 {S : xi_S} {res : xi_R} : ∀ (n : Nat) (v0 : Nat) (v1 : Int64) (v3 : Int32) (m : xi_M), G_X8_digest_33 S n v0 v1 v3 m = some res → xi_X S (P_X8_digest S) (33, [some (.ref v0), some (.long v1), none, some (.int v3), none], [], m) res := by
  intro n
  induction n with
  | zero => intro v0 v1 v3 m h; exact xi_no h
  | succ n ih =>
    intro v0 v1 v3 m h
    unfold G_X8_digest_33 at h
    refine xr_iload_n i_X8_digest_33 rfl (q := 34) rfl ?_
    refine xr_aload_n i_X8_digest_34 rfl (q := 35) rfl ?_
    obtain ⟨c1, h⟩ := xi_if_some h
    obtain ⟨b2, eb2, h⟩ := xi_bind_some h
    refine xr_getR i_X8_digest_35 xfe_X8_21 c1 eb2 (q := 38) rfl ?_
    obtain ⟨c3, h⟩ := xi_if_some h
    refine xr_getI i_X8_digest_38 xfe_X8_129 c3 (q := 41) rfl ?_
    by_cases c4 : (m.1 b2 1) ≤ v3
    · replace h := (if_pos c4).symm.trans h
      refine xr_if_icmp_ge_p i_X8_digest_41 c4 (q := 84) t_X8_digest_41 (q2 := 44) rfl ?_
      refine xr_iconst i_X8_digest_84 (q := 85) rfl ?_
      refine xr_istore_n i_X8_digest_85 rfl (L2 := [some (.ref v0), some (.long v1), none, some (.int (Int32.ofInt 0)), none]) rfl (q := 86) rfl ?_
      exact xi_X_le (xi_le_s (xi_le_s (xi_le_n (xi_le_s (xi_le_n xi_le_z))))) (xs_X8_digest_86 10000 _ _ _ _ h)
    · replace h := (if_neg c4).symm.trans h
      refine xr_if_icmp_ge_n i_X8_digest_41 c4 (q := 84) t_X8_digest_41 (q2 := 44) rfl ?_
      refine xr_iconst i_X8_digest_44 (q := 45) rfl ?_
      refine xr_istore i_X8_digest_45 rfl (L2 := [some (.ref v0), some (.long v1), none, some (.int v3), some (.int (Int32.ofInt 0))]) rfl (q := 47) rfl ?_
      exact xi_X_le (xi_le_s (xi_le_s (xi_le_n (xi_le_s (xi_le_s xi_le_z))))) (xs_X8_digest_47 ih 10000 _ _ _ _ _ h)
def G_X8_digest_6 (S : xi_S) : Nat → Nat → Int64 → Int32 → xi_M → Option xi_R
  | 0, _, _, _, _ => none
  | n + 1, v0, v1, v3, m =>
    if ((Int8.ofInt 15).toInt32) < v3 then
      G_X8_digest_33 S 10000 v0 v1 (Int32.ofInt 0) m
    else
      xi_bI (if S.1 v0 = 10 then E_X8_count S v0 v3 m else none) fun x2 m1 =>
      G_X8_digest_6 S n v0 (((31 : Int64) * v1) + (Int32.toInt64 x2)) (v3 + Int32.ofInt 1) m1
set_option maxRecDepth 100000 in
set_option maxHeartbeats 4000000 in
theorem xs_X8_digest_6 {S : xi_S} {res : xi_R} : ∀ (n : Nat) (v0 : Nat) (v1 : Int64) (v3 : Int32) (m : xi_M), G_X8_digest_6 S n v0 v1 v3 m = some res → xi_X S (P_X8_digest S) (6, [some (.ref v0), some (.long v1), none, some (.int v3), none], [], m) res := by
  intro n
  induction n with
  | zero => intro v0 v1 v3 m h; exact xi_no h
  | succ n ih =>
    intro v0 v1 v3 m h
    unfold G_X8_digest_6 at h
    refine xr_iload_n i_X8_digest_6 rfl (q := 7) rfl ?_
    refine xr_bipush i_X8_digest_7 (q := 9) rfl ?_
    by_cases c3 : ((Int8.ofInt 15).toInt32) < v3
    · replace h := (if_pos c3).symm.trans h
      refine xr_if_icmp_gt_p i_X8_digest_9 c3 (q := 31) t_X8_digest_9 (q2 := 12) rfl ?_
      refine xr_iconst i_X8_digest_31 (q := 32) rfl ?_
      refine xr_istore_n i_X8_digest_32 rfl (L2 := [some (.ref v0), some (.long v1), none, some (.int (Int32.ofInt 0)), none]) rfl (q := 33) rfl ?_
      exact xi_X_le (xi_le_s (xi_le_s (xi_le_n (xi_le_s (xi_le_n xi_le_z))))) (xs_X8_digest_33 10000 _ _ _ _ h)
    · replace h := (if_neg c3).symm.trans h
      refine xr_if_icmp_gt_n i_X8_digest_9 c3 (q := 31) t_X8_digest_9 (q2 := 12) rfl ?_
      refine xr_ldc2_w i_X8_digest_12 xkle_X8_319 (q := 15) rfl ?_
      refine xr_lload_n i_X8_digest_15 rfl (q := 16) rfl ?_
      refine xr_lmul i_X8_digest_16 (q := 17) rfl ?_
      refine xr_aload_n i_X8_digest_17 rfl (q := 18) rfl ?_
      refine xr_iload_n i_X8_digest_18 rfl (q := 19) rfl ?_
      obtain ⟨x2, m1, em1, h⟩ := xi_bI_some h
      refine xr_VI i_X8_digest_19 xcve_X8_321 rfl (As := [.ref v0, .int v3]) rfl (rest := [.long ((31 : Int64) * v1)]) rfl ((cc_X8_digest_321 S _ _ _).trans em1) (q := 22) rfl ?_
      refine xr_i2l i_X8_digest_22 (q := 23) rfl ?_
      refine xr_ladd i_X8_digest_23 (q := 24) rfl ?_
      refine xr_lstore_n i_X8_digest_24 rfl (L2 := [some (.ref v0), some (.long (((31 : Int64) * v1) + (Int32.toInt64 x2))), none, some (.int v3), none]) rfl (q := 25) rfl ?_
      refine xr_iinc i_X8_digest_25 rfl rfl (L2 := [some (.ref v0), some (.long (((31 : Int64) * v1) + (Int32.toInt64 x2))), none, some (.int (v3 + Int32.ofInt 1)), none]) rfl (q := 28) rfl ?_
      refine xr_goto i_X8_digest_28 (q := 6) t_X8_digest_28 ?_
      exact xi_X_le (xi_le_s (xi_le_s (xi_le_n (xi_le_s (xi_le_n xi_le_z))))) (ih _ _ _ _ h)
def E_X8_digest (S : xi_S) (v0 : Nat) (m : xi_M) : Option xi_R :=
  G_X8_digest_6 S 10000 v0 (17 : Int64) (Int32.ofInt 0) m
def F_X8_digest (S : xi_S) : xi_F := fun As m => match As with
  | [.ref v0] => E_X8_digest S v0 m
  | _ => none
set_option maxRecDepth 100000 in
set_option maxHeartbeats 4000000 in
theorem xe_X8_digest {S : xi_S} {res : xi_R} (v0 : Nat) (m : xi_M) (h : E_X8_digest S v0 m = some res) : xi_X S (P_X8_digest S) (0, [some (.ref v0), none, none, none, none], [], m) res := by
  unfold E_X8_digest at h
  refine xr_ldc2_w i_X8_digest_0 xkle_X8_317 (q := 3) rfl ?_
  refine xr_lstore_n i_X8_digest_3 rfl (L2 := [some (.ref v0), some (.long (17 : Int64)), none, none, none]) rfl (q := 4) rfl ?_
  refine xr_iconst i_X8_digest_4 (q := 5) rfl ?_
  refine xr_istore_n i_X8_digest_5 rfl (L2 := [some (.ref v0), some (.long (17 : Int64)), none, some (.int (Int32.ofInt 0)), none]) rfl (q := 6) rfl ?_
  exact xi_X_le (xi_le_s (xi_le_s (xi_le_n (xi_le_s (xi_le_n xi_le_z))))) (xs_X8_digest_6 10000 _ _ _ _ h)
set_option maxRecDepth 100000 in
theorem po_X8_digest {l : Launch} {E : xi_E} {S : xi_S} {D : va_G} {tys : List (ClassId × FieldType)} (hC : xCx E S tys) : xi_Pok l E S D vwCl tys xNs RX8 xTs cX8_digest 5 5 (P_X8_digest S) := ⟨xi_dc_ok, by rw [hC.2]; exact xfo_X8, xkio_X8, xklo_X8, xi_calls_ok (ins := .invokestatic) (fun _ h => absurd h List.not_mem_nil), xi_calls_ok (ins := .invokevirtual) (List.forall_mem_cons.mpr ⟨(xc_X8_136 hC.1 (sn_X6_fact hC) (by decide)), List.forall_mem_cons.mpr ⟨(xc_X8_215 hC.1 (sn_X8_isKept hC) (by decide)), List.forall_mem_cons.mpr ⟨(xc_X8_321 hC.1 (sn_X8_count hC) (by decide)), List.forall_mem_cons.mpr ⟨(xc_X8_324 hC.1 (sn_X7_digestOnto hC) (by decide)), fun _ h => absurd h List.not_mem_nil⟩⟩⟩⟩)⟩
theorem sn_X8_digest {l : Launch} {E : xi_E} {S : xi_S} {D : va_G} {tys : List (ClassId × FieldType)} (hC : xCx E S tys) : ∀ As m1 r m2, F_X8_digest S As m1 = some (r, m2) → xi_Sound l E S D vwCl tys xNs xTs yX8_digest cX8_digest 5 (some .long) 5 As m1 r m2 := by
  intro As m1 r m2 h
  unfold F_X8_digest at h
  split at h
  · exact xi_meth (P := P_X8_digest S) (by decide) hC.1 (po_X8_digest hC) (Nat.le_of_ble_eq_true rfl) rfl (xe_X8_digest _ _ h)
  · exact xi_no h
