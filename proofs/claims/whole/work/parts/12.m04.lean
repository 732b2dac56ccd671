theorem i_X6_ballsOf_0 : xi_dc cX6_ballsOf 0 = some (.iconst 0, 1) := by decide +kernel
theorem i_X6_ballsOf_1 : xi_dc cX6_ballsOf 1 = some (.istore_n 3, 1) := by decide +kernel
theorem i_X6_ballsOf_2 : xi_dc cX6_ballsOf 2 = some (.iconst 0, 1) := by decide +kernel
theorem i_X6_ballsOf_3 : xi_dc cX6_ballsOf 3 = some (.istore 4, 2) := by decide +kernel
theorem i_X6_ballsOf_5 : xi_dc cX6_ballsOf 5 = some (.iload 4, 2) := by decide +kernel
theorem i_X6_ballsOf_7 : xi_dc cX6_ballsOf 7 = some (.aload_n 0, 1) := by decide +kernel
theorem i_X6_ballsOf_8 : xi_dc cX6_ballsOf 8 = some (.getfield 43, 3) := by decide +kernel
theorem i_X6_ballsOf_11 : xi_dc cX6_ballsOf 11 = some (.if_icmp .ge 35, 3) := by decide +kernel
theorem t_X6_ballsOf_11 : ((11 : Nat) : Int) + 35 = ((46 : Nat) : Int) := by decide +kernel
theorem i_X6_ballsOf_14 : xi_dc cX6_ballsOf 14 = some (.aload_n 0, 1) := by decide +kernel
theorem i_X6_ballsOf_15 : xi_dc cX6_ballsOf 15 = some (.getfield 21, 3) := by decide +kernel
theorem i_X6_ballsOf_18 : xi_dc cX6_ballsOf 18 = some (.iload 4, 2) := by decide +kernel
theorem i_X6_ballsOf_20 : xi_dc cX6_ballsOf 20 = some (.iaload, 1) := by decide +kernel
theorem i_X6_ballsOf_21 : xi_dc cX6_ballsOf 21 = some (.iload_n 1, 1) := by decide +kernel
theorem i_X6_ballsOf_22 : xi_dc cX6_ballsOf 22 = some (.if_icmp .ne 18, 3) := by decide +kernel
theorem t_X6_ballsOf_22 : ((22 : Nat) : Int) + 18 = ((40 : Nat) : Int) := by decide +kernel
theorem i_X6_ballsOf_25 : xi_dc cX6_ballsOf 25 = some (.aload_n 0, 1) := by decide +kernel
theorem i_X6_ballsOf_26 : xi_dc cX6_ballsOf 26 = some (.iload 4, 2) := by decide +kernel
theorem i_X6_ballsOf_28 : xi_dc cX6_ballsOf 28 = some (.iconst 0, 1) := by decide +kernel
theorem i_X6_ballsOf_29 : xi_dc cX6_ballsOf 29 = some (.invokevirtual 102, 3) := by decide +kernel
theorem i_X6_ballsOf_32 : xi_dc cX6_ballsOf 32 = some (.iload_n 2, 1) := by decide +kernel
theorem i_X6_ballsOf_33 : xi_dc cX6_ballsOf 33 = some (.iand, 1) := by decide +kernel
theorem i_X6_ballsOf_34 : xi_dc cX6_ballsOf 34 = some (.ifCond .eq 6, 3) := by decide +kernel
theorem t_X6_ballsOf_34 : ((34 : Nat) : Int) + 6 = ((40 : Nat) : Int) := by decide +kernel
theorem i_X6_ballsOf_37 : xi_dc cX6_ballsOf 37 = some (.iinc 3 1, 3) := by decide +kernel
theorem i_X6_ballsOf_40 : xi_dc cX6_ballsOf 40 = some (.iinc 4 1, 3) := by decide +kernel
theorem i_X6_ballsOf_43 : xi_dc cX6_ballsOf 43 = some (.goto (-38), 3) := by decide +kernel
theorem t_X6_ballsOf_43 : ((43 : Nat) : Int) + (-38) = ((5 : Nat) : Int) := by decide +kernel
theorem i_X6_ballsOf_46 : xi_dc cX6_ballsOf 46 = some (.iload_n 3, 1) := by decide +kernel
theorem i_X6_ballsOf_47 : xi_dc cX6_ballsOf 47 = some (.ireturn, 1) := by decide +kernel
def P_X6_ballsOf (S : xi_S) : xi_P := (xi_dc cX6_ballsOf, xi_tab xfl_X6, xi_tab xki_X6, xi_tab xkl_X6, xi_tab xcs_X6, xi_tab xcv_X6, xi_calls [], xi_calls [(102, xi_wV S 8 2 (F_X6_ballBit S))], 1)
theorem cc_X6_ballsOf_102 (S : xi_S) (a0 : Nat) (a1 : Int32) (a2 : Int32) (m : xi_M) : (P_X6_ballsOf S).2.2.2.2.2.2.2.1 102 [.ref a0, .int a1, .int a2] m = (if S.1 a0 = 8 then E_X6_ballBit S a0 a1 a2 m else none) := by
  show xi_calls [(102, xi_wV S 8 2 (F_X6_ballBit S))] 102 [.ref a0, .int a1, .int a2] m = _
  refine Eq.trans (b := xi_wV S 8 2 (F_X6_ballBit S) [.ref a0, .int a1, .int a2] m) (xi_calls_hit rfl) ?_
  exact xi_wV_eq rfl
def G_X6_ballsOf_5 (S : xi_S) : Nat → Nat → Int32 → Int32 → Int32 → Int32 → xi_M → Option xi_R
  | 0, _, _, _, _, _, _ => none
  | n + 1, v0, v1, v2, v3, v4, m =>
    if S.1 v0 = 8 then
      if (m.1 v0 1) ≤ v4 then
        some (some (.int v3), m)
      else
        if S.1 v0 = 8 then (S.2.2 v0 8).bind fun b3 =>
          if S.1 b3 = 0 ∧ ¬ (v4 < 0 ∨ S.2.1 b3 ≤ Int32.toNatClampNeg v4) then
            if (m.1 b3 (Int32.toNatClampNeg v4)) = v1 then
              xi_bI (if S.1 v0 = 8 then E_X6_ballBit S v0 v4 (Int32.ofInt 0) m else none) fun x6 m5 =>
              if (x6 &&& v2) = 0 then
                G_X6_ballsOf_5 S n v0 v1 v2 v3 (v4 + Int32.ofInt 1) m5
              else
                G_X6_ballsOf_5 S n v0 v1 v2 (v3 + Int32.ofInt 1) (v4 + Int32.ofInt 1) m5
            else
              G_X6_ballsOf_5 S n v0 v1 v2 v3 (v4 + Int32.ofInt 1) m
          else none
        else none
    else none
set_option maxRecDepth 100000 in
set_option maxHeartbeats 4000000 in
theorem xs_X6_ballsOf_5 {S : xi_S} {res : xi_R} : ∀ (n : Nat) (v0 : Nat) (v1 : Int32) (v2 : Int32) (v3 : Int32) (v4 : Int32) (m : xi_M), G_X6_ballsOf_5 S n v0 v1 v2 v3 v4 m = some res → xi_X S (P_X6_ballsOf S) (5, [some (.ref v0), some (.int v1), some (.int v2), some (.int v3), some (.int v4)], [], m) res := by
  intro n
  induction n with
  | zero => intro v0 v1 v2 v3 v4 m h; exact xi_no h
  | succ n ih =>
    intro v0 v1 v2 v3 v4 m h
    unfold G_X6_ballsOf_5 at h
    refine xr_iload i_X6_ballsOf_5 rfl (q := 7) rfl ?_
    refine xr_aload_n i_X6_ballsOf_7 rfl (q := 8) rfl ?_
    obtain ⟨c1, h⟩ := xi_if_some h
    refine xr_getI i_X6_ballsOf_8 xfe_X6_43 c1 (q := 11) rfl ?_
    by_cases c9 : (m.1 v0 1) ≤ v4
    · replace h := (if_pos c9).symm.trans h
      refine xr_if_icmp_ge_p i_X6_ballsOf_11 c9 (q := 46) t_X6_ballsOf_11 (q2 := 14) rfl ?_
      refine xr_iload_n i_X6_ballsOf_46 rfl (q := 47) rfl ?_
      exact xr_ireturn i_X6_ballsOf_47 rfl h
    · replace h := (if_neg c9).symm.trans h
      refine xr_if_icmp_ge_n i_X6_ballsOf_11 c9 (q := 46) t_X6_ballsOf_11 (q2 := 14) rfl ?_
      refine xr_aload_n i_X6_ballsOf_14 rfl (q := 15) rfl ?_
      obtain ⟨c2, h⟩ := xi_if_some h
      obtain ⟨b3, eb3, h⟩ := xi_bind_some h
      refine xr_getR i_X6_ballsOf_15 xfe_X6_21 c2 eb3 (q := 18) rfl ?_
      refine xr_iload i_X6_ballsOf_18 rfl (q := 20) rfl ?_
      obtain ⟨c4, h⟩ := xi_if_some h
      refine xr_iaload i_X6_ballsOf_20 c4 (q := 21) rfl ?_
      refine xr_iload_n i_X6_ballsOf_21 rfl (q := 22) rfl ?_
      by_cases c8 : (m.1 b3 (Int32.toNatClampNeg v4)) = v1
      · replace h := (if_pos c8).symm.trans h
        refine xr_if_icmp_ne_p i_X6_ballsOf_22 c8 (q := 40) t_X6_ballsOf_22 (q2 := 25) rfl ?_
        refine xr_aload_n i_X6_ballsOf_25 rfl (q := 26) rfl ?_
        refine xr_iload i_X6_ballsOf_26 rfl (q := 28) rfl ?_
        refine xr_iconst i_X6_ballsOf_28 (q := 29) rfl ?_
        obtain ⟨x6, m5, em5, h⟩ := xi_bI_some h
        refine xr_VI i_X6_ballsOf_29 xcve_X6_102 rfl (As := [.ref v0, .int v4, .int (Int32.ofInt 0)]) rfl (rest := []) rfl ((cc_X6_ballsOf_102 S _ _ _ _).trans em5) (q := 32) rfl ?_
        refine xr_iload_n i_X6_ballsOf_32 rfl (q := 33) rfl ?_
        refine xr_iand i_X6_ballsOf_33 (q := 34) rfl ?_
        by_cases c7 : (x6 &&& v2) = 0
        · replace h := (if_pos c7).symm.trans h
          refine xr_ifCond_eq_p i_X6_ballsOf_34 c7 (q := 40) t_X6_ballsOf_34 (q2 := 37) rfl ?_
          refine xr_iinc i_X6_ballsOf_40 rfl rfl (L2 := [some (.ref v0), some (.int v1), some (.int v2), some (.int v3), some (.int (v4 + Int32.ofInt 1))]) rfl (q := 43) rfl ?_
          refine xr_goto i_X6_ballsOf_43 (q := 5) t_X6_ballsOf_43 ?_
          exact xi_X_le (xi_le_s (xi_le_s (xi_le_s (xi_le_s (xi_le_s xi_le_z))))) (ih _ _ _ _ _ _ h)
        · replace h := (if_neg c7).symm.trans h
          refine xr_ifCond_eq_n i_X6_ballsOf_34 c7 (q := 40) t_X6_ballsOf_34 (q2 := 37) rfl ?_
          refine xr_iinc i_X6_ballsOf_37 rfl rfl (L2 := [some (.ref v0), some (.int v1), some (.int v2), some (.int (v3 + Int32.ofInt 1)), some (.int v4)]) rfl (q := 40) rfl ?_
          refine xr_iinc i_X6_ballsOf_40 rfl rfl (L2 := [some (.ref v0), some (.int v1), some (.int v2), some (.int (v3 + Int32.ofInt 1)), some (.int (v4 + Int32.ofInt 1))]) rfl (q := 43) rfl ?_
          refine xr_goto i_X6_ballsOf_43 (q := 5) t_X6_ballsOf_43 ?_
          exact xi_X_le (xi_le_s (xi_le_s (xi_le_s (xi_le_s (xi_le_s xi_le_z))))) (ih _ _ _ _ _ _ h)
      · replace h := (if_neg c8).symm.trans h
        refine xr_if_icmp_ne_n i_X6_ballsOf_22 c8 (q := 40) t_X6_ballsOf_22 (q2 := 25) rfl ?_
        refine xr_iinc i_X6_ballsOf_40 rfl rfl (L2 := [some (.ref v0), some (.int v1), some (.int v2), some (.int v3), some (.int (v4 + Int32.ofInt 1))]) rfl (q := 43) rfl ?_
        refine xr_goto i_X6_ballsOf_43 (q := 5) t_X6_ballsOf_43 ?_
        exact xi_X_le (xi_le_s (xi_le_s (xi_le_s (xi_le_s (xi_le_s xi_le_z))))) (ih _ _ _ _ _ _ h)
def E_X6_ballsOf (S : xi_S) (v0 : Nat) (v1 : Int32) (v2 : Int32) (m : xi_M) : Option xi_R :=
  G_X6_ballsOf_5 S 10000 v0 v1 v2 (Int32.ofInt 0) (Int32.ofInt 0) m
def F_X6_ballsOf (S : xi_S) : xi_F := fun As m => match As with
  | [.ref v0, .int v1, .int v2] => E_X6_ballsOf S v0 v1 v2 m
  | _ => none
set_option maxRecDepth 100000 in
set_option maxHeartbeats 4000000 in
theorem xe_X6_ballsOf {S : xi_S} {res : xi_R} (v0 : Nat) (v1 : Int32) (v2 : Int32) (m : xi_M) (h : E_X6_ballsOf S v0 v1 v2 m = some res) : xi_X S (P_X6_ballsOf S) (0, [some (.ref v0), some (.int v1), some (.int v2), none, none], [], m) res := by
  unfold E_X6_ballsOf at h
  refine xr_iconst i_X6_ballsOf_0 (q := 1) rfl ?_
  refine xr_istore_n i_X6_ballsOf_1 rfl (L2 := [some (.ref v0), some (.int v1), some (.int v2), some (.int (Int32.ofInt 0)), none]) rfl (q := 2) rfl ?_
  refine xr_iconst i_X6_ballsOf_2 (q := 3) rfl ?_
  refine xr_istore i_X6_ballsOf_3 rfl (L2 := [some (.ref v0), some (.int v1), some (.int v2), some (.int (Int32.ofInt 0)), some (.int (Int32.ofInt 0))]) rfl (q := 5) rfl ?_
  exact xi_X_le (xi_le_s (xi_le_s (xi_le_s (xi_le_s (xi_le_s xi_le_z))))) (xs_X6_ballsOf_5 10000 _ _ _ _ _ _ h)
set_option maxRecDepth 100000 in
theorem po_X6_ballsOf {l : Launch} {E : xi_E} {S : xi_S} {D : va_G} {tys : List (ClassId × FieldType)} (hC : xCx E S tys) : xi_Pok l E S D vwCl tys xNs RX6 xTs cX6_ballsOf 5 4 (P_X6_ballsOf S) := ⟨xi_dc_ok, by rw [hC.2]; exact xfo_X6, xkio_X6, xklo_X6, xi_calls_ok (ins := .invokestatic) (fun _ h => absurd h List.not_mem_nil), xi_calls_ok (ins := .invokevirtual) (List.forall_mem_cons.mpr ⟨(xc_X6_102 hC.1 (sn_X6_ballBit hC) (by decide)), fun _ h => absurd h List.not_mem_nil⟩)⟩
theorem sn_X6_ballsOf {l : Launch} {E : xi_E} {S : xi_S} {D : va_G} {tys : List (ClassId × FieldType)} (hC : xCx E S tys) : ∀ As m1 r m2, F_X6_ballsOf S As m1 = some (r, m2) → xi_Sound l E S D vwCl tys xNs xTs yX6_ballsOf cX6_ballsOf 5 (some .int) 4 As m1 r m2 := by
  intro As m1 r m2 h
  unfold F_X6_ballsOf at h
  split at h
  · exact xi_meth (P := P_X6_ballsOf S) (by decide) hC.1 (po_X6_ballsOf hC) (Nat.le_of_ble_eq_true rfl) rfl (xe_X6_ballsOf _ _ _ _ h)
  · exact xi_no h
theorem i_X6_scorers_0 : xi_dc cX6_scorers 0 = some (.aload_n 0, 1) := by decide +kernel
theorem i_X6_scorers_1 : xi_dc cX6_scorers 1 = some (.iconst 0, 1) := by decide +kernel
theorem i_X6_scorers_2 : xi_dc cX6_scorers 2 = some (.invokevirtual 105, 3) := by decide +kernel
theorem i_X6_scorers_5 : xi_dc cX6_scorers 5 = some (.istore_n 2, 1) := by decide +kernel
theorem i_X6_scorers_6 : xi_dc cX6_scorers 6 = some (.aload_n 0, 1) := by decide +kernel
theorem i_X6_scorers_7 : xi_dc cX6_scorers 7 = some (.iconst 1, 1) := by decide +kernel
theorem i_X6_scorers_8 : xi_dc cX6_scorers 8 = some (.invokevirtual 105, 3) := by decide +kernel
theorem i_X6_scorers_11 : xi_dc cX6_scorers 11 = some (.istore_n 3, 1) := by decide +kernel
theorem i_X6_scorers_12 : xi_dc cX6_scorers 12 = some (.iconst 0, 1) := by decide +kernel
theorem i_X6_scorers_13 : xi_dc cX6_scorers 13 = some (.istore 4, 2) := by decide +kernel
theorem i_X6_scorers_15 : xi_dc cX6_scorers 15 = some (.iconst 0, 1) := by decide +kernel
theorem i_X6_scorers_16 : xi_dc cX6_scorers 16 = some (.istore 5, 2) := by decide +kernel
theorem i_X6_scorers_18 : xi_dc cX6_scorers 18 = some (.iload 5, 2) := by decide +kernel
theorem i_X6_scorers_20 : xi_dc cX6_scorers 20 = some (.aload_n 0, 1) := by decide +kernel
theorem i_X6_scorers_21 : xi_dc cX6_scorers 21 = some (.getfield 43, 3) := by decide +kernel
theorem i_X6_scorers_24 : xi_dc cX6_scorers 24 = some (.if_icmp .ge 53, 3) := by decide +kernel
theorem t_X6_scorers_24 : ((24 : Nat) : Int) + 53 = ((77 : Nat) : Int) := by decide +kernel
theorem i_X6_scorers_27 : xi_dc cX6_scorers 27 = some (.aload_n 0, 1) := by decide +kernel
theorem i_X6_scorers_28 : xi_dc cX6_scorers 28 = some (.getfield 21, 3) := by decide +kernel
theorem i_X6_scorers_31 : xi_dc cX6_scorers 31 = some (.iload 5, 2) := by decide +kernel
theorem i_X6_scorers_33 : xi_dc cX6_scorers 33 = some (.iaload, 1) := by decide +kernel
theorem i_X6_scorers_34 : xi_dc cX6_scorers 34 = some (.ifCond .ne 7, 3) := by decide +kernel
theorem t_X6_scorers_34 : ((34 : Nat) : Int) + 7 = ((41 : Nat) : Int) := by decide +kernel
theorem i_X6_scorers_37 : xi_dc cX6_scorers 37 = some (.iload_n 3, 1) := by decide +kernel
theorem i_X6_scorers_38 : xi_dc cX6_scorers 38 = some (.goto 4, 3) := by decide +kernel
theorem t_X6_scorers_38 : ((38 : Nat) : Int) + 4 = ((42 : Nat) : Int) := by decide +kernel
theorem i_X6_scorers_41 : xi_dc cX6_scorers 41 = some (.iload_n 2, 1) := by decide +kernel
theorem i_X6_scorers_42 : xi_dc cX6_scorers 42 = some (.istore 6, 2) := by decide +kernel
theorem i_X6_scorers_44 : xi_dc cX6_scorers 44 = some (.aload_n 0, 1) := by decide +kernel
theorem i_X6_scorers_45 : xi_dc cX6_scorers 45 = some (.iload 5, 2) := by decide +kernel
theorem i_X6_scorers_47 : xi_dc cX6_scorers 47 = some (.iload_n 1, 1) := by decide +kernel
theorem i_X6_scorers_48 : xi_dc cX6_scorers 48 = some (.iload 5, 2) := by decide +kernel
theorem i_X6_scorers_50 : xi_dc cX6_scorers 50 = some (.ishr, 1) := by decide +kernel
theorem i_X6_scorers_51 : xi_dc cX6_scorers 51 = some (.iconst 1, 1) := by decide +kernel
theorem i_X6_scorers_52 : xi_dc cX6_scorers 52 = some (.iand, 1) := by decide +kernel
theorem i_X6_scorers_53 : xi_dc cX6_scorers 53 = some (.invokevirtual 102, 3) := by decide +kernel
theorem i_X6_scorers_56 : xi_dc cX6_scorers 56 = some (.iload 6, 2) := by decide +kernel
theorem i_X6_scorers_58 : xi_dc cX6_scorers 58 = some (.iand, 1) := by decide +kernel
theorem i_X6_scorers_59 : xi_dc cX6_scorers 59 = some (.ifCond .eq 12, 3) := by decide +kernel
theorem t_X6_scorers_59 : ((59 : Nat) : Int) + 12 = ((71 : Nat) : Int) := by decide +kernel
theorem i_X6_scorers_62 : xi_dc cX6_scorers 62 = some (.iload 4, 2) := by decide +kernel
theorem i_X6_scorers_64 : xi_dc cX6_scorers 64 = some (.iconst 1, 1) := by decide +kernel
theorem i_X6_scorers_65 : xi_dc cX6_scorers 65 = some (.iload 5, 2) := by decide +kernel
theorem i_X6_scorers_67 : xi_dc cX6_scorers 67 = some (.ishl, 1) := by decide +kernel
theorem i_X6_scorers_68 : xi_dc cX6_scorers 68 = some (.ior, 1) := by decide +kernel
theorem i_X6_scorers_69 : xi_dc cX6_scorers 69 = some (.istore 4, 2) := by decide +kernel
theorem i_X6_scorers_71 : xi_dc cX6_scorers 71 = some (.iinc 5 1, 3) := by decide +kernel
theorem i_X6_scorers_74 : xi_dc cX6_scorers 74 = some (.goto (-56), 3) := by decide +kernel
theorem t_X6_scorers_74 : ((74 : Nat) : Int) + (-56) = ((18 : Nat) : Int) := by decide +kernel
theorem i_X6_scorers_77 : xi_dc cX6_scorers 77 = some (.iload 4, 2) := by decide +kernel
theorem i_X6_scorers_79 : xi_dc cX6_scorers 79 = some (.ireturn, 1) := by decide +kernel
def P_X6_scorers (S : xi_S) : xi_P := (xi_dc cX6_scorers, xi_tab xfl_X6, xi_tab xki_X6, xi_tab xkl_X6, xi_tab xcs_X6, xi_tab xcv_X6, xi_calls [], xi_calls [(102, xi_wV S 8 2 (F_X6_ballBit S)), (105, xi_wV S 8 1 (F_X6_inPlaces S))], 1)
theorem cc_X6_scorers_102 (S : xi_S) (a0 : Nat) (a1 : Int32) (a2 : Int32) (m : xi_M) : (P_X6_scorers S).2.2.2.2.2.2.2.1 102 [.ref a0, .int a1, .int a2] m = (if S.1 a0 = 8 then E_X6_ballBit S a0 a1 a2 m else none) := by
  show xi_calls [(102, xi_wV S 8 2 (F_X6_ballBit S)), (105, xi_wV S 8 1 (F_X6_inPlaces S))] 102 [.ref a0, .int a1, .int a2] m = _
  refine Eq.trans (b := xi_wV S 8 2 (F_X6_ballBit S) [.ref a0, .int a1, .int a2] m) (xi_calls_hit rfl) ?_
  exact xi_wV_eq rfl
theorem cc_X6_scorers_105 (S : xi_S) (a0 : Nat) (a1 : Int32) (m : xi_M) : (P_X6_scorers S).2.2.2.2.2.2.2.1 105 [.ref a0, .int a1] m = (if S.1 a0 = 8 then E_X6_inPlaces S a0 a1 m else none) := by
  show xi_calls [(102, xi_wV S 8 2 (F_X6_ballBit S)), (105, xi_wV S 8 1 (F_X6_inPlaces S))] 105 [.ref a0, .int a1] m = _
  refine Eq.trans (b := xi_calls [(105, xi_wV S 8 1 (F_X6_inPlaces S))] 105 [.ref a0, .int a1] m) (xi_calls_miss rfl) ?_
  refine Eq.trans (b := xi_wV S 8 1 (F_X6_inPlaces S) [.ref a0, .int a1] m) (xi_calls_hit rfl) ?_
  exact xi_wV_eq rfl
def G_X6_scorers_18 (S : xi_S) : Nat → Nat → Int32 → Int32 → Int32 → Int32 → Int32 → xi_M → Option xi_R
  | 0, _, _, _, _, _, _, _ => none
  | n + 1, v0, v1, v2, v3, v4, v5, m =>
    if S.1 v0 = 8 then
      if (m.1 v0 1) ≤ v5 then
        some (some (.int v4), m)
      else
        if S.1 v0 = 8 then (S.2.2 v0 8).bind fun b3 =>
          if S.1 b3 = 0 ∧ ¬ (v5 < 0 ∨ S.2.1 b3 ≤ Int32.toNatClampNeg v5) then
            if (m.1 b3 (Int32.toNatClampNeg v5)) = 0 then
              xi_bI (if S.1 v0 = 8 then E_X6_ballBit S v0 v5 ((v1 >>> (v5 &&& 31)) &&& (Int32.ofInt 1)) m else none) fun x9 m8 =>
              if (x9 &&& v3) = 0 then
                G_X6_scorers_18 S n v0 v1 v2 v3 v4 (v5 + Int32.ofInt 1) m8
              else
                G_X6_scorers_18 S n v0 v1 v2 v3 (v4 ||| ((Int32.ofInt 1) <<< (v5 &&& 31))) (v5 + Int32.ofInt 1) m8
            else
              xi_bI (if S.1 v0 = 8 then E_X6_ballBit S v0 v5 ((v1 >>> (v5 &&& 31)) &&& (Int32.ofInt 1)) m else none) fun x6 m5 =>
              if (x6 &&& v2) = 0 then
                G_X6_scorers_18 S n v0 v1 v2 v3 v4 (v5 + Int32.ofInt 1) m5
              else
                G_X6_scorers_18 S n v0 v1 v2 v3 (v4 ||| ((Int32.ofInt 1) <<< (v5 &&& 31))) (v5 + Int32.ofInt 1) m5
          else none
        else none
    else none
set_option maxRecDepth 100000 in
set_option maxHeartbeats 4000000 in
theorem xs_X6_scorers_18 {S : xi_S} {res : xi_R} : ∀ (n : Nat) (v0 : Nat) (v1 : Int32) (v2 : Int32) (v3 : Int32) (v4 : Int32) (v5 : Int32) (m : xi_M), G_X6_scorers_18 S n v0 v1 v2 v3 v4 v5 m = some res → xi_X S (P_X6_scorers S) (18, [some (.ref v0), some (.int v1), some (.int v2), some (.int v3), some (.int v4), some (.int v5), none], [], m) res := by
  intro n
  induction n with
  | zero => intro v0 v1 v2 v3 v4 v5 m h; exact xi_no h
  | succ n ih =>
    intro v0 v1 v2 v3 v4 v5 m h
    unfold G_X6_scorers_18 at h
    refine xr_iload i_X6_scorers_18 rfl (q := 20) rfl ?_
    refine xr_aload_n i_X6_scorers_20 rfl (q := 21) rfl ?_
    obtain ⟨c1, h⟩ := xi_if_some h
    refine xr_getI i_X6_scorers_21 xfe_X6_43 c1 (q := 24) rfl ?_
    by_cases c12 : (m.1 v0 1) ≤ v5
    · replace h := (if_pos c12).symm.trans h
      refine xr_if_icmp_ge_p i_X6_scorers_24 c12 (q := 77) t_X6_scorers_24 (q2 := 27) rfl ?_
      refine xr_iload i_X6_scorers_77 rfl (q := 79) rfl ?_
      exact xr_ireturn i_X6_scorers_79 rfl h
    · replace h := (if_neg c12).symm.trans h
      refine xr_if_icmp_ge_n i_X6_scorers_24 c12 (q := 77) t_X6_scorers_24 (q2 := 27) rfl ?_
      refine xr_aload_n i_X6_scorers_27 rfl (q := 28) rfl ?_
      obtain ⟨c2, h⟩ := xi_if_some h
      obtain ⟨b3, eb3, h⟩ := xi_bind_some h
      refine xr_getR i_X6_scorers_28 xfe_X6_21 c2 eb3 (q := 31) rfl ?_
      refine xr_iload i_X6_scorers_31 rfl (q := 33) rfl ?_
      obtain ⟨c4, h⟩ := xi_if_some h
      refine xr_iaload i_X6_scorers_33 c4 (q := 34) rfl ?_
      by_cases c11 : (m.1 b3 (Int32.toNatClampNeg v5)) = 0
      · replace h := (if_pos c11).symm.trans h
        refine xr_ifCond_ne_p i_X6_scorers_34 c11 (q := 41) t_X6_scorers_34 (q2 := 37) rfl ?_
        refine xr_iload_n i_X6_scorers_37 rfl (q := 38) rfl ?_
        refine xr_goto i_X6_scorers_38 (q := 42) t_X6_scorers_38 ?_
        refine xr_istore i_X6_scorers_42 rfl (L2 := [some (.ref v0), some (.int v1), some (.int v2), some (.int v3), some (.int v4), some (.int v5), some (.int v3)]) rfl (q := 44) rfl ?_
        refine xr_aload_n i_X6_scorers_44 rfl (q := 45) rfl ?_
        refine xr_iload i_X6_scorers_45 rfl (q := 47) rfl ?_
        refine xr_iload_n i_X6_scorers_47 rfl (q := 48) rfl ?_
        refine xr_iload i_X6_scorers_48 rfl (q := 50) rfl ?_
        refine xr_ishr i_X6_scorers_50 (q := 51) rfl ?_
        refine xr_iconst i_X6_scorers_51 (q := 52) rfl ?_
        refine xr_iand i_X6_scorers_52 (q := 53) rfl ?_
        obtain ⟨x9, m8, em8, h⟩ := xi_bI_some h
        refine xr_VI i_X6_scorers_53 xcve_X6_102 rfl (As := [.ref v0, .int v5, .int ((v1 >>> (v5 &&& 31)) &&& (Int32.ofInt 1))]) rfl (rest := []) rfl ((cc_X6_scorers_102 S _ _ _ _).trans em8) (q := 56) rfl ?_
        refine xr_iload i_X6_scorers_56 rfl (q := 58) rfl ?_
        refine xr_iand i_X6_scorers_58 (q := 59) rfl ?_
        by_cases c10 : (x9 &&& v3) = 0
        · replace h := (if_pos c10).symm.trans h
          refine xr_ifCond_eq_p i_X6_scorers_59 c10 (q := 71) t_X6_scorers_59 (q2 := 62) rfl ?_
          refine xr_iinc i_X6_scorers_71 rfl rfl (L2 := [some (.ref v0), some (.int v1), some (.int v2), some (.int v3), some (.int v4), some (.int (v5 + Int32.ofInt 1)), some (.int v3)]) rfl (q := 74) rfl ?_
          refine xr_goto i_X6_scorers_74 (q := 18) t_X6_scorers_74 ?_
          exact xi_X_le (xi_le_s (xi_le_s (xi_le_s (xi_le_s (xi_le_s (xi_le_s (xi_le_n xi_le_z))))))) (ih _ _ _ _ _ _ _ h)
        · replace h := (if_neg c10).symm.trans h
          refine xr_ifCond_eq_n i_X6_scorers_59 c10 (q := 71) t_X6_scorers_59 (q2 := 62) rfl ?_
          refine xr_iload i_X6_scorers_62 rfl (q := 64) rfl ?_
          refine xr_iconst i_X6_scorers_64 (q := 65) rfl ?_
          refine xr_iload i_X6_scorers_65 rfl (q := 67) rfl ?_
          refine xr_ishl i_X6_scorers_67 (q := 68) rfl ?_
          refine xr_ior i_X6_scorers_68 (q := 69) rfl ?_
          refine xr_istore i_X6_scorers_69 rfl (L2 := [some (.ref v0), some (.int v1), some (.int v2), some (.int v3), some (.int (v4 ||| ((Int32.ofInt 1) <<< (v5 &&& 31)))), some (.int v5), some (.int v3)]) rfl (q := 71) rfl ?_
          refine xr_iinc i_X6_scorers_71 rfl rfl (L2 := [some (.ref v0), some (.int v1), some (.int v2), some (.int v3), some (.int (v4 ||| ((Int32.ofInt 1) <<< (v5 &&& 31)))), some (.int (v5 + Int32.ofInt 1)), some (.int v3)]) rfl (q := 74) rfl ?_
          refine xr_goto i_X6_scorers_74 (q := 18) t_X6_scorers_74 ?_
          exact xi_X_le (xi_le_s (xi_le_s (xi_le_s (xi_le_s (xi_le_s (xi_le_s (xi_le_n xi_le_z))))))) (ih _ _ _ _ _ _ _ h)
      · replace h := (if_neg c11).symm.trans h
        refine xr_ifCond_ne_n i_X6_scorers_34 c11 (q := 41) t_X6_scorers_34 (q2 := 37) rfl ?_
        refine xr_iload_n i_X6_scorers_41 rfl (q := 42) rfl ?_
        refine xr_istore i_X6_scorers_42 rfl (L2 := [some (.ref v0), some (.int v1), some (.int v2), some (.int v3), some (.int v4), some (.int v5), some (.int v2)]) rfl (q := 44) rfl ?_
        refine xr_aload_n i_X6_scorers_44 rfl (q := 45) rfl ?_
        refine xr_iload i_X6_scorers_45 rfl (q := 47) rfl ?_
        refine xr_iload_n i_X6_scorers_47 rfl (q := 48) rfl ?_
        refine xr_iload i_X6_scorers_48 rfl (q := 50) rfl ?_
        refine xr_ishr i_X6_scorers_50 (q := 51) rfl ?_
        refine xr_iconst i_X6_scorers_51 (q := 52) rfl ?_
        refine xr_iand i_X6_scorers_52 (q := 53) rfl ?_
        obtain ⟨x6, m5, em5, h⟩ := xi_bI_some h
        refine xr_VI i_X6_scorers_53 xcve_X6_102 rfl (As := [.ref v0, .int v5, .int ((v1 >>> (v5 &&& 31)) &&& (Int32.ofInt 1))]) rfl (rest := []) rfl ((cc_X6_scorers_102 S _ _ _ _).trans em5) (q := 56) rfl ?_
        refine xr_iload i_X6_scorers_56 rfl (q := 58) rfl ?_
        refine xr_iand i_X6_scorers_58 (q := 59) rfl ?_
        by_cases c7 : (x6 &&& v2) = 0
        · replace h := (if_pos c7).symm.trans h
          refine xr_ifCond_eq_p i_X6_scorers_59 c7 (q := 71) t_X6_scorers_59 (q2 := 62) rfl ?_
          refine xr_iinc i_X6_scorers_71 rfl rfl (L2 := [some (.ref v0), some (.int v1), some (.int v2), some (.int v3), some (.int v4), some (.int (v5 + Int32.ofInt 1)), some (.int v2)]) rfl (q := 74) rfl ?_
          refine xr_goto i_X6_scorers_74 (q := 18) t_X6_scorers_74 ?_
          exact xi_X_le (xi_le_s (xi_le_s (xi_le_s (xi_le_s (xi_le_s (xi_le_s (xi_le_n xi_le_z))))))) (ih _ _ _ _ _ _ _ h)
        · replace h := (if_neg c7).symm.trans h
          refine xr_ifCond_eq_n i_X6_scorers_59 c7 (q := 71) t_X6_scorers_59 (q2 := 62) rfl ?_
          refine xr_iload i_X6_scorers_62 rfl (q := 64) rfl ?_
          refine xr_iconst i_X6_scorers_64 (q := 65) rfl ?_
          refine xr_iload i_X6_scorers_65 rfl (q := 67) rfl ?_
          refine xr_ishl i_X6_scorers_67 (q := 68) rfl ?_
          refine xr_ior i_X6_scorers_68 (q := 69) rfl ?_
          refine xr_istore i_X6_scorers_69 rfl (L2 := [some (.ref v0), some (.int v1), some (.int v2), some (.int v3), some (.int (v4 ||| ((Int32.ofInt 1) <<< (v5 &&& 31)))), some (.int v5), some (.int v2)]) rfl (q := 71) rfl ?_
          refine xr_iinc i_X6_scorers_71 rfl rfl (L2 := [some (.ref v0), some (.int v1), some (.int v2), some (.int v3), some (.int (v4 ||| ((Int32.ofInt 1) <<< (v5 &&& 31)))), some (.int (v5 + Int32.ofInt 1)), some (.int v2)]) rfl (q := 74) rfl ?_
          refine xr_goto i_X6_scorers_74 (q := 18) t_X6_scorers_74 ?_
          exact xi_X_le (xi_le_s (xi_le_s (xi_le_s (xi_le_s (xi_le_s (xi_le_s (xi_le_n xi_le_z))))))) (ih _ _ _ _ _ _ _ h)
def E_X6_scorers (S : xi_S) (v0 : Nat) (v1 : Int32) (m : xi_M) : Option xi_R :=
  xi_bI (if S.1 v0 = 8 then E_X6_inPlaces S v0 (Int32.ofInt 0) m else none) fun x2 m1 =>
  xi_bI (if S.1 v0 = 8 then E_X6_inPlaces S v0 (Int32.ofInt 1) m1 else none) fun x4 m3 =>
  G_X6_scorers_18 S 10000 v0 v1 x2 x4 (Int32.ofInt 0) (Int32.ofInt 0) m3
def F_X6_scorers (S : xi_S) : xi_F := fun As m => match As with
  | [.ref v0, .int v1] => E_X6_scorers S v0 v1 m
  | _ => none
set_option maxRecDepth 100000 in
set_option maxHeartbeats 4000000 in
theorem xe_X6_scorers {S : xi_S} {res : xi_R} (v0 : Nat) (v1 : Int32) (m : xi_M) (h : E_X6_scorers S v0 v1 m = some res) : xi_X S (P_X6_scorers S) (0, [some (.ref v0), some (.int v1), none, none, none, none, none], [], m) res := by
  unfold E_X6_scorers at h
  refine xr_aload_n i_X6_scorers_0 rfl (q := 1) rfl ?_
  refine xr_iconst i_X6_scorers_1 (q := 2) rfl ?_
  obtain ⟨x2, m1, em1, h⟩ := xi_bI_some h
  refine xr_VI i_X6_scorers_2 xcve_X6_105 rfl (As := [.ref v0, .int (Int32.ofInt 0)]) rfl (rest := []) rfl ((cc_X6_scorers_105 S _ _ _).trans em1) (q := 5) rfl ?_
  refine xr_istore_n i_X6_scorers_5 rfl (L2 := [some (.ref v0), some (.int v1), some (.int x2), none, none, none, none]) rfl (q := 6) rfl ?_
  refine xr_aload_n i_X6_scorers_6 rfl (q := 7) rfl ?_
  refine xr_iconst i_X6_scorers_7 (q := 8) rfl ?_
  obtain ⟨x4, m3, em3, h⟩ := xi_bI_some h
  refine xr_VI i_X6_scorers_8 xcve_X6_105 rfl (As := [.ref v0, .int (Int32.ofInt 1)]) rfl (rest := []) rfl ((cc_X6_scorers_105 S _ _ _).trans em3) (q := 11) rfl ?_
  refine xr_istore_n i_X6_scorers_11 rfl (L2 := [some (.ref v0), some (.int v1), some (.int x2), some (.int x4), none, none, none]) rfl (q := 12) rfl ?_
  refine xr_iconst i_X6_scorers_12 (q := 13) rfl ?_
  refine xr_istore i_X6_scorers_13 rfl (L2 := [some (.ref v0), some (.int v1), some (.int x2), some (.int x4), some (.int (Int32.ofInt 0)), none, none]) rfl (q := 15) rfl ?_
  refine xr_iconst i_X6_scorers_15 (q := 16) rfl ?_
  refine xr_istore i_X6_scorers_16 rfl (L2 := [some (.ref v0), some (.int v1), some (.int x2), some (.int x4), some (.int (Int32.ofInt 0)), some (.int (Int32.ofInt 0)), none]) rfl (q := 18) rfl ?_
  exact xi_X_le (xi_le_s (xi_le_s (xi_le_s (xi_le_s (xi_le_s (xi_le_s (xi_le_n xi_le_z))))))) (xs_X6_scorers_18 10000 _ _ _ _ _ _ _ h)
set_option maxRecDepth 100000 in
theorem po_X6_scorers {l : Launch} {E : xi_E} {S : xi_S} {D : va_G} {tys : List (ClassId × FieldType)} (hC : xCx E S tys) : xi_Pok l E S D vwCl tys xNs RX6 xTs cX6_scorers 7 4 (P_X6_scorers S) := ⟨xi_dc_ok, by rw [hC.2]; exact xfo_X6, xkio_X6, xklo_X6, xi_calls_ok (ins := .invokestatic) (fun _ h => absurd h List.not_mem_nil), xi_calls_ok (ins := .invokevirtual) (List.forall_mem_cons.mpr ⟨(xc_X6_102 hC.1 (sn_X6_ballBit hC) (by decide)), List.forall_mem_cons.mpr ⟨(xc_X6_105 hC.1 (sn_X6_inPlaces hC) (by decide)), fun _ h => absurd h List.not_mem_nil⟩⟩)⟩
theorem sn_X6_scorers {l : Launch} {E : xi_E} {S : xi_S} {D : va_G} {tys : List (ClassId × FieldType)} (hC : xCx E S tys) : ∀ As m1 r m2, F_X6_scorers S As m1 = some (r, m2) → xi_Sound l E S D vwCl tys xNs xTs yX6_scorers cX6_scorers 7 (some .int) 4 As m1 r m2 := by
  intro As m1 r m2 h
  unfold F_X6_scorers at h
  split at h
  · exact xi_meth (P := P_X6_scorers S) (by decide) hC.1 (po_X6_scorers hC) (Nat.le_of_ble_eq_true rfl) rfl (xe_X6_scorers _ _ _ h)
  · exact xi_no h
theorem i_X6_membersOf_0 : xi_dc cX6_membersOf 0 = some (.iconst 0, 1) := by decide +kernel
theorem i_X6_membersOf_1 : xi_dc cX6_membersOf 1 = some (.istore_n 2, 1) := by decide +kernel
theorem i_X6_membersOf_2 : xi_dc cX6_membersOf 2 = some (.iconst 0, 1) := by decide +kernel
theorem i_X6_membersOf_3 : xi_dc cX6_membersOf 3 = some (.istore_n 3, 1) := by decide +kernel
theorem i_X6_membersOf_4 : xi_dc cX6_membersOf 4 = some (.iload_n 3, 1) := by decide +kernel
theorem i_X6_membersOf_5 : xi_dc cX6_membersOf 5 = some (.aload_n 0, 1) := by decide +kernel
theorem i_X6_membersOf_6 : xi_dc cX6_membersOf 6 = some (.getfield 43, 3) := by decide +kernel
theorem i_X6_membersOf_9 : xi_dc cX6_membersOf 9 = some (.if_icmp .ge 25, 3) := by decide +kernel
theorem t_X6_membersOf_9 : ((9 : Nat) : Int) + 25 = ((34 : Nat) : Int) := by decide +kernel
theorem i_X6_membersOf_12 : xi_dc cX6_membersOf 12 = some (.aload_n 0, 1) := by decide +kernel
theorem i_X6_membersOf_13 : xi_dc cX6_membersOf 13 = some (.getfield 21, 3) := by decide +kernel
theorem i_X6_membersOf_16 : xi_dc cX6_membersOf 16 = some (.iload_n 3, 1) := by decide +kernel
theorem i_X6_membersOf_17 : xi_dc cX6_membersOf 17 = some (.iaload, 1) := by decide +kernel
theorem i_X6_membersOf_18 : xi_dc cX6_membersOf 18 = some (.iload_n 1, 1) := by decide +kernel
theorem i_X6_membersOf_19 : xi_dc cX6_membersOf 19 = some (.if_icmp .ne 9, 3) := by decide +kernel
theorem t_X6_membersOf_19 : ((19 : Nat) : Int) + 9 = ((28 : Nat) : Int) := by decide +kernel
theorem i_X6_membersOf_22 : xi_dc cX6_membersOf 22 = some (.iload_n 2, 1) := by decide +kernel
theorem i_X6_membersOf_23 : xi_dc cX6_membersOf 23 = some (.iconst 1, 1) := by decide +kernel
theorem i_X6_membersOf_24 : xi_dc cX6_membersOf 24 = some (.iload_n 3, 1) := by decide +kernel
theorem i_X6_membersOf_25 : xi_dc cX6_membersOf 25 = some (.ishl, 1) := by decide +kernel
theorem i_X6_membersOf_26 : xi_dc cX6_membersOf 26 = some (.ior, 1) := by decide +kernel
theorem i_X6_membersOf_27 : xi_dc cX6_membersOf 27 = some (.istore_n 2, 1) := by decide +kernel
theorem i_X6_membersOf_28 : xi_dc cX6_membersOf 28 = some (.iinc 3 1, 3) := by decide +kernel
theorem i_X6_membersOf_31 : xi_dc cX6_membersOf 31 = some (.goto (-27), 3) := by decide +kernel
theorem t_X6_membersOf_31 : ((31 : Nat) : Int) + (-27) = ((4 : Nat) : Int) := by decide +kernel
theorem i_X6_membersOf_34 : xi_dc cX6_membersOf 34 = some (.iload_n 2, 1) := by decide +kernel
theorem i_X6_membersOf_35 : xi_dc cX6_membersOf 35 = some (.ireturn, 1) := by decide +kernel
def P_X6_membersOf (S : xi_S) : xi_P := (xi_dc cX6_membersOf, xi_tab xfl_X6, xi_tab xki_X6, xi_tab xkl_X6, xi_tab xcs_X6, xi_tab xcv_X6, xi_calls [], xi_calls [], 1)
def G_X6_membersOf_4 (S : xi_S) : Nat → Nat → Int32 → Int32 → Int32 → xi_M → Option xi_R
  | 0, _, _, _, _, _ => none
  | n + 1, v0, v1, v2, v3, m =>
    if S.1 v0 = 8 then
      if (m.1 v0 1) ≤ v3 then
        some (some (.int v2), m)
      else
        if S.1 v0 = 8 then (S.2.2 v0 8).bind fun b3 =>
          if S.1 b3 = 0 ∧ ¬ (v3 < 0 ∨ S.2.1 b3 ≤ Int32.toNatClampNeg v3) then
            if (m.1 b3 (Int32.toNatClampNeg v3)) = v1 then
              G_X6_membersOf_4 S n v0 v1 (v2 ||| ((Int32.ofInt 1) <<< (v3 &&& 31))) (v3 + Int32.ofInt 1) m
            else
              G_X6_membersOf_4 S n v0 v1 v2 (v3 + Int32.ofInt 1) m
          else none
        else none
    else none
set_option maxRecDepth 100000 in
set_option maxHeartbeats 4000000 in
theorem xs_X6_membersOf_4 {S : xi_S} {res : xi_R} : ∀ (n : Nat) (v0 : Nat) (v1 : Int32) (v2 : Int32) (v3 : Int32) (m : xi_M), G_X6_membersOf_4 S n v0 v1 v2 v3 m = some res → xi_X S (P_X6_membersOf S) (4, [some (.ref v0), some (.int v1), some (.int v2), some (.int v3)], [], m) res := by
  intro n
  induction n with
  | zero => intro v0 v1 v2 v3 m h; exact xi_no h
  | succ n ih =>
    intro v0 v1 v2 v3 m h
    unfold G_X6_membersOf_4 at h
    refine xr_iload_n i_X6_membersOf_4 rfl (q := 5) rfl ?_
    refine xr_aload_n i_X6_membersOf_5 rfl (q := 6) rfl ?_
    obtain ⟨c1, h⟩ := xi_if_some h
    refine xr_getI i_X6_membersOf_6 xfe_X6_43 c1 (q := 9) rfl ?_
    by_cases c6 : (m.1 v0 1) ≤ v3
    · replace h := (if_pos c6).symm.trans h
      refine xr_if_icmp_ge_p i_X6_membersOf_9 c6 (q := 34) t_X6_membersOf_9 (q2 := 12) rfl ?_
      refine xr_iload_n i_X6_membersOf_34 rfl (q := 35) rfl ?_
      exact xr_ireturn i_X6_membersOf_35 rfl h
    · replace h := (if_neg c6).symm.trans h
      refine xr_if_icmp_ge_n i_X6_membersOf_9 c6 (q := 34) t_X6_membersOf_9 (q2 := 12) rfl ?_
      refine xr_aload_n i_X6_membersOf_12 rfl (q := 13) rfl ?_
      obtain ⟨c2, h⟩ := xi_if_some h
      obtain ⟨b3, eb3, h⟩ := xi_bind_some h
      refine xr_getR i_X6_membersOf_13 xfe_X6_21 c2 eb3 (q := 16) rfl ?_
      refine xr_iload_n i_X6_membersOf_16 rfl (q := 17) rfl ?_
      obtain ⟨c4, h⟩ := xi_if_some h
      refine xr_iaload i_X6_membersOf_17 c4 (q := 18) rfl ?_
      refine xr_iload_n i_X6_membersOf_18 rfl (q := 19) rfl ?_
      by_cases c5 : (m.1 b3 (Int32.toNatClampNeg v3)) = v1
      · replace h := (if_pos c5).symm.trans h
        refine xr_if_icmp_ne_p i_X6_membersOf_19 c5 (q := 28) t_X6_membersOf_19 (q2 := 22) rfl ?_
        refine xr_iload_n i_X6_membersOf_22 rfl (q := 23) rfl ?_
        refine xr_iconst i_X6_membersOf_23 (q := 24) rfl ?_
        refine xr_iload_n i_X6_membersOf_24 rfl (q := 25) rfl ?_
        refine xr_ishl i_X6_membersOf_25 (q := 26) rfl ?_
        refine xr_ior i_X6_membersOf_26 (q := 27) rfl ?_
        refine xr_istore_n i_X6_membersOf_27 rfl (L2 := [some (.ref v0), some (.int v1), some (.int (v2 ||| ((Int32.ofInt 1) <<< (v3 &&& 31)))), some (.int v3)]) rfl (q := 28) rfl ?_
        refine xr_iinc i_X6_membersOf_28 rfl rfl (L2 := [some (.ref v0), some (.int v1), some (.int (v2 ||| ((Int32.ofInt 1) <<< (v3 &&& 31)))), some (.int (v3 + Int32.ofInt 1))]) rfl (q := 31) rfl ?_
        refine xr_goto i_X6_membersOf_31 (q := 4) t_X6_membersOf_31 ?_
        exact xi_X_le (xi_le_s (xi_le_s (xi_le_s (xi_le_s xi_le_z)))) (ih _ _ _ _ _ h)
      · replace h := (if_neg c5).symm.trans h
        refine xr_if_icmp_ne_n i_X6_membersOf_19 c5 (q := 28) t_X6_membersOf_19 (q2 := 22) rfl ?_
        refine xr_iinc i_X6_membersOf_28 rfl rfl (L2 := [some (.ref v0), some (.int v1), some (.int v2), some (.int (v3 + Int32.ofInt 1))]) rfl (q := 31) rfl ?_
        refine xr_goto i_X6_membersOf_31 (q := 4) t_X6_membersOf_31 ?_
        exact xi_X_le (xi_le_s (xi_le_s (xi_le_s (xi_le_s xi_le_z)))) (ih _ _ _ _ _ h)
def E_X6_membersOf (S : xi_S) (v0 : Nat) (v1 : Int32) (m : xi_M) : Option xi_R :=
  G_X6_membersOf_4 S 10000 v0 v1 (Int32.ofInt 0) (Int32.ofInt 0) m
def F_X6_membersOf (S : xi_S) : xi_F := fun As m => match As with
  | [.ref v0, .int v1] => E_X6_membersOf S v0 v1 m
  | _ => none
set_option maxRecDepth 100000 in
set_option maxHeartbeats 4000000 in
theorem xe_X6_membersOf {S : xi_S} {res : xi_R} (v0 : Nat) (v1 : Int32) (m : xi_M) (h : E_X6_membersOf S v0 v1 m = some res) : xi_X S (P_X6_membersOf S) (0, [some (.ref v0), some (.int v1), none, none], [], m) res := by
  unfold E_X6_membersOf at h
  refine xr_iconst i_X6_membersOf_0 (q := 1) rfl ?_
  refine xr_istore_n i_X6_membersOf_1 rfl (L2 := [some (.ref v0), some (.int v1), some (.int (Int32.ofInt 0)), none]) rfl (q := 2) rfl ?_
  refine xr_iconst i_X6_membersOf_2 (q := 3) rfl ?_
  refine xr_istore_n i_X6_membersOf_3 rfl (L2 := [some (.ref v0), some (.int v1), some (.int (Int32.ofInt 0)), some (.int (Int32.ofInt 0))]) rfl (q := 4) rfl ?_
  exact xi_X_le (xi_le_s (xi_le_s (xi_le_s (xi_le_s xi_le_z)))) (xs_X6_membersOf_4 10000 _ _ _ _ _ h)
set_option maxRecDepth 100000 in
theorem po_X6_membersOf {l : Launch} {E : xi_E} {S : xi_S} {D : va_G} {tys : List (ClassId × FieldType)} (hC : xCx E S tys) : xi_Pok l E S D vwCl tys xNs RX6 xTs cX6_membersOf 4 0 (P_X6_membersOf S) := ⟨xi_dc_ok, by rw [hC.2]; exact xfo_X6, xkio_X6, xklo_X6, xi_calls_ok (ins := .invokestatic) (fun _ h => absurd h List.not_mem_nil), xi_calls_ok (ins := .invokevirtual) (fun _ h => absurd h List.not_mem_nil)⟩
theorem sn_X6_membersOf {l : Launch} {E : xi_E} {S : xi_S} {D : va_G} {tys : List (ClassId × FieldType)} (hC : xCx E S tys) : ∀ As m1 r m2, F_X6_membersOf S As m1 = some (r, m2) → xi_Sound l E S D vwCl tys xNs xTs yX6_membersOf cX6_membersOf 4 (some .int) 0 As m1 r m2 := by
  intro As m1 r m2 h
  unfold F_X6_membersOf at h
  split at h
  · exact xi_meth (P := P_X6_membersOf S) (by decide) hC.1 (po_X6_membersOf hC) (Nat.le_of_ble_eq_true rfl) rfl (xe_X6_membersOf _ _ _ h)
  · exact xi_no h
theorem i_J6_bitCount_0f7a4_0 : xi_dc cJ6_bitCount_0f7a4 0 = some (.iload_n 0, 1) := by decide +kernel
theorem i_J6_bitCount_0f7a4_1 : xi_dc cJ6_bitCount_0f7a4 1 = some (.iload_n 0, 1) := by decide +kernel
theorem i_J6_bitCount_0f7a4_2 : xi_dc cJ6_bitCount_0f7a4 2 = some (.iconst 1, 1) := by decide +kernel
theorem i_J6_bitCount_0f7a4_3 : xi_dc cJ6_bitCount_0f7a4 3 = some (.iushr, 1) := by decide +kernel
theorem i_J6_bitCount_0f7a4_4 : xi_dc cJ6_bitCount_0f7a4 4 = some (.ldc_w 265, 3) := by decide +kernel
theorem i_J6_bitCount_0f7a4_7 : xi_dc cJ6_bitCount_0f7a4 7 = some (.iand, 1) := by decide +kernel
theorem i_J6_bitCount_0f7a4_8 : xi_dc cJ6_bitCount_0f7a4 8 = some (.isub, 1) := by decide +kernel
theorem i_J6_bitCount_0f7a4_9 : xi_dc cJ6_bitCount_0f7a4 9 = some (.istore_n 0, 1) := by decide +kernel
theorem i_J6_bitCount_0f7a4_10 : xi_dc cJ6_bitCount_0f7a4 10 = some (.iload_n 0, 1) := by decide +kernel
theorem i_J6_bitCount_0f7a4_11 : xi_dc cJ6_bitCount_0f7a4 11 = some (.ldc_w 266, 3) := by decide +kernel
theorem i_J6_bitCount_0f7a4_14 : xi_dc cJ6_bitCount_0f7a4 14 = some (.iand, 1) := by decide +kernel
theorem i_J6_bitCount_0f7a4_15 : xi_dc cJ6_bitCount_0f7a4 15 = some (.iload_n 0, 1) := by decide +kernel
theorem i_J6_bitCount_0f7a4_16 : xi_dc cJ6_bitCount_0f7a4 16 = some (.iconst 2, 1) := by decide +kernel
theorem i_J6_bitCount_0f7a4_17 : xi_dc cJ6_bitCount_0f7a4 17 = some (.iushr, 1) := by decide +kernel
theorem i_J6_bitCount_0f7a4_18 : xi_dc cJ6_bitCount_0f7a4 18 = some (.ldc_w 266, 3) := by decide +kernel
theorem i_J6_bitCount_0f7a4_21 : xi_dc cJ6_bitCount_0f7a4 21 = some (.iand, 1) := by decide +kernel
theorem i_J6_bitCount_0f7a4_22 : xi_dc cJ6_bitCount_0f7a4 22 = some (.iadd, 1) := by decide +kernel
theorem i_J6_bitCount_0f7a4_23 : xi_dc cJ6_bitCount_0f7a4 23 = some (.istore_n 0, 1) := by decide +kernel
theorem i_J6_bitCount_0f7a4_24 : xi_dc cJ6_bitCount_0f7a4 24 = some (.iload_n 0, 1) := by decide +kernel
theorem i_J6_bitCount_0f7a4_25 : xi_dc cJ6_bitCount_0f7a4 25 = some (.iload_n 0, 1) := by decide +kernel
theorem i_J6_bitCount_0f7a4_26 : xi_dc cJ6_bitCount_0f7a4 26 = some (.iconst 4, 1) := by decide +kernel
theorem i_J6_bitCount_0f7a4_27 : xi_dc cJ6_bitCount_0f7a4 27 = some (.iushr, 1) := by decide +kernel
theorem i_J6_bitCount_0f7a4_28 : xi_dc cJ6_bitCount_0f7a4 28 = some (.iadd, 1) := by decide +kernel
theorem i_J6_bitCount_0f7a4_29 : xi_dc cJ6_bitCount_0f7a4 29 = some (.ldc_w 267, 3) := by decide +kernel
theorem i_J6_bitCount_0f7a4_32 : xi_dc cJ6_bitCount_0f7a4 32 = some (.iand, 1) := by decide +kernel
theorem i_J6_bitCount_0f7a4_33 : xi_dc cJ6_bitCount_0f7a4 33 = some (.istore_n 0, 1) := by decide +kernel
theorem i_J6_bitCount_0f7a4_34 : xi_dc cJ6_bitCount_0f7a4 34 = some (.iload_n 0, 1) := by decide +kernel
theorem i_J6_bitCount_0f7a4_35 : xi_dc cJ6_bitCount_0f7a4 35 = some (.iload_n 0, 1) := by decide +kernel
theorem i_J6_bitCount_0f7a4_36 : xi_dc cJ6_bitCount_0f7a4 36 = some (.bipush 8, 2) := by decide +kernel
theorem i_J6_bitCount_0f7a4_38 : xi_dc cJ6_bitCount_0f7a4 38 = some (.iushr, 1) := by decide +kernel
theorem i_J6_bitCount_0f7a4_39 : xi_dc cJ6_bitCount_0f7a4 39 = some (.iadd, 1) := by decide +kernel
theorem i_J6_bitCount_0f7a4_40 : xi_dc cJ6_bitCount_0f7a4 40 = some (.istore_n 0, 1) := by decide +kernel
theorem i_J6_bitCount_0f7a4_41 : xi_dc cJ6_bitCount_0f7a4 41 = some (.iload_n 0, 1) := by decide +kernel
theorem i_J6_bitCount_0f7a4_42 : xi_dc cJ6_bitCount_0f7a4 42 = some (.iload_n 0, 1) := by decide +kernel
theorem i_J6_bitCount_0f7a4_43 : xi_dc cJ6_bitCount_0f7a4 43 = some (.bipush 16, 2) := by decide +kernel
theorem i_J6_bitCount_0f7a4_45 : xi_dc cJ6_bitCount_0f7a4 45 = some (.iushr, 1) := by decide +kernel
theorem i_J6_bitCount_0f7a4_46 : xi_dc cJ6_bitCount_0f7a4 46 = some (.iadd, 1) := by decide +kernel
theorem i_J6_bitCount_0f7a4_47 : xi_dc cJ6_bitCount_0f7a4 47 = some (.istore_n 0, 1) := by decide +kernel
theorem i_J6_bitCount_0f7a4_48 : xi_dc cJ6_bitCount_0f7a4 48 = some (.iload_n 0, 1) := by decide +kernel
theorem i_J6_bitCount_0f7a4_49 : xi_dc cJ6_bitCount_0f7a4 49 = some (.bipush 63, 2) := by decide +kernel
theorem i_J6_bitCount_0f7a4_51 : xi_dc cJ6_bitCount_0f7a4 51 = some (.iand, 1) := by decide +kernel
theorem i_J6_bitCount_0f7a4_52 : xi_dc cJ6_bitCount_0f7a4 52 = some (.ireturn, 1) := by decide +kernel
def P_J6_bitCount_0f7a4 (S : xi_S) : xi_P := (xi_dc cJ6_bitCount_0f7a4, xi_tab xfl_J6, xi_tab xki_J6, xi_tab xkl_J6, xi_tab xcs_J6, xi_tab xcv_J6, xi_calls [], xi_calls [], 1)
def E_J6_bitCount_0f7a4 (S : xi_S) (v0 : Int32) (m : xi_M) : Option xi_R :=
  some (some (.int ((((((((v0 - (((Int32.toUInt32 v0 >>> (Int32.toUInt32 (Int32.ofInt 1) &&& Int32.toUInt32 31)).toInt32) &&& (1431655765 : Int32))) &&& (858993459 : Int32)) + (((Int32.toUInt32 (v0 - (((Int32.toUInt32 v0 >>> (Int32.toUInt32 (Int32.ofInt 1) &&& Int32.toUInt32 31)).toInt32) &&& (1431655765 : Int32))) >>> (Int32.toUInt32 (Int32.ofInt 2) &&& Int32.toUInt32 31)).toInt32) &&& (858993459 : Int32))) + ((Int32.toUInt32 (((v0 - (((Int32.toUInt32 v0 >>> (Int32.toUInt32 (Int32.ofInt 1) &&& Int32.toUInt32 31)).toInt32) &&& (1431655765 : Int32))) &&& (858993459 : Int32)) + (((Int32.toUInt32 (v0 - (((Int32.toUInt32 v0 >>> (Int32.toUInt32 (Int32.ofInt 1) &&& Int32.toUInt32 31)).toInt32) &&& (1431655765 : Int32))) >>> (Int32.toUInt32 (Int32.ofInt 2) &&& Int32.toUInt32 31)).toInt32) &&& (858993459 : Int32))) >>> (Int32.toUInt32 (Int32.ofInt 4) &&& Int32.toUInt32 31)).toInt32)) &&& (252645135 : Int32)) + ((Int32.toUInt32 (((((v0 - (((Int32.toUInt32 v0 >>> (Int32.toUInt32 (Int32.ofInt 1) &&& Int32.toUInt32 31)).toInt32) &&& (1431655765 : Int32))) &&& (858993459 : Int32)) + (((Int32.toUInt32 (v0 - (((Int32.toUInt32 v0 >>> (Int32.toUInt32 (Int32.ofInt 1) &&& Int32.toUInt32 31)).toInt32) &&& (1431655765 : Int32))) >>> (Int32.toUInt32 (Int32.ofInt 2) &&& Int32.toUInt32 31)).toInt32) &&& (858993459 : Int32))) + ((Int32.toUInt32 (((v0 - (((Int32.toUInt32 v0 >>> (Int32.toUInt32 (Int32.ofInt 1) &&& Int32.toUInt32 31)).toInt32) &&& (1431655765 : Int32))) &&& (858993459 : Int32)) + (((Int32.toUInt32 (v0 - (((Int32.toUInt32 v0 >>> (Int32.toUInt32 (Int32.ofInt 1) &&& Int32.toUInt32 31)).toInt32) &&& (1431655765 : Int32))) >>> (Int32.toUInt32 (Int32.ofInt 2) &&& Int32.toUInt32 31)).toInt32) &&& (858993459 : Int32))) >>> (Int32.toUInt32 (Int32.ofInt 4) &&& Int32.toUInt32 31)).toInt32)) &&& (252645135 : Int32)) >>> (Int32.toUInt32 ((Int8.ofInt 8).toInt32) &&& Int32.toUInt32 31)).toInt32)) + ((Int32.toUInt32 ((((((v0 - (((Int32.toUInt32 v0 >>> (Int32.toUInt32 (Int32.ofInt 1) &&& Int32.toUInt32 31)).toInt32) &&& (1431655765 : Int32))) &&& (858993459 : Int32)) + (((Int32.toUInt32 (v0 - (((Int32.toUInt32 v0 >>> (Int32.toUInt32 (Int32.ofInt 1) &&& Int32.toUInt32 31)).toInt32) &&& (1431655765 : Int32))) >>> (Int32.toUInt32 (Int32.ofInt 2) &&& Int32.toUInt32 31)).toInt32) &&& (858993459 : Int32))) + ((Int32.toUInt32 (((v0 - (((Int32.toUInt32 v0 >>> (Int32.toUInt32 (Int32.ofInt 1) &&& Int32.toUInt32 31)).toInt32) &&& (1431655765 : Int32))) &&& (858993459 : Int32)) + (((Int32.toUInt32 (v0 - (((Int32.toUInt32 v0 >>> (Int32.toUInt32 (Int32.ofInt 1) &&& Int32.toUInt32 31)).toInt32) &&& (1431655765 : Int32))) >>> (Int32.toUInt32 (Int32.ofInt 2) &&& Int32.toUInt32 31)).toInt32) &&& (858993459 : Int32))) >>> (Int32.toUInt32 (Int32.ofInt 4) &&& Int32.toUInt32 31)).toInt32)) &&& (252645135 : Int32)) + ((Int32.toUInt32 (((((v0 - (((Int32.toUInt32 v0 >>> (Int32.toUInt32 (Int32.ofInt 1) &&& Int32.toUInt32 31)).toInt32) &&& (1431655765 : Int32))) &&& (858993459 : Int32)) + (((Int32.toUInt32 (v0 - (((Int32.toUInt32 v0 >>> (Int32.toUInt32 (Int32.ofInt 1) &&& Int32.toUInt32 31)).toInt32) &&& (1431655765 : Int32))) >>> (Int32.toUInt32 (Int32.ofInt 2) &&& Int32.toUInt32 31)).toInt32) &&& (858993459 : Int32))) + ((Int32.toUInt32 (((v0 - (((Int32.toUInt32 v0 >>> (Int32.toUInt32 (Int32.ofInt 1) &&& Int32.toUInt32 31)).toInt32) &&& (1431655765 : Int32))) &&& (858993459 : Int32)) + (((Int32.toUInt32 (v0 - (((Int32.toUInt32 v0 >>> (Int32.toUInt32 (Int32.ofInt 1) &&& Int32.toUInt32 31)).toInt32) &&& (1431655765 : Int32))) >>> (Int32.toUInt32 (Int32.ofInt 2) &&& Int32.toUInt32 31)).toInt32) &&& (858993459 : Int32))) >>> (Int32.toUInt32 (Int32.ofInt 4) &&& Int32.toUInt32 31)).toInt32)) &&& (252645135 : Int32)) >>> (Int32.toUInt32 ((Int8.ofInt 8).toInt32) &&& Int32.toUInt32 31)).toInt32)) >>> (Int32.toUInt32 ((Int8.ofInt 16).toInt32) &&& Int32.toUInt32 31)).toInt32)) &&& ((Int8.ofInt 63).toInt32))), m)
def F_J6_bitCount_0f7a4 (S : xi_S) : xi_F := fun As m => match As with
  | [.int v0] => E_J6_bitCount_0f7a4 S v0 m
  | _ => none
set_option maxRecDepth 100000 in
set_option maxHeartbeats 4000000 in
theorem xe_J6_bitCount_0f7a4 {S : xi_S} {res : xi_R} (v0 : Int32) (m : xi_M) (h : E_J6_bitCount_0f7a4 S v0 m = some res) : xi_X S (P_J6_bitCount_0f7a4 S) (0, [some (.int v0)], [], m) res := by
  unfold E_J6_bitCount_0f7a4 at h
  refine xr_iload_n i_J6_bitCount_0f7a4_0 rfl (q := 1) rfl ?_
  refine xr_iload_n i_J6_bitCount_0f7a4_1 rfl (q := 2) rfl ?_
  refine xr_iconst i_J6_bitCount_0f7a4_2 (q := 3) rfl ?_
  refine xr_iushr i_J6_bitCount_0f7a4_3 (q := 4) rfl ?_
  refine xr_ldc_w i_J6_bitCount_0f7a4_4 xkie_J6_265 (q := 7) rfl ?_
  refine xr_iand i_J6_bitCount_0f7a4_7 (q := 8) rfl ?_
  refine xr_isub i_J6_bitCount_0f7a4_8 (q := 9) rfl ?_
  refine xr_istore_n i_J6_bitCount_0f7a4_9 rfl (L2 := [some (.int (v0 - (((Int32.toUInt32 v0 >>> (Int32.toUInt32 (Int32.ofInt 1) &&& Int32.toUInt32 31)).toInt32) &&& (1431655765 : Int32))))]) rfl (q := 10) rfl ?_
  refine xr_iload_n i_J6_bitCount_0f7a4_10 rfl (q := 11) rfl ?_
  refine xr_ldc_w i_J6_bitCount_0f7a4_11 xkie_J6_266 (q := 14) rfl ?_
  refine xr_iand i_J6_bitCount_0f7a4_14 (q := 15) rfl ?_
  refine xr_iload_n i_J6_bitCount_0f7a4_15 rfl (q := 16) rfl ?_
  refine xr_iconst i_J6_bitCount_0f7a4_16 (q := 17) rfl ?_
  refine xr_iushr i_J6_bitCount_0f7a4_17 (q := 18) rfl ?_
  refine xr_ldc_w i_J6_bitCount_0f7a4_18 xkie_J6_266 (q := 21) rfl ?_
  refine xr_iand i_J6_bitCount_0f7a4_21 (q := 22) rfl ?_
  refine xr_iadd i_J6_bitCount_0f7a4_22 (q := 23) rfl ?_
  refine xr_istore_n i_J6_bitCount_0f7a4_23 rfl (L2 := [some (.int (((v0 - (((Int32.toUInt32 v0 >>> (Int32.toUInt32 (Int32.ofInt 1) &&& Int32.toUInt32 31)).toInt32) &&& (1431655765 : Int32))) &&& (858993459 : Int32)) + (((Int32.toUInt32 (v0 - (((Int32.toUInt32 v0 >>> (Int32.toUInt32 (Int32.ofInt 1) &&& Int32.toUInt32 31)).toInt32) &&& (1431655765 : Int32))) >>> (Int32.toUInt32 (Int32.ofInt 2) &&& Int32.toUInt32 31)).toInt32) &&& (858993459 : Int32))))]) rfl (q := 24) rfl ?_
  refine xr_iload_n i_J6_bitCount_0f7a4_24 rfl (q := 25) rfl ?_
  refine xr_iload_n i_J6_bitCount_0f7a4_25 rfl (q := 26) rfl ?_
  refine xr_iconst i_J6_bitCount_0f7a4_26 (q := 27) rfl ?_
  refine xr_iushr i_J6_bitCount_0f7a4_27 (q := 28) rfl ?_
  refine xr_iadd i_J6_bitCount_0f7a4_28 (q := 29) rfl ?_
  refine xr_ldc_w i_J6_bitCount_0f7a4_29 xkie_J6_267 (q := 32) rfl ?_
  refine xr_iand i_J6_bitCount_0f7a4_32 (q := 33) rfl ?_
  refine xr_istore_n i_J6_bitCount_0f7a4_33 rfl (L2 := [some (.int (((((v0 - (((Int32.toUInt32 v0 >>> (Int32.toUInt32 (Int32.ofInt 1) &&& Int32.toUInt32 31)).toInt32) &&& (1431655765 : Int32))) &&& (858993459 : Int32)) + (((Int32.toUInt32 (v0 - (((Int32.toUInt32 v0 >>> (Int32.toUInt32 (Int32.ofInt 1) &&& Int32.toUInt32 31)).toInt32) &&& (1431655765 : Int32))) >>> (Int32.toUInt32 (Int32.ofInt 2) &&& Int32.toUInt32 31)).toInt32) &&& (858993459 : Int32))) + ((Int32.toUInt32 (((v0 - (((Int32.toUInt32 v0 >>> (Int32.toUInt32 (Int32.ofInt 1) &&& Int32.toUInt32 31)).toInt32) &&& (1431655765 : Int32))) &&& (858993459 : Int32)) + (((Int32.toUInt32 (v0 - (((Int32.toUInt32 v0 >>> (Int32.toUInt32 (Int32.ofInt 1) &&& Int32.toUInt32 31)).toInt32) &&& (1431655765 : Int32))) >>> (Int32.toUInt32 (Int32.ofInt 2) &&& Int32.toUInt32 31)).toInt32) &&& (858993459 : Int32))) >>> (Int32.toUInt32 (Int32.ofInt 4) &&& Int32.toUInt32 31)).toInt32)) &&& (252645135 : Int32)))]) rfl (q := 34) rfl ?_
  refine xr_iload_n i_J6_bitCount_0f7a4_34 rfl (q := 35) rfl ?_
  refine xr_iload_n i_J6_bitCount_0f7a4_35 rfl (q := 36) rfl ?_
  refine xr_bipush i_J6_bitCount_0f7a4_36 (q := 38) rfl ?_
  refine xr_iushr i_J6_bitCount_0f7a4_38 (q := 39) rfl ?_
  refine xr_iadd i_J6_bitCount_0f7a4_39 (q := 40) rfl ?_
  refine xr_istore_n i_J6_bitCount_0f7a4_40 rfl (L2 := [some (.int ((((((v0 - (((Int32.toUInt32 v0 >>> (Int32.toUInt32 (Int32.ofInt 1) &&& Int32.toUInt32 31)).toInt32) &&& (1431655765 : Int32))) &&& (858993459 : Int32)) + (((Int32.toUInt32 (v0 - (((Int32.toUInt32 v0 >>> (Int32.toUInt32 (Int32.ofInt 1) &&& Int32.toUInt32 31)).toInt32) &&& (1431655765 : Int32))) >>> (Int32.toUInt32 (Int32.ofInt 2) &&& Int32.toUInt32 31)).toInt32) &&& (858993459 : Int32))) + ((Int32.toUInt32 (((v0 - (((Int32.toUInt32 v0 >>> (Int32.toUInt32 (Int32.ofInt 1) &&& Int32.toUInt32 31)).toInt32) &&& (1431655765 : Int32))) &&& (858993459 : Int32)) + (((Int32.toUInt32 (v0 - (((Int32.toUInt32 v0 >>> (Int32.toUInt32 (Int32.ofInt 1) &&& Int32.toUInt32 31)).toInt32) &&& (1431655765 : Int32))) >>> (Int32.toUInt32 (Int32.ofInt 2) &&& Int32.toUInt32 31)).toInt32) &&& (858993459 : Int32))) >>> (Int32.toUInt32 (Int32.ofInt 4) &&& Int32.toUInt32 31)).toInt32)) &&& (252645135 : Int32)) + ((Int32.toUInt32 (((((v0 - (((Int32.toUInt32 v0 >>> (Int32.toUInt32 (Int32.ofInt 1) &&& Int32.toUInt32 31)).toInt32) &&& (1431655765 : Int32))) &&& (858993459 : Int32)) + (((Int32.toUInt32 (v0 - (((Int32.toUInt32 v0 >>> (Int32.toUInt32 (Int32.ofInt 1) &&& Int32.toUInt32 31)).toInt32) &&& (1431655765 : Int32))) >>> (Int32.toUInt32 (Int32.ofInt 2) &&& Int32.toUInt32 31)).toInt32) &&& (858993459 : Int32))) + ((Int32.toUInt32 (((v0 - (((Int32.toUInt32 v0 >>> (Int32.toUInt32 (Int32.ofInt 1) &&& Int32.toUInt32 31)).toInt32) &&& (1431655765 : Int32))) &&& (858993459 : Int32)) + (((Int32.toUInt32 (v0 - (((Int32.toUInt32 v0 >>> (Int32.toUInt32 (Int32.ofInt 1) &&& Int32.toUInt32 31)).toInt32) &&& (1431655765 : Int32))) >>> (Int32.toUInt32 (Int32.ofInt 2) &&& Int32.toUInt32 31)).toInt32) &&& (858993459 : Int32))) >>> (Int32.toUInt32 (Int32.ofInt 4) &&& Int32.toUInt32 31)).toInt32)) &&& (252645135 : Int32)) >>> (Int32.toUInt32 ((Int8.ofInt 8).toInt32) &&& Int32.toUInt32 31)).toInt32)))]) rfl (q := 41) rfl ?_
  refine xr_iload_n i_J6_bitCount_0f7a4_41 rfl (q := 42) rfl ?_
  refine xr_iload_n i_J6_bitCount_0f7a4_42 rfl (q := 43) rfl ?_
  refine xr_bipush i_J6_bitCount_0f7a4_43 (q := 45) rfl ?_
  refine xr_iushr i_J6_bitCount_0f7a4_45 (q := 46) rfl ?_
  refine xr_iadd i_J6_bitCount_0f7a4_46 (q := 47) rfl ?_
  refine xr_istore_n i_J6_bitCount_0f7a4_47 rfl (L2 := [some (.int (((((((v0 - (((Int32.toUInt32 v0 >>> (Int32.toUInt32 (Int32.ofInt 1) &&& Int32.toUInt32 31)).toInt32) &&& (1431655765 : Int32))) &&& (858993459 : Int32)) + (((Int32.toUInt32 (v0 - (((Int32.toUInt32 v0 >>> (Int32.toUInt32 (Int32.ofInt 1) &&& Int32.toUInt32 31)).toInt32) &&& (1431655765 : Int32))) >>> (Int32.toUInt32 (Int32.ofInt 2) &&& Int32.toUInt32 31)).toInt32) &&& (858993459 : Int32))) + ((Int32.toUInt32 (((v0 - (((Int32.toUInt32 v0 >>> (Int32.toUInt32 (Int32.ofInt 1) &&& Int32.toUInt32 31)).toInt32) &&& (1431655765 : Int32))) &&& (858993459 : Int32)) + (((Int32.toUInt32 (v0 - (((Int32.toUInt32 v0 >>> (Int32.toUInt32 (Int32.ofInt 1) &&& Int32.toUInt32 31)).toInt32) &&& (1431655765 : Int32))) >>> (Int32.toUInt32 (Int32.ofInt 2) &&& Int32.toUInt32 31)).toInt32) &&& (858993459 : Int32))) >>> (Int32.toUInt32 (Int32.ofInt 4) &&& Int32.toUInt32 31)).toInt32)) &&& (252645135 : Int32)) + ((Int32.toUInt32 (((((v0 - (((Int32.toUInt32 v0 >>> (Int32.toUInt32 (Int32.ofInt 1) &&& Int32.toUInt32 31)).toInt32) &&& (1431655765 : Int32))) &&& (858993459 : Int32)) + (((Int32.toUInt32 (v0 - (((Int32.toUInt32 v0 >>> (Int32.toUInt32 (Int32.ofInt 1) &&& Int32.toUInt32 31)).toInt32) &&& (1431655765 : Int32))) >>> (Int32.toUInt32 (Int32.ofInt 2) &&& Int32.toUInt32 31)).toInt32) &&& (858993459 : Int32))) + ((Int32.toUInt32 (((v0 - (((Int32.toUInt32 v0 >>> (Int32.toUInt32 (Int32.ofInt 1) &&& Int32.toUInt32 31)).toInt32) &&& (1431655765 : Int32))) &&& (858993459 : Int32)) + (((Int32.toUInt32 (v0 - (((Int32.toUInt32 v0 >>> (Int32.toUInt32 (Int32.ofInt 1) &&& Int32.toUInt32 31)).toInt32) &&& (1431655765 : Int32))) >>> (Int32.toUInt32 (Int32.ofInt 2) &&& Int32.toUInt32 31)).toInt32) &&& (858993459 : Int32))) >>> (Int32.toUInt32 (Int32.ofInt 4) &&& Int32.toUInt32 31)).toInt32)) &&& (252645135 : Int32)) >>> (Int32.toUInt32 ((Int8.ofInt 8).toInt32) &&& Int32.toUInt32 31)).toInt32)) + ((Int32.toUInt32 ((((((v0 - (((Int32.toUInt32 v0 >>> (Int32.toUInt32 (Int32.ofInt 1) &&& Int32.toUInt32 31)).toInt32) &&& (1431655765 : Int32))) &&& (858993459 : Int32)) + (((Int32.toUInt32 (v0 - (((Int32.toUInt32 v0 >>> (Int32.toUInt32 (Int32.ofInt 1) &&& Int32.toUInt32 31)).toInt32) &&& (1431655765 : Int32))) >>> (Int32.toUInt32 (Int32.ofInt 2) &&& Int32.toUInt32 31)).toInt32) &&& (858993459 : Int32))) + ((Int32.toUInt32 (((v0 - (((Int32.toUInt32 v0 >>> (Int32.toUInt32 (Int32.ofInt 1) &&& Int32.toUInt32 31)).toInt32) &&& (1431655765 : Int32))) &&& (858993459 : Int32)) + (((Int32.toUInt32 (v0 - (((Int32.toUInt32 v0 >>> (Int32.toUInt32 (Int32.ofInt 1) &&& Int32.toUInt32 31)).toInt32) &&& (1431655765 : Int32))) >>> (Int32.toUInt32 (Int32.ofInt 2) &&& Int32.toUInt32 31)).toInt32) &&& (858993459 : Int32))) >>> (Int32.toUInt32 (Int32.ofInt 4) &&& Int32.toUInt32 31)).toInt32)) &&& (252645135 : Int32)) + ((Int32.toUInt32 (((((v0 - (((Int32.toUInt32 v0 >>> (Int32.toUInt32 (Int32.ofInt 1) &&& Int32.toUInt32 31)).toInt32) &&& (1431655765 : Int32))) &&& (858993459 : Int32)) + (((Int32.toUInt32 (v0 - (((Int32.toUInt32 v0 >>> (Int32.toUInt32 (Int32.ofInt 1) &&& Int32.toUInt32 31)).toInt32) &&& (1431655765 : Int32))) >>> (Int32.toUInt32 (Int32.ofInt 2) &&& Int32.toUInt32 31)).toInt32) &&& (858993459 : Int32))) + ((Int32.toUInt32 (((v0 - (((Int32.toUInt32 v0 >>> (Int32.toUInt32 (Int32.ofInt 1) &&& Int32.toUInt32 31)).toInt32) &&& (1431655765 : Int32))) &&& (858993459 : Int32)) + (((Int32.toUInt32 (v0 - (((Int32.toUInt32 v0 >>> (Int32.toUInt32 (Int32.ofInt 1) &&& Int32.toUInt32 31)).toInt32) &&& (1431655765 : Int32))) >>> (Int32.toUInt32 (Int32.ofInt 2) &&& Int32.toUInt32 31)).toInt32) &&& (858993459 : Int32))) >>> (Int32.toUInt32 (Int32.ofInt 4) &&& Int32.toUInt32 31)).toInt32)) &&& (252645135 : Int32)) >>> (Int32.toUInt32 ((Int8.ofInt 8).toInt32) &&& Int32.toUInt32 31)).toInt32)) >>> (Int32.toUInt32 ((Int8.ofInt 16).toInt32) &&& Int32.toUInt32 31)).toInt32)))]) rfl (q := 48) rfl ?_
  refine xr_iload_n i_J6_bitCount_0f7a4_48 rfl (q := 49) rfl ?_
  refine xr_bipush i_J6_bitCount_0f7a4_49 (q := 51) rfl ?_
  refine xr_iand i_J6_bitCount_0f7a4_51 (q := 52) rfl ?_
  exact xr_ireturn i_J6_bitCount_0f7a4_52 rfl h
set_option maxRecDepth 100000 in
theorem po_J6_bitCount_0f7a4 {l : Launch} {E : xi_E} {S : xi_S} {D : va_G} {tys : List (ClassId × FieldType)} (hC : xCx E S tys) : xi_Pok l E S D vwCl tys xNs RJ6 xTs cJ6_bitCount_0f7a4 1 0 (P_J6_bitCount_0f7a4 S) := ⟨xi_dc_ok, by rw [hC.2]; exact xfo_J6, xkio_J6, xklo_J6, xi_calls_ok (ins := .invokestatic) (fun _ h => absurd h List.not_mem_nil), xi_calls_ok (ins := .invokevirtual) (fun _ h => absurd h List.not_mem_nil)⟩
theorem sn_J6_bitCount_0f7a4 {l : Launch} {E : xi_E} {S : xi_S} {D : va_G} {tys : List (ClassId × FieldType)} (hC : xCx E S tys) : ∀ As m1 r m2, F_J6_bitCount_0f7a4 S As m1 = some (r, m2) → xi_Sound l E S D vwCl tys xNs xTs yJ6_bitCount_0f7a4 cJ6_bitCount_0f7a4 1 (some .int) 0 As m1 r m2 := by
  intro As m1 r m2 h
  unfold F_J6_bitCount_0f7a4 at h
  split at h
  · exact xi_meth (P := P_J6_bitCount_0f7a4 S) (by decide) hC.1 (po_J6_bitCount_0f7a4 hC) (Nat.le_of_ble_eq_true rfl) rfl (xe_J6_bitCount_0f7a4 _ _ h)
  · exact xi_no h
theorem i_X6_advantage_0 : xi_dc cX6_advantage 0 = some (.aload_n 0, 1) := by decide +kernel
theorem i_X6_advantage_1 : xi_dc cX6_advantage 1 = some (.iload_n 2, 1) := by decide +kernel
theorem i_X6_advantage_2 : xi_dc cX6_advantage 2 = some (.invokevirtual 108, 3) := by decide +kernel
theorem i_X6_advantage_5 : xi_dc cX6_advantage 5 = some (.istore_n 3, 1) := by decide +kernel
theorem i_X6_advantage_6 : xi_dc cX6_advantage 6 = some (.aload_n 0, 1) := by decide +kernel
theorem i_X6_advantage_7 : xi_dc cX6_advantage 7 = some (.iload_n 1, 1) := by decide +kernel
theorem i_X6_advantage_8 : xi_dc cX6_advantage 8 = some (.invokevirtual 111, 3) := by decide +kernel
theorem i_X6_advantage_11 : xi_dc cX6_advantage 11 = some (.istore 4, 2) := by decide +kernel
theorem i_X6_advantage_13 : xi_dc cX6_advantage 13 = some (.iload_n 3, 1) := by decide +kernel
theorem i_X6_advantage_14 : xi_dc cX6_advantage 14 = some (.iload 4, 2) := by decide +kernel
theorem i_X6_advantage_16 : xi_dc cX6_advantage 16 = some (.iand, 1) := by decide +kernel
theorem i_X6_advantage_17 : xi_dc cX6_advantage 17 = some (.invokestatic 114, 3) := by decide +kernel
theorem i_X6_advantage_20 : xi_dc cX6_advantage 20 = some (.iload_n 3, 1) := by decide +kernel
theorem i_X6_advantage_21 : xi_dc cX6_advantage 21 = some (.iload 4, 2) := by decide +kernel
theorem i_X6_advantage_23 : xi_dc cX6_advantage 23 = some (.iconst (-1), 1) := by decide +kernel
theorem i_X6_advantage_24 : xi_dc cX6_advantage 24 = some (.ixor, 1) := by decide +kernel
theorem i_X6_advantage_25 : xi_dc cX6_advantage 25 = some (.iand, 1) := by decide +kernel
theorem i_X6_advantage_26 : xi_dc cX6_advantage 26 = some (.invokestatic 114, 3) := by decide +kernel
theorem i_X6_advantage_29 : xi_dc cX6_advantage 29 = some (.isub, 1) := by decide +kernel
theorem i_X6_advantage_30 : xi_dc cX6_advantage 30 = some (.ireturn, 1) := by decide +kernel
def P_X6_advantage (S : xi_S) : xi_P := (xi_dc cX6_advantage, xi_tab xfl_X6, xi_tab xki_X6, xi_tab xkl_X6, xi_tab xcs_X6, xi_tab xcv_X6, xi_calls [(114, xi_wS 1 (F_J6_bitCount_0f7a4 S))], xi_calls [(108, xi_wV S 8 1 (F_X6_scorers S)), (111, xi_wV S 8 1 (F_X6_membersOf S))], 1)
theorem cc_X6_advantage_114 (S : xi_S) (a0 : Int32) (m : xi_M) : (P_X6_advantage S).2.2.2.2.2.2.1 114 [.int a0] m = (E_J6_bitCount_0f7a4 S a0 m) := by
  show xi_calls [(114, xi_wS 1 (F_J6_bitCount_0f7a4 S))] 114 [.int a0] m = _
  refine Eq.trans (b := xi_wS 1 (F_J6_bitCount_0f7a4 S) [.int a0] m) (xi_calls_hit rfl) ?_
  exact xi_wS_eq rfl
theorem cc_X6_advantage_108 (S : xi_S) (a0 : Nat) (a1 : Int32) (m : xi_M) : (P_X6_advantage S).2.2.2.2.2.2.2.1 108 [.ref a0, .int a1] m = (if S.1 a0 = 8 then E_X6_scorers S a0 a1 m else none) := by
  show xi_calls [(108, xi_wV S 8 1 (F_X6_scorers S)), (111, xi_wV S 8 1 (F_X6_membersOf S))] 108 [.ref a0, .int a1] m = _
  refine Eq.trans (b := xi_wV S 8 1 (F_X6_scorers S) [.ref a0, .int a1] m) (xi_calls_hit rfl) ?_
  exact xi_wV_eq rfl
theorem cc_X6_advantage_111 (S : xi_S) (a0 : Nat) (a1 : Int32) (m : xi_M) : (P_X6_advantage S).2.2.2.2.2.2.2.1 111 [.ref a0, .int a1] m = (if S.1 a0 = 8 then E_X6_membersOf S a0 a1 m else none) := by
  show xi_calls [(108, xi_wV S 8 1 (F_X6_scorers S)), (111, xi_wV S 8 1 (F_X6_membersOf S))] 111 [.ref a0, .int a1] m = _
  refine Eq.trans (b := xi_calls [(111, xi_wV S 8 1 (F_X6_membersOf S))] 111 [.ref a0, .int a1] m) (xi_calls_miss rfl) ?_
  refine Eq.trans (b := xi_wV S 8 1 (F_X6_membersOf S) [.ref a0, .int a1] m) (xi_calls_hit rfl) ?_
  exact xi_wV_eq rfl
def E_X6_advantage (S : xi_S) (v0 : Nat) (v1 : Int32) (v2 : Int32) (m : xi_M) : Option xi_R :=
  xi_bI (if S.1 v0 = 8 then E_X6_scorers S v0 v2 m else none) fun x2 m1 =>
  xi_bI (if S.1 v0 = 8 then E_X6_membersOf S v0 v1 m1 else none) fun x4 m3 =>
  xi_bI (E_J6_bitCount_0f7a4 S (x2 &&& x4) m3) fun x6 m5 =>
  xi_bI (E_J6_bitCount_0f7a4 S (x2 &&& (x4 ^^^ (Int32.ofInt (-1)))) m5) fun x8 m7 =>
  some (some (.int (x6 - x8)), m7)
def F_X6_advantage (S : xi_S) : xi_F := fun As m => match As with
  | [.ref v0, .int v1, .int v2] => E_X6_advantage S v0 v1 v2 m
  | _ => none
set_option maxRecDepth 100000 in
set_option maxHeartbeats 4000000 in
theorem xe_X6_advantage {S : xi_S} {res : xi_R} (v0 : Nat) (v1 : Int32) (v2 : Int32) (m : xi_M) (h : E_X6_advantage S v0 v1 v2 m = some res) : xi_X S (P_X6_advantage S) (0, [some (.ref v0), some (.int v1), some (.int v2), none, none], [], m) res := by
  unfold E_X6_advantage at h
  refine xr_aload_n i_X6_advantage_0 rfl (q := 1) rfl ?_
  refine xr_iload_n i_X6_advantage_1 rfl (q := 2) rfl ?_
  obtain ⟨x2, m1, em1, h⟩ := xi_bI_some h
  refine xr_VI i_X6_advantage_2 xcve_X6_108 rfl (As := [.ref v0, .int v2]) rfl (rest := []) rfl ((cc_X6_advantage_108 S _ _ _).trans em1) (q := 5) rfl ?_
  refine xr_istore_n i_X6_advantage_5 rfl (L2 := [some (.ref v0), some (.int v1), some (.int v2), some (.int x2), none]) rfl (q := 6) rfl ?_
  refine xr_aload_n i_X6_advantage_6 rfl (q := 7) rfl ?_
  refine xr_iload_n i_X6_advantage_7 rfl (q := 8) rfl ?_
  obtain ⟨x4, m3, em3, h⟩ := xi_bI_some h
  refine xr_VI i_X6_advantage_8 xcve_X6_111 rfl (As := [.ref v0, .int v1]) rfl (rest := []) rfl ((cc_X6_advantage_111 S _ _ _).trans em3) (q := 11) rfl ?_
  refine xr_istore i_X6_advantage_11 rfl (L2 := [some (.ref v0), some (.int v1), some (.int v2), some (.int x2), some (.int x4)]) rfl (q := 13) rfl ?_
  refine xr_iload_n i_X6_advantage_13 rfl (q := 14) rfl ?_
  refine xr_iload i_X6_advantage_14 rfl (q := 16) rfl ?_
  refine xr_iand i_X6_advantage_16 (q := 17) rfl ?_
  obtain ⟨x6, m5, em5, h⟩ := xi_bI_some h
  refine xr_SI i_X6_advantage_17 xcse_X6_114 rfl (As := [.int (x2 &&& x4)]) rfl (rest := []) rfl ((cc_X6_advantage_114 S _ _).trans em5) (q := 20) rfl ?_
  refine xr_iload_n i_X6_advantage_20 rfl (q := 21) rfl ?_
  refine xr_iload i_X6_advantage_21 rfl (q := 23) rfl ?_
  refine xr_iconst i_X6_advantage_23 (q := 24) rfl ?_
  refine xr_ixor i_X6_advantage_24 (q := 25) rfl ?_
  refine xr_iand i_X6_advantage_25 (q := 26) rfl ?_
  obtain ⟨x8, m7, em7, h⟩ := xi_bI_some h
  refine xr_SI i_X6_advantage_26 xcse_X6_114 rfl (As := [.int (x2 &&& (x4 ^^^ (Int32.ofInt (-1))))]) rfl (rest := [.int x6]) rfl ((cc_X6_advantage_114 S _ _).trans em7) (q := 29) rfl ?_
  refine xr_isub i_X6_advantage_29 (q := 30) rfl ?_
  exact xr_ireturn i_X6_advantage_30 rfl h
set_option maxRecDepth 100000 in
theorem po_X6_advantage {l : Launch} {E : xi_E} {S : xi_S} {D : va_G} {tys : List (ClassId × FieldType)} (hC : xCx E S tys) : xi_Pok l E S D vwCl tys xNs RX6 xTs cX6_advantage 5 5 (P_X6_advantage S) := ⟨xi_dc_ok, by rw [hC.2]; exact xfo_X6, xkio_X6, xklo_X6, xi_calls_ok (ins := .invokestatic) (List.forall_mem_cons.mpr ⟨(xc_X6_114 (sn_J6_bitCount_0f7a4 hC) (by decide)), fun _ h => absurd h List.not_mem_nil⟩), xi_calls_ok (ins := .invokevirtual) (List.forall_mem_cons.mpr ⟨(xc_X6_108 hC.1 (sn_X6_scorers hC) (by decide)), List.forall_mem_cons.mpr ⟨(xc_X6_111 hC.1 (sn_X6_membersOf hC) (by decide)), fun _ h => absurd h List.not_mem_nil⟩⟩)⟩
theorem sn_X6_advantage {l : Launch} {E : xi_E} {S : xi_S} {D : va_G} {tys : List (ClassId × FieldType)} (hC : xCx E S tys) : ∀ As m1 r m2, F_X6_advantage S As m1 = some (r, m2) → xi_Sound l E S D vwCl tys xNs xTs yX6_advantage cX6_advantage 5 (some .int) 5 As m1 r m2 := by
  intro As m1 r m2 h
  unfold F_X6_advantage at h
  split at h
  · exact xi_meth (P := P_X6_advantage S) (by decide) hC.1 (po_X6_advantage hC) (Nat.le_of_ble_eq_true rfl) rfl (xe_X6_advantage _ _ _ _ h)
  · exact xi_no h
theorem i_X6_strengthOf_0 : xi_dc cX6_strengthOf 0 = some (.iconst 0, 1) := by decide +kernel
theorem i_X6_strengthOf_1 : xi_dc cX6_strengthOf 1 = some (.istore_n 2, 1) := by decide +kernel
theorem i_X6_strengthOf_2 : xi_dc cX6_strengthOf 2 = some (.iconst 0, 1) := by decide +kernel
theorem i_X6_strengthOf_3 : xi_dc cX6_strengthOf 3 = some (.istore_n 3, 1) := by decide +kernel
theorem i_X6_strengthOf_4 : xi_dc cX6_strengthOf 4 = some (.iload_n 3, 1) := by decide +kernel
theorem i_X6_strengthOf_5 : xi_dc cX6_strengthOf 5 = some (.aload_n 0, 1) := by decide +kernel
theorem i_X6_strengthOf_6 : xi_dc cX6_strengthOf 6 = some (.getfield 43, 3) := by decide +kernel
theorem i_X6_strengthOf_9 : xi_dc cX6_strengthOf 9 = some (.if_icmp .ge 27, 3) := by decide +kernel
theorem t_X6_strengthOf_9 : ((9 : Nat) : Int) + 27 = ((36 : Nat) : Int) := by decide +kernel
theorem i_X6_strengthOf_12 : xi_dc cX6_strengthOf 12 = some (.iload_n 1, 1) := by decide +kernel
theorem i_X6_strengthOf_13 : xi_dc cX6_strengthOf 13 = some (.iload_n 3, 1) := by decide +kernel
theorem i_X6_strengthOf_14 : xi_dc cX6_strengthOf 14 = some (.ishr, 1) := by decide +kernel
theorem i_X6_strengthOf_15 : xi_dc cX6_strengthOf 15 = some (.iconst 1, 1) := by decide +kernel
theorem i_X6_strengthOf_16 : xi_dc cX6_strengthOf 16 = some (.iand, 1) := by decide +kernel
theorem i_X6_strengthOf_17 : xi_dc cX6_strengthOf 17 = some (.iconst 1, 1) := by decide +kernel
theorem i_X6_strengthOf_18 : xi_dc cX6_strengthOf 18 = some (.if_icmp .ne 12, 3) := by decide +kernel
theorem t_X6_strengthOf_18 : ((18 : Nat) : Int) + 12 = ((30 : Nat) : Int) := by decide +kernel
theorem i_X6_strengthOf_21 : xi_dc cX6_strengthOf 21 = some (.iload_n 2, 1) := by decide +kernel
theorem i_X6_strengthOf_22 : xi_dc cX6_strengthOf 22 = some (.aload_n 0, 1) := by decide +kernel
theorem i_X6_strengthOf_23 : xi_dc cX6_strengthOf 23 = some (.getfield 27, 3) := by decide +kernel
theorem i_X6_strengthOf_26 : xi_dc cX6_strengthOf 26 = some (.iload_n 3, 1) := by decide +kernel
theorem i_X6_strengthOf_27 : xi_dc cX6_strengthOf 27 = some (.iaload, 1) := by decide +kernel
theorem i_X6_strengthOf_28 : xi_dc cX6_strengthOf 28 = some (.iadd, 1) := by decide +kernel
theorem i_X6_strengthOf_29 : xi_dc cX6_strengthOf 29 = some (.istore_n 2, 1) := by decide +kernel
theorem i_X6_strengthOf_30 : xi_dc cX6_strengthOf 30 = some (.iinc 3 1, 3) := by decide +kernel
theorem i_X6_strengthOf_33 : xi_dc cX6_strengthOf 33 = some (.goto (-29), 3) := by decide +kernel
theorem t_X6_strengthOf_33 : ((33 : Nat) : Int) + (-29) = ((4 : Nat) : Int) := by decide +kernel
theorem i_X6_strengthOf_36 : xi_dc cX6_strengthOf 36 = some (.iload_n 2, 1) := by decide +kernel
theorem i_X6_strengthOf_37 : xi_dc cX6_strengthOf 37 = some (.ireturn, 1) := by decide +kernel
def P_X6_strengthOf (S : xi_S) : xi_P := (xi_dc cX6_strengthOf, xi_tab xfl_X6, xi_tab xki_X6, xi_tab xkl_X6, xi_tab xcs_X6, xi_tab xcv_X6, xi_calls [], xi_calls [], 1)
def G_X6_strengthOf_4 (S : xi_S) : Nat → Nat → Int32 → Int32 → Int32 → xi_M → Option xi_R
  | 0, _, _, _, _, _ => none
  | n + 1, v0, v1, v2, v3, m =>
    if S.1 v0 = 8 then
      if (m.1 v0 1) ≤ v3 then
        some (some (.int v2), m)
      else
        if ((v1 >>> (v3 &&& 31)) &&& (Int32.ofInt 1)) = (Int32.ofInt 1) then
          if S.1 v0 = 8 then (S.2.2 v0 10).bind fun b3 =>
            if S.1 b3 = 0 ∧ ¬ (v3 < 0 ∨ S.2.1 b3 ≤ Int32.toNatClampNeg v3) then
              G_X6_strengthOf_4 S n v0 v1 (v2 + (m.1 b3 (Int32.toNatClampNeg v3))) (v3 + Int32.ofInt 1) m
            else none
          else none
        else
          G_X6_strengthOf_4 S n v0 v1 v2 (v3 + Int32.ofInt 1) m
    else none
set_option maxRecDepth 100000 in
set_option maxHeartbeats 4000000 in
theorem xs_X6_strengthOf_4 {S : xi_S} {res : xi_R} : ∀ (n : Nat) (v0 : Nat) (v1 : Int32) (v2 : Int32) (v3 : Int32) (m : xi_M), G_X6_strengthOf_4 S n v0 v1 v2 v3 m = some res → xi_X S (P_X6_strengthOf S) (4, [some (.ref v0), some (.int v1), some (.int v2), some (.int v3)], [], m) res := by
  intro n
  induction n with
  | zero => intro v0 v1 v2 v3 m h; exact xi_no h
  | succ n ih =>
    intro v0 v1 v2 v3 m h
    unfold G_X6_strengthOf_4 at h
    refine xr_iload_n i_X6_strengthOf_4 rfl (q := 5) rfl ?_
    refine xr_aload_n i_X6_strengthOf_5 rfl (q := 6) rfl ?_
    obtain ⟨c1, h⟩ := xi_if_some h
    refine xr_getI i_X6_strengthOf_6 xfe_X6_43 c1 (q := 9) rfl ?_
    by_cases c6 : (m.1 v0 1) ≤ v3
    · replace h := (if_pos c6).symm.trans h
      refine xr_if_icmp_ge_p i_X6_strengthOf_9 c6 (q := 36) t_X6_strengthOf_9 (q2 := 12) rfl ?_
      refine xr_iload_n i_X6_strengthOf_36 rfl (q := 37) rfl ?_
      exact xr_ireturn i_X6_strengthOf_37 rfl h
    · replace h := (if_neg c6).symm.trans h
      refine xr_if_icmp_ge_n i_X6_strengthOf_9 c6 (q := 36) t_X6_strengthOf_9 (q2 := 12) rfl ?_
      refine xr_iload_n i_X6_strengthOf_12 rfl (q := 13) rfl ?_
      refine xr_iload_n i_X6_strengthOf_13 rfl (q := 14) rfl ?_
      refine xr_ishr i_X6_strengthOf_14 (q := 15) rfl ?_
      refine xr_iconst i_X6_strengthOf_15 (q := 16) rfl ?_
      refine xr_iand i_X6_strengthOf_16 (q := 17) rfl ?_
      refine xr_iconst i_X6_strengthOf_17 (q := 18) rfl ?_
      by_cases c5 : ((v1 >>> (v3 &&& 31)) &&& (Int32.ofInt 1)) = (Int32.ofInt 1)
      · replace h := (if_pos c5).symm.trans h
        refine xr_if_icmp_ne_p i_X6_strengthOf_18 c5 (q := 30) t_X6_strengthOf_18 (q2 := 21) rfl ?_
        refine xr_iload_n i_X6_strengthOf_21 rfl (q := 22) rfl ?_
        refine xr_aload_n i_X6_strengthOf_22 rfl (q := 23) rfl ?_
        obtain ⟨c2, h⟩ := xi_if_some h
        obtain ⟨b3, eb3, h⟩ := xi_bind_some h
        refine xr_getR i_X6_strengthOf_23 xfe_X6_27 c2 eb3 (q := 26) rfl ?_
        refine xr_iload_n i_X6_strengthOf_26 rfl (q := 27) rfl ?_
        obtain ⟨c4, h⟩ := xi_if_some h
        refine xr_iaload i_X6_strengthOf_27 c4 (q := 28) rfl ?_
        refine xr_iadd i_X6_strengthOf_28 (q := 29) rfl ?_
        refine xr_istore_n i_X6_strengthOf_29 rfl (L2 := [some (.ref v0), some (.int v1), some (.int (v2 + (m.1 b3 (Int32.toNatClampNeg v3)))), some (.int v3)]) rfl (q := 30) rfl ?_
        refine xr_iinc i_X6_strengthOf_30 rfl rfl (L2 := [some (.ref v0), some (.int v1), some (.int (v2 + (m.1 b3 (Int32.toNatClampNeg v3)))), some (.int (v3 + Int32.ofInt 1))]) rfl (q := 33) rfl ?_
        refine xr_goto i_X6_strengthOf_33 (q := 4) t_X6_strengthOf_33 ?_
        exact xi_X_le (xi_le_s (xi_le_s (xi_le_s (xi_le_s xi_le_z)))) (ih _ _ _ _ _ h)
      · replace h := (if_neg c5).symm.trans h
        refine xr_if_icmp_ne_n i_X6_strengthOf_18 c5 (q := 30) t_X6_strengthOf_18 (q2 := 21) rfl ?_
        refine xr_iinc i_X6_strengthOf_30 rfl rfl (L2 := [some (.ref v0), some (.int v1), some (.int v2), some (.int (v3 + Int32.ofInt 1))]) rfl (q := 33) rfl ?_
        refine xr_goto i_X6_strengthOf_33 (q := 4) t_X6_strengthOf_33 ?_
        exact xi_X_le (xi_le_s (xi_le_s (xi_le_s (xi_le_s xi_le_z)))) (ih _ _ _ _ _ h)
def E_X6_strengthOf (S : xi_S) (v0 : Nat) (v1 : Int32) (m : xi_M) : Option xi_R :=
  G_X6_strengthOf_4 S 10000 v0 v1 (Int32.ofInt 0) (Int32.ofInt 0) m
def F_X6_strengthOf (S : xi_S) : xi_F := fun As m => match As with
  | [.ref v0, .int v1] => E_X6_strengthOf S v0 v1 m
  | _ => none
set_option maxRecDepth 100000 in
set_option maxHeartbeats 4000000 in
theorem xe_X6_strengthOf {S : xi_S} {res : xi_R} (v0 : Nat) (v1 : Int32) (m : xi_M) (h : E_X6_strengthOf S v0 v1 m = some res) : xi_X S (P_X6_strengthOf S) (0, [some (.ref v0), some (.int v1), none, none], [], m) res := by
  unfold E_X6_strengthOf at h
  refine xr_iconst i_X6_strengthOf_0 (q := 1) rfl ?_
  refine xr_istore_n i_X6_strengthOf_1 rfl (L2 := [some (.ref v0), some (.int v1), some (.int (Int32.ofInt 0)), none]) rfl (q := 2) rfl ?_
  refine xr_iconst i_X6_strengthOf_2 (q := 3) rfl ?_
  refine xr_istore_n i_X6_strengthOf_3 rfl (L2 := [some (.ref v0), some (.int v1), some (.int (Int32.ofInt 0)), some (.int (Int32.ofInt 0))]) rfl (q := 4) rfl ?_
  exact xi_X_le (xi_le_s (xi_le_s (xi_le_s (xi_le_s xi_le_z)))) (xs_X6_strengthOf_4 10000 _ _ _ _ _ h)
set_option maxRecDepth 100000 in
theorem po_X6_strengthOf {l : Launch} {E : xi_E} {S : xi_S} {D : va_G} {tys : List (ClassId × FieldType)} (hC : xCx E S tys) : xi_Pok l E S D vwCl tys xNs RX6 xTs cX6_strengthOf 4 0 (P_X6_strengthOf S) := ⟨xi_dc_ok, by rw [hC.2]; exact xfo_X6, xkio_X6, xklo_X6, xi_calls_ok (ins := .invokestatic) (fun _ h => absurd h List.not_mem_nil), xi_calls_ok (ins := .invokevirtual) (fun _ h => absurd h List.not_mem_nil)⟩
theorem sn_X6_strengthOf {l : Launch} {E : xi_E} {S : xi_S} {D : va_G} {tys : List (ClassId × FieldType)} (hC : xCx E S tys) : ∀ As m1 r m2, F_X6_strengthOf S As m1 = some (r, m2) → xi_Sound l E S D vwCl tys xNs xTs yX6_strengthOf cX6_strengthOf 4 (some .int) 0 As m1 r m2 := by
  intro As m1 r m2 h
  unfold F_X6_strengthOf at h
  split at h
  · exact xi_meth (P := P_X6_strengthOf S) (by decide) hC.1 (po_X6_strengthOf hC) (Nat.le_of_ble_eq_true rfl) rfl (xe_X6_strengthOf _ _ _ h)
  · exact xi_no h
theorem i_X6_fact_0 : xi_dc cX6_fact 0 = some (.iload_n 2, 1) := by decide +kernel
theorem i_X6_fact_1 : xi_dc cX6_fact 1 = some (.tableswitch 101 0 5 #[39, 46, 53, 60, 67, 73], 39) := by decide +kernel
theorem i_X6_fact_40 : xi_dc cX6_fact 40 = some (.aload_n 0, 1) := by decide +kernel
theorem i_X6_fact_41 : xi_dc cX6_fact 41 = some (.getfield 18, 3) := by decide +kernel
theorem i_X6_fact_44 : xi_dc cX6_fact 44 = some (.iload_n 1, 1) := by decide +kernel
theorem i_X6_fact_45 : xi_dc cX6_fact 45 = some (.iaload, 1) := by decide +kernel
theorem i_X6_fact_46 : xi_dc cX6_fact 46 = some (.ireturn, 1) := by decide +kernel
theorem i_X6_fact_47 : xi_dc cX6_fact 47 = some (.aload_n 0, 1) := by decide +kernel
theorem i_X6_fact_48 : xi_dc cX6_fact 48 = some (.getfield 21, 3) := by decide +kernel
theorem i_X6_fact_51 : xi_dc cX6_fact 51 = some (.iload_n 1, 1) := by decide +kernel
theorem i_X6_fact_52 : xi_dc cX6_fact 52 = some (.iaload, 1) := by decide +kernel
theorem i_X6_fact_53 : xi_dc cX6_fact 53 = some (.ireturn, 1) := by decide +kernel
theorem i_X6_fact_54 : xi_dc cX6_fact 54 = some (.aload_n 0, 1) := by decide +kernel
theorem i_X6_fact_55 : xi_dc cX6_fact 55 = some (.getfield 24, 3) := by decide +kernel
theorem i_X6_fact_58 : xi_dc cX6_fact 58 = some (.iload_n 1, 1) := by decide +kernel
theorem i_X6_fact_59 : xi_dc cX6_fact 59 = some (.iaload, 1) := by decide +kernel
theorem i_X6_fact_60 : xi_dc cX6_fact 60 = some (.ireturn, 1) := by decide +kernel
theorem i_X6_fact_61 : xi_dc cX6_fact 61 = some (.aload_n 0, 1) := by decide +kernel
theorem i_X6_fact_62 : xi_dc cX6_fact 62 = some (.getfield 27, 3) := by decide +kernel
theorem i_X6_fact_65 : xi_dc cX6_fact 65 = some (.iload_n 1, 1) := by decide +kernel
theorem i_X6_fact_66 : xi_dc cX6_fact 66 = some (.iaload, 1) := by decide +kernel
theorem i_X6_fact_67 : xi_dc cX6_fact 67 = some (.ireturn, 1) := by decide +kernel
theorem i_X6_fact_68 : xi_dc cX6_fact 68 = some (.aload_n 0, 1) := by decide +kernel
theorem i_X6_fact_69 : xi_dc cX6_fact 69 = some (.iload_n 1, 1) := by decide +kernel
theorem i_X6_fact_70 : xi_dc cX6_fact 70 = some (.invokevirtual 73, 3) := by decide +kernel
theorem i_X6_fact_73 : xi_dc cX6_fact 73 = some (.ireturn, 1) := by decide +kernel
theorem i_X6_fact_74 : xi_dc cX6_fact 74 = some (.aload_n 0, 1) := by decide +kernel
theorem i_X6_fact_75 : xi_dc cX6_fact 75 = some (.iload_n 1, 1) := by decide +kernel
theorem i_X6_fact_76 : xi_dc cX6_fact 76 = some (.iconst 0, 1) := by decide +kernel
theorem i_X6_fact_77 : xi_dc cX6_fact 77 = some (.invokevirtual 102, 3) := by decide +kernel
theorem i_X6_fact_80 : xi_dc cX6_fact 80 = some (.aload_n 0, 1) := by decide +kernel
theorem i_X6_fact_81 : xi_dc cX6_fact 81 = some (.iconst 1, 1) := by decide +kernel
theorem i_X6_fact_82 : xi_dc cX6_fact 82 = some (.aload_n 0, 1) := by decide +kernel
theorem i_X6_fact_83 : xi_dc cX6_fact 83 = some (.getfield 21, 3) := by decide +kernel
theorem i_X6_fact_86 : xi_dc cX6_fact 86 = some (.iload_n 1, 1) := by decide +kernel
theorem i_X6_fact_87 : xi_dc cX6_fact 87 = some (.iaload, 1) := by decide +kernel
theorem i_X6_fact_88 : xi_dc cX6_fact 88 = some (.isub, 1) := by decide +kernel
theorem i_X6_fact_89 : xi_dc cX6_fact 89 = some (.invokevirtual 105, 3) := by decide +kernel
theorem i_X6_fact_92 : xi_dc cX6_fact 92 = some (.iand, 1) := by decide +kernel
theorem i_X6_fact_93 : xi_dc cX6_fact 93 = some (.ifCond .eq 7, 3) := by decide +kernel
theorem t_X6_fact_93 : ((93 : Nat) : Int) + 7 = ((100 : Nat) : Int) := by decide +kernel
theorem i_X6_fact_96 : xi_dc cX6_fact 96 = some (.iconst 1, 1) := by decide +kernel
theorem i_X6_fact_97 : xi_dc cX6_fact 97 = some (.goto 4, 3) := by decide +kernel
theorem t_X6_fact_97 : ((97 : Nat) : Int) + 4 = ((101 : Nat) : Int) := by decide +kernel
theorem i_X6_fact_100 : xi_dc cX6_fact 100 = some (.iconst 0, 1) := by decide +kernel
theorem i_X6_fact_101 : xi_dc cX6_fact 101 = some (.ireturn, 1) := by decide +kernel
theorem i_X6_fact_102 : xi_dc cX6_fact 102 = some (.aload_n 0, 1) := by decide +kernel
theorem i_X6_fact_103 : xi_dc cX6_fact 103 = some (.getfield 18, 3) := by decide +kernel
theorem i_X6_fact_106 : xi_dc cX6_fact 106 = some (.iload_n 1, 1) := by decide +kernel
theorem i_X6_fact_107 : xi_dc cX6_fact 107 = some (.iaload, 1) := by decide +kernel
theorem i_X6_fact_108 : xi_dc cX6_fact 108 = some (.aload_n 0, 1) := by decide +kernel
theorem i_X6_fact_109 : xi_dc cX6_fact 109 = some (.getfield 27, 3) := by decide +kernel
theorem i_X6_fact_112 : xi_dc cX6_fact 112 = some (.iload_n 1, 1) := by decide +kernel
theorem i_X6_fact_113 : xi_dc cX6_fact 113 = some (.iaload, 1) := by decide +kernel
theorem i_X6_fact_114 : xi_dc cX6_fact 114 = some (.invokestatic 82, 3) := by decide +kernel
theorem i_X6_fact_117 : xi_dc cX6_fact 117 = some (.ireturn, 1) := by decide +kernel
def P_X6_fact (S : xi_S) : xi_P := (xi_dc cX6_fact, xi_tab xfl_X6, xi_tab xki_X6, xi_tab xkl_X6, xi_tab xcs_X6, xi_tab xcv_X6, xi_calls [(82, xi_wS 2 (F_X4_reach S))], xi_calls [(73, xi_wV S 8 1 (F_X6_landing S)), (102, xi_wV S 8 2 (F_X6_ballBit S)), (105, xi_wV S 8 1 (F_X6_inPlaces S))], 1)
theorem cc_X6_fact_82 (S : xi_S) (a0 : Int32) (a1 : Int32) (m : xi_M) : (P_X6_fact S).2.2.2.2.2.2.1 82 [.int a0, .int a1] m = (E_X4_reach S a0 a1 m) := by
  show xi_calls [(82, xi_wS 2 (F_X4_reach S))] 82 [.int a0, .int a1] m = _
  refine Eq.trans (b := xi_wS 2 (F_X4_reach S) [.int a0, .int a1] m) (xi_calls_hit rfl) ?_
  exact xi_wS_eq rfl
theorem cc_X6_fact_73 (S : xi_S) (a0 : Nat) (a1 : Int32) (m : xi_M) : (P_X6_fact S).2.2.2.2.2.2.2.1 73 [.ref a0, .int a1] m = (if S.1 a0 = 8 then E_X6_landing S a0 a1 m else none) := by
  show xi_calls [(73, xi_wV S 8 1 (F_X6_landing S)), (102, xi_wV S 8 2 (F_X6_ballBit S)), (105, xi_wV S 8 1 (F_X6_inPlaces S))] 73 [.ref a0, .int a1] m = _
  refine Eq.trans (b := xi_wV S 8 1 (F_X6_landing S) [.ref a0, .int a1] m) (xi_calls_hit rfl) ?_
  exact xi_wV_eq rfl
theorem cc_X6_fact_102 (S : xi_S) (a0 : Nat) (a1 : Int32) (a2 : Int32) (m : xi_M) : (P_X6_fact S).2.2.2.2.2.2.2.1 102 [.ref a0, .int a1, .int a2] m = (if S.1 a0 = 8 then E_X6_ballBit S a0 a1 a2 m else none) := by
  show xi_calls [(73, xi_wV S 8 1 (F_X6_landing S)), (102, xi_wV S 8 2 (F_X6_ballBit S)), (105, xi_wV S 8 1 (F_X6_inPlaces S))] 102 [.ref a0, .int a1, .int a2] m = _
  refine Eq.trans (b := xi_calls [(102, xi_wV S 8 2 (F_X6_ballBit S)), (105, xi_wV S 8 1 (F_X6_inPlaces S))] 102 [.ref a0, .int a1, .int a2] m) (xi_calls_miss rfl) ?_
  refine Eq.trans (b := xi_wV S 8 2 (F_X6_ballBit S) [.ref a0, .int a1, .int a2] m) (xi_calls_hit rfl) ?_
  exact xi_wV_eq rfl
theorem cc_X6_fact_105 (S : xi_S) (a0 : Nat) (a1 : Int32) (m : xi_M) : (P_X6_fact S).2.2.2.2.2.2.2.1 105 [.ref a0, .int a1] m = (if S.1 a0 = 8 then E_X6_inPlaces S a0 a1 m else none) := by
  show xi_calls [(73, xi_wV S 8 1 (F_X6_landing S)), (102, xi_wV S 8 2 (F_X6_ballBit S)), (105, xi_wV S 8 1 (F_X6_inPlaces S))] 105 [.ref a0, .int a1] m = _
  refine Eq.trans (b := xi_calls [(102, xi_wV S 8 2 (F_X6_ballBit S)), (105, xi_wV S 8 1 (F_X6_inPlaces S))] 105 [.ref a0, .int a1] m) (xi_calls_miss rfl) ?_
  refine Eq.trans (b := xi_calls [(105, xi_wV S 8 1 (F_X6_inPlaces S))] 105 [.ref a0, .int a1] m) (xi_calls_miss rfl) ?_
  refine Eq.trans (b := xi_wV S 8 1 (F_X6_inPlaces S) [.ref a0, .int a1] m) (xi_calls_hit rfl) ?_
  exact xi_wV_eq rfl
def E_X6_fact (S : xi_S) (v0 : Nat) (v1 : Int32) (v2 : Int32) (m : xi_M) : Option xi_R :=
  if Int32.toInt v2 = 0 then
    if S.1 v0 = 8 then (S.2.2 v0 7).bind fun b3 =>
      if S.1 b3 = 0 ∧ ¬ (v1 < 0 ∨ S.2.1 b3 ≤ Int32.toNatClampNeg v1) then
        some (some (.int (m.1 b3 (Int32.toNatClampNeg v1))), m)
      else none
    else none
  else
    if Int32.toInt v2 = 1 then
      if S.1 v0 = 8 then (S.2.2 v0 8).bind fun b7 =>
        if S.1 b7 = 0 ∧ ¬ (v1 < 0 ∨ S.2.1 b7 ≤ Int32.toNatClampNeg v1) then
          some (some (.int (m.1 b7 (Int32.toNatClampNeg v1))), m)
        else none
      else none
    else
      if Int32.toInt v2 = 2 then
        if S.1 v0 = 8 then (S.2.2 v0 9).bind fun b11 =>
          if S.1 b11 = 0 ∧ ¬ (v1 < 0 ∨ S.2.1 b11 ≤ Int32.toNatClampNeg v1) then
            some (some (.int (m.1 b11 (Int32.toNatClampNeg v1))), m)
          else none
        else none
      else
        if Int32.toInt v2 = 3 then
          if S.1 v0 = 8 then (S.2.2 v0 10).bind fun b15 =>
            if S.1 b15 = 0 ∧ ¬ (v1 < 0 ∨ S.2.1 b15 ≤ Int32.toNatClampNeg v1) then
              some (some (.int (m.1 b15 (Int32.toNatClampNeg v1))), m)
            else none
          else none
        else
          if Int32.toInt v2 = 4 then
            xi_bI (if S.1 v0 = 8 then E_X6_landing S v0 v1 m else none) fun x19 m18 =>
            some (some (.int x19), m18)
          else
            if Int32.toInt v2 = 5 then
              xi_bI (if S.1 v0 = 8 then E_X6_ballBit S v0 v1 (Int32.ofInt 0) m else none) fun x22 m21 =>
              if S.1 v0 = 8 then (S.2.2 v0 8).bind fun b24 =>
                if S.1 b24 = 0 ∧ ¬ (v1 < 0 ∨ S.2.1 b24 ≤ Int32.toNatClampNeg v1) then
                  xi_bI (if S.1 v0 = 8 then E_X6_inPlaces S v0 ((Int32.ofInt 1) - (m21.1 b24 (Int32.toNatClampNeg v1))) m21 else none) fun x27 m26 =>
                  if (x22 &&& x27) = 0 then
                    some (some (.int (Int32.ofInt 0)), m26)
                  else
                    some (some (.int (Int32.ofInt 1)), m26)
                else none
              else none
            else
              if S.1 v0 = 8 then (S.2.2 v0 7).bind fun b30 =>
                if S.1 b30 = 0 ∧ ¬ (v1 < 0 ∨ S.2.1 b30 ≤ Int32.toNatClampNeg v1) then
                  if S.1 v0 = 8 then (S.2.2 v0 10).bind fun b33 =>
                    if S.1 b33 = 0 ∧ ¬ (v1 < 0 ∨ S.2.1 b33 ≤ Int32.toNatClampNeg v1) then
                      xi_bI (E_X4_reach S (m.1 b30 (Int32.toNatClampNeg v1)) (m.1 b33 (Int32.toNatClampNeg v1)) m) fun x36 m35 =>
                      some (some (.int x36), m35)
                    else none
                  else none
                else none
              else none
def F_X6_fact (S : xi_S) : xi_F := fun As m => match As with
  | [.ref v0, .int v1, .int v2] => E_X6_fact S v0 v1 v2 m
  | _ => none
set_option maxRecDepth 100000 in
set_option maxHeartbeats 4000000 in
theorem xe_X6_fact {S : xi_S} {res : xi_R} (v0 : Nat) (v1 : Int32) (v2 : Int32) (m : xi_M) (h : E_X6_fact S v0 v1 v2 m = some res) : xi_X S (P_X6_fact S) (0, [some (.ref v0), some (.int v1), some (.int v2)], [], m) res := by
  unfold E_X6_fact at h
  refine xr_iload_n i_X6_fact_0 rfl (q := 1) rfl ?_
  by_cases c1 : Int32.toInt v2 = 0
  · replace h := (if_pos c1).symm.trans h
    refine xr_table i_X6_fact_1 rfl (off := 39) (fun kk => xi_sw_hit c1) (q := 40) rfl ?_
    refine xr_aload_n i_X6_fact_40 rfl (q := 41) rfl ?_
    obtain ⟨c2, h⟩ := xi_if_some h
    obtain ⟨b3, eb3, h⟩ := xi_bind_some h
    refine xr_getR i_X6_fact_41 xfe_X6_18 c2 eb3 (q := 44) rfl ?_
    refine xr_iload_n i_X6_fact_44 rfl (q := 45) rfl ?_
    obtain ⟨c4, h⟩ := xi_if_some h
    refine xr_iaload i_X6_fact_45 c4 (q := 46) rfl ?_
    exact xr_ireturn i_X6_fact_46 rfl h
  · replace h := (if_neg c1).symm.trans h
    by_cases c5 : Int32.toInt v2 = 1
    · replace h := (if_pos c5).symm.trans h
      refine xr_table i_X6_fact_1 rfl (off := 46) (fun kk => (xi_sw_miss c1).trans (xi_sw_hit c5)) (q := 47) rfl ?_
      refine xr_aload_n i_X6_fact_47 rfl (q := 48) rfl ?_
      obtain ⟨c6, h⟩ := xi_if_some h
      obtain ⟨b7, eb7, h⟩ := xi_bind_some h
      refine xr_getR i_X6_fact_48 xfe_X6_21 c6 eb7 (q := 51) rfl ?_
      refine xr_iload_n i_X6_fact_51 rfl (q := 52) rfl ?_
      obtain ⟨c8, h⟩ := xi_if_some h
      refine xr_iaload i_X6_fact_52 c8 (q := 53) rfl ?_
      exact xr_ireturn i_X6_fact_53 rfl h
    · replace h := (if_neg c5).symm.trans h
      by_cases c9 : Int32.toInt v2 = 2
      · replace h := (if_pos c9).symm.trans h
        refine xr_table i_X6_fact_1 rfl (off := 53) (fun kk => (xi_sw_miss c1).trans ((xi_sw_miss c5).trans (xi_sw_hit c9))) (q := 54) rfl ?_
        refine xr_aload_n i_X6_fact_54 rfl (q := 55) rfl ?_
        obtain ⟨c10, h⟩ := xi_if_some h
        obtain ⟨b11, eb11, h⟩ := xi_bind_some h
        refine xr_getR i_X6_fact_55 xfe_X6_24 c10 eb11 (q := 58) rfl ?_
        refine xr_iload_n i_X6_fact_58 rfl (q := 59) rfl ?_
        obtain ⟨c12, h⟩ := xi_if_some h
        refine xr_iaload i_X6_fact_59 c12 (q := 60) rfl ?_
        exact xr_ireturn i_X6_fact_60 rfl h
      · replace h := (if_neg c9).symm.trans h
        by_cases c13 : Int32.toInt v2 = 3
        · replace h := (if_pos c13).symm.trans h
          refine xr_table i_X6_fact_1 rfl (off := 60) (fun kk => (xi_sw_miss c1).trans ((xi_sw_miss c5).trans ((xi_sw_miss c9).trans (xi_sw_hit c13)))) (q := 61) rfl ?_
          refine xr_aload_n i_X6_fact_61 rfl (q := 62) rfl ?_
          obtain ⟨c14, h⟩ := xi_if_some h
          obtain ⟨b15, eb15, h⟩ := xi_bind_some h
          refine xr_getR i_X6_fact_62 xfe_X6_27 c14 eb15 (q := 65) rfl ?_
          refine xr_iload_n i_X6_fact_65 rfl (q := 66) rfl ?_
          obtain ⟨c16, h⟩ := xi_if_some h
          refine xr_iaload i_X6_fact_66 c16 (q := 67) rfl ?_
          exact xr_ireturn i_X6_fact_67 rfl h
        · replace h := (if_neg c13).symm.trans h
          by_cases c17 : Int32.toInt v2 = 4
          · replace h := (if_pos c17).symm.trans h
            refine xr_table i_X6_fact_1 rfl (off := 67) (fun kk => (xi_sw_miss c1).trans ((xi_sw_miss c5).trans ((xi_sw_miss c9).trans ((xi_sw_miss c13).trans (xi_sw_hit c17))))) (q := 68) rfl ?_
            refine xr_aload_n i_X6_fact_68 rfl (q := 69) rfl ?_
            refine xr_iload_n i_X6_fact_69 rfl (q := 70) rfl ?_
            obtain ⟨x19, m18, em18, h⟩ := xi_bI_some h
            refine xr_VI i_X6_fact_70 xcve_X6_73 rfl (As := [.ref v0, .int v1]) rfl (rest := []) rfl ((cc_X6_fact_73 S _ _ _).trans em18) (q := 73) rfl ?_
            exact xr_ireturn i_X6_fact_73 rfl h
          · replace h := (if_neg c17).symm.trans h
            by_cases c20 : Int32.toInt v2 = 5
            · replace h := (if_pos c20).symm.trans h
              refine xr_table i_X6_fact_1 rfl (off := 73) (fun kk => (xi_sw_miss c1).trans ((xi_sw_miss c5).trans ((xi_sw_miss c9).trans ((xi_sw_miss c13).trans ((xi_sw_miss c17).trans (xi_sw_hit c20)))))) (q := 74) rfl ?_
              refine xr_aload_n i_X6_fact_74 rfl (q := 75) rfl ?_
              refine xr_iload_n i_X6_fact_75 rfl (q := 76) rfl ?_
              refine xr_iconst i_X6_fact_76 (q := 77) rfl ?_
              obtain ⟨x22, m21, em21, h⟩ := xi_bI_some h
              refine xr_VI i_X6_fact_77 xcve_X6_102 rfl (As := [.ref v0, .int v1, .int (Int32.ofInt 0)]) rfl (rest := []) rfl ((cc_X6_fact_102 S _ _ _ _).trans em21) (q := 80) rfl ?_
              refine xr_aload_n i_X6_fact_80 rfl (q := 81) rfl ?_
              refine xr_iconst i_X6_fact_81 (q := 82) rfl ?_
              refine xr_aload_n i_X6_fact_82 rfl (q := 83) rfl ?_
              obtain ⟨c23, h⟩ := xi_if_some h
              obtain ⟨b24, eb24, h⟩ := xi_bind_some h
              refine xr_getR i_X6_fact_83 xfe_X6_21 c23 eb24 (q := 86) rfl ?_
              refine xr_iload_n i_X6_fact_86 rfl (q := 87) rfl ?_
              obtain ⟨c25, h⟩ := xi_if_some h
              refine xr_iaload i_X6_fact_87 c25 (q := 88) rfl ?_
              refine xr_isub i_X6_fact_88 (q := 89) rfl ?_
              obtain ⟨x27, m26, em26, h⟩ := xi_bI_some h
              refine xr_VI i_X6_fact_89 xcve_X6_105 rfl (As := [.ref v0, .int ((Int32.ofInt 1) - (m21.1 b24 (Int32.toNatClampNeg v1)))]) rfl (rest := [.int x22]) rfl ((cc_X6_fact_105 S _ _ _).trans em26) (q := 92) rfl ?_
              refine xr_iand i_X6_fact_92 (q := 93) rfl ?_
              by_cases c28 : (x22 &&& x27) = 0
              · replace h := (if_pos c28).symm.trans h
                refine xr_ifCond_eq_p i_X6_fact_93 c28 (q := 100) t_X6_fact_93 (q2 := 96) rfl ?_
                refine xr_iconst i_X6_fact_100 (q := 101) rfl ?_
                exact xr_ireturn i_X6_fact_101 rfl h
              · replace h := (if_neg c28).symm.trans h
                refine xr_ifCond_eq_n i_X6_fact_93 c28 (q := 100) t_X6_fact_93 (q2 := 96) rfl ?_
                refine xr_iconst i_X6_fact_96 (q := 97) rfl ?_
                refine xr_goto i_X6_fact_97 (q := 101) t_X6_fact_97 ?_
                exact xr_ireturn i_X6_fact_101 rfl h
            · replace h := (if_neg c20).symm.trans h
              refine xr_table i_X6_fact_1 rfl (off := 101) (fun kk => (xi_sw_miss c1).trans ((xi_sw_miss c5).trans ((xi_sw_miss c9).trans ((xi_sw_miss c13).trans ((xi_sw_miss c17).trans ((xi_sw_miss c20).trans (rfl))))))) (q := 102) rfl ?_
              refine xr_aload_n i_X6_fact_102 rfl (q := 103) rfl ?_
              obtain ⟨c29, h⟩ := xi_if_some h
              obtain ⟨b30, eb30, h⟩ := xi_bind_some h
              refine xr_getR i_X6_fact_103 xfe_X6_18 c29 eb30 (q := 106) rfl ?_
              refine xr_iload_n i_X6_fact_106 rfl (q := 107) rfl ?_
              obtain ⟨c31, h⟩ := xi_if_some h
              refine xr_iaload i_X6_fact_107 c31 (q := 108) rfl ?_
              refine xr_aload_n i_X6_fact_108 rfl (q := 109) rfl ?_
              obtain ⟨c32, h⟩ := xi_if_some h
              obtain ⟨b33, eb33, h⟩ := xi_bind_some h
              refine xr_getR i_X6_fact_109 xfe_X6_27 c32 eb33 (q := 112) rfl ?_
              refine xr_iload_n i_X6_fact_112 rfl (q := 113) rfl ?_
              obtain ⟨c34, h⟩ := xi_if_some h
              refine xr_iaload i_X6_fact_113 c34 (q := 114) rfl ?_
              obtain ⟨x36, m35, em35, h⟩ := xi_bI_some h
              refine xr_SI i_X6_fact_114 xcse_X6_82 rfl (As := [.int (m.1 b30 (Int32.toNatClampNeg v1)), .int (m.1 b33 (Int32.toNatClampNeg v1))]) rfl (rest := []) rfl ((cc_X6_fact_82 S _ _ _).trans em35) (q := 117) rfl ?_
              exact xr_ireturn i_X6_fact_117 rfl h
set_option maxRecDepth 100000 in
theorem po_X6_fact {l : Launch} {E : xi_E} {S : xi_S} {D : va_G} {tys : List (ClassId × FieldType)} (hC : xCx E S tys) : xi_Pok l E S D vwCl tys xNs RX6 xTs cX6_fact 3 4 (P_X6_fact S) := ⟨xi_dc_ok, by rw [hC.2]; exact xfo_X6, xkio_X6, xklo_X6, xi_calls_ok (ins := .invokestatic) (List.forall_mem_cons.mpr ⟨(xc_X6_82 (sn_X4_reach hC) (by decide)), fun _ h => absurd h List.not_mem_nil⟩), xi_calls_ok (ins := .invokevirtual) (List.forall_mem_cons.mpr ⟨(xc_X6_73 hC.1 (sn_X6_landing hC) (by decide)), List.forall_mem_cons.mpr ⟨(xc_X6_102 hC.1 (sn_X6_ballBit hC) (by decide)), List.forall_mem_cons.mpr ⟨(xc_X6_105 hC.1 (sn_X6_inPlaces hC) (by decide)), fun _ h => absurd h List.not_mem_nil⟩⟩⟩)⟩
theorem sn_X6_fact {l : Launch} {E : xi_E} {S : xi_S} {D : va_G} {tys : List (ClassId × FieldType)} (hC : xCx E S tys) : ∀ As m1 r m2, F_X6_fact S As m1 = some (r, m2) → xi_Sound l E S D vwCl tys xNs xTs yX6_fact cX6_fact 3 (some .int) 4 As m1 r m2 := by
  intro As m1 r m2 h
  unfold F_X6_fact at h
  split at h
  · exact xi_meth (P := P_X6_fact S) (by decide) hC.1 (po_X6_fact hC) (Nat.le_of_ble_eq_true rfl) rfl (xe_X6_fact _ _ _ _ h)
  · exact xi_no h
theorem i_X6_manyOf_0 : xi_dc cX6_manyOf 0 = some (.iconst 0, 1) := by decide +kernel
theorem i_X6_manyOf_1 : xi_dc cX6_manyOf 1 = some (.istore_n 2, 1) := by decide +kernel
theorem i_X6_manyOf_2 : xi_dc cX6_manyOf 2 = some (.iconst 0, 1) := by decide +kernel
theorem i_X6_manyOf_3 : xi_dc cX6_manyOf 3 = some (.istore_n 3, 1) := by decide +kernel
theorem i_X6_manyOf_4 : xi_dc cX6_manyOf 4 = some (.iload_n 3, 1) := by decide +kernel
theorem i_X6_manyOf_5 : xi_dc cX6_manyOf 5 = some (.aload_n 0, 1) := by decide +kernel
theorem i_X6_manyOf_6 : xi_dc cX6_manyOf 6 = some (.getfield 43, 3) := by decide +kernel
theorem i_X6_manyOf_9 : xi_dc cX6_manyOf 9 = some (.if_icmp .ge 25, 3) := by decide +kernel
theorem t_X6_manyOf_9 : ((9 : Nat) : Int) + 25 = ((34 : Nat) : Int) := by decide +kernel
theorem i_X6_manyOf_12 : xi_dc cX6_manyOf 12 = some (.aload_n 0, 1) := by decide +kernel
theorem i_X6_manyOf_13 : xi_dc cX6_manyOf 13 = some (.getfield 18, 3) := by decide +kernel
theorem i_X6_manyOf_16 : xi_dc cX6_manyOf 16 = some (.iload_n 3, 1) := by decide +kernel
theorem i_X6_manyOf_17 : xi_dc cX6_manyOf 17 = some (.iaload, 1) := by decide +kernel
theorem i_X6_manyOf_18 : xi_dc cX6_manyOf 18 = some (.iload_n 1, 1) := by decide +kernel
theorem i_X6_manyOf_19 : xi_dc cX6_manyOf 19 = some (.invokestatic 125, 3) := by decide +kernel
theorem i_X6_manyOf_22 : xi_dc cX6_manyOf 22 = some (.ifCond .eq 6, 3) := by decide +kernel
theorem t_X6_manyOf_22 : ((22 : Nat) : Int) + 6 = ((28 : Nat) : Int) := by decide +kernel
theorem i_X6_manyOf_25 : xi_dc cX6_manyOf 25 = some (.iinc 2 1, 3) := by decide +kernel
theorem i_X6_manyOf_28 : xi_dc cX6_manyOf 28 = some (.iinc 3 1, 3) := by decide +kernel
theorem i_X6_manyOf_31 : xi_dc cX6_manyOf 31 = some (.goto (-27), 3) := by decide +kernel
theorem t_X6_manyOf_31 : ((31 : Nat) : Int) + (-27) = ((4 : Nat) : Int) := by decide +kernel
theorem i_X6_manyOf_34 : xi_dc cX6_manyOf 34 = some (.iload_n 2, 1) := by decide +kernel
theorem i_X6_manyOf_35 : xi_dc cX6_manyOf 35 = some (.ireturn, 1) := by decide +kernel
def P_X6_manyOf (S : xi_S) : xi_P := (xi_dc cX6_manyOf, xi_tab xfl_X6, xi_tab xki_X6, xi_tab xkl_X6, xi_tab xcs_X6, xi_tab xcv_X6, xi_calls [(125, xi_wS 2 (F_X4_isOf S))], xi_calls [], 1)
theorem cc_X6_manyOf_125 (S : xi_S) (a0 : Int32) (a1 : Int32) (m : xi_M) : (P_X6_manyOf S).2.2.2.2.2.2.1 125 [.int a0, .int a1] m = (E_X4_isOf S a0 a1 m) := by
  show xi_calls [(125, xi_wS 2 (F_X4_isOf S))] 125 [.int a0, .int a1] m = _
  refine Eq.trans (b := xi_wS 2 (F_X4_isOf S) [.int a0, .int a1] m) (xi_calls_hit rfl) ?_
  exact xi_wS_eq rfl
def G_X6_manyOf_4 (S : xi_S) : Nat → Nat → Int32 → Int32 → Int32 → xi_M → Option xi_R
  | 0, _, _, _, _, _ => none
  | n + 1, v0, v1, v2, v3, m =>
    if S.1 v0 = 8 then
      if (m.1 v0 1) ≤ v3 then
        some (some (.int v2), m)
      else
        if S.1 v0 = 8 then (S.2.2 v0 7).bind fun b3 =>
          if S.1 b3 = 0 ∧ ¬ (v3 < 0 ∨ S.2.1 b3 ≤ Int32.toNatClampNeg v3) then
            xi_bI (E_X4_isOf S (m.1 b3 (Int32.toNatClampNeg v3)) v1 m) fun x6 m5 =>
            if x6 = 0 then
              G_X6_manyOf_4 S n v0 v1 v2 (v3 + Int32.ofInt 1) m5
            else
              G_X6_manyOf_4 S n v0 v1 (v2 + Int32.ofInt 1) (v3 + Int32.ofInt 1) m5
          else none
        else none
    else none
set_option maxRecDepth 100000 in
set_option maxHeartbeats 4000000 in
theorem xs_X6_manyOf_4 {S : xi_S} {res : xi_R} : ∀ (n : Nat) (v0 : Nat) (v1 : Int32) (v2 : Int32) (v3 : Int32) (m : xi_M), G_X6_manyOf_4 S n v0 v1 v2 v3 m = some res → xi_X S (P_X6_manyOf S) (4, [some (.ref v0), some (.int v1), some (.int v2), some (.int v3)], [], m) res := by
  intro n
  induction n with
  | zero => intro v0 v1 v2 v3 m h; exact xi_no h
  | succ n ih =>
    intro v0 v1 v2 v3 m h
    unfold G_X6_manyOf_4 at h
    refine xr_iload_n i_X6_manyOf_4 rfl (q := 5) rfl ?_
    refine xr_aload_n i_X6_manyOf_5 rfl (q := 6) rfl ?_
    obtain ⟨c1, h⟩ := xi_if_some h
    refine xr_getI i_X6_manyOf_6 xfe_X6_43 c1 (q := 9) rfl ?_
    by_cases c8 : (m.1 v0 1) ≤ v3
    · replace h := (if_pos c8).symm.trans h
      refine xr_if_icmp_ge_p i_X6_manyOf_9 c8 (q := 34) t_X6_manyOf_9 (q2 := 12) rfl ?_
      refine xr_iload_n i_X6_manyOf_34 rfl (q := 35) rfl ?_
      exact xr_ireturn i_X6_manyOf_35 rfl h
    · replace h := (if_neg c8).symm.trans h
      refine xr_if_icmp_ge_n i_X6_manyOf_9 c8 (q := 34) t_X6_manyOf_9 (q2 := 12) rfl ?_
      refine xr_aload_n i_X6_manyOf_12 rfl (q := 13) rfl ?_
      obtain ⟨c2, h⟩ := xi_if_some h
      obtain ⟨b3, eb3, h⟩ := xi_bind_some h
      refine xr_getR i_X6_manyOf_13 xfe_X6_18 c2 eb3 (q := 16) rfl ?_
      refine xr_iload_n i_X6_manyOf_16 rfl (q := 17) rfl ?_
      obtain ⟨c4, h⟩ := xi_if_some h
      refine xr_iaload i_X6_manyOf_17 c4 (q := 18) rfl ?_
      refine xr_iload_n i_X6_manyOf_18 rfl (q := 19) rfl ?_
      obtain ⟨x6, m5, em5, h⟩ := xi_bI_some h
      refine xr_SI i_X6_manyOf_19 xcse_X6_125 rfl (As := [.int (m.1 b3 (Int32.toNatClampNeg v3)), .int v1]) rfl (rest := []) rfl ((cc_X6_manyOf_125 S _ _ _).trans em5) (q := 22) rfl ?_
      by_cases c7 : x6 = 0
      · replace h := (if_pos c7).symm.trans h
        refine xr_ifCond_eq_p i_X6_manyOf_22 c7 (q := 28) t_X6_manyOf_22 (q2 := 25) rfl ?_
        refine xr_iinc i_X6_manyOf_28 rfl rfl (L2 := [some (.ref v0), some (.int v1), some (.int v2), some (.int (v3 + Int32.ofInt 1))]) rfl (q := 31) rfl ?_
        refine xr_goto i_X6_manyOf_31 (q := 4) t_X6_manyOf_31 ?_
        exact xi_X_le (xi_le_s (xi_le_s (xi_le_s (xi_le_s xi_le_z)))) (ih _ _ _ _ _ h)
      · replace h := (if_neg c7).symm.trans h
        refine xr_ifCond_eq_n i_X6_manyOf_22 c7 (q := 28) t_X6_manyOf_22 (q2 := 25) rfl ?_
        refine xr_iinc i_X6_manyOf_25 rfl rfl (L2 := [some (.ref v0), some (.int v1), some (.int (v2 + Int32.ofInt 1)), some (.int v3)]) rfl (q := 28) rfl ?_
        refine xr_iinc i_X6_manyOf_28 rfl rfl (L2 := [some (.ref v0), some (.int v1), some (.int (v2 + Int32.ofInt 1)), some (.int (v3 + Int32.ofInt 1))]) rfl (q := 31) rfl ?_
        refine xr_goto i_X6_manyOf_31 (q := 4) t_X6_manyOf_31 ?_
        exact xi_X_le (xi_le_s (xi_le_s (xi_le_s (xi_le_s xi_le_z)))) (ih _ _ _ _ _ h)
def E_X6_manyOf (S : xi_S) (v0 : Nat) (v1 : Int32) (m : xi_M) : Option xi_R :=
  G_X6_manyOf_4 S 10000 v0 v1 (Int32.ofInt 0) (Int32.ofInt 0) m
def F_X6_manyOf (S : xi_S) : xi_F := fun As m => match As with
  | [.ref v0, .int v1] => E_X6_manyOf S v0 v1 m
  | _ => none
set_option maxRecDepth 100000 in
set_option maxHeartbeats 4000000 in
theorem xe_X6_manyOf {S : xi_S} {res : xi_R} (v0 : Nat) (v1 : Int32) (m : xi_M) (h : E_X6_manyOf S v0 v1 m = some res) : xi_X S (P_X6_manyOf S) (0, [some (.ref v0), some (.int v1), none, none], [], m) res := by
  unfold E_X6_manyOf at h
  refine xr_iconst i_X6_manyOf_0 (q := 1) rfl ?_
  refine xr_istore_n i_X6_manyOf_1 rfl (L2 := [some (.ref v0), some (.int v1), some (.int (Int32.ofInt 0)), none]) rfl (q := 2) rfl ?_
  refine xr_iconst i_X6_manyOf_2 (q := 3) rfl ?_
  refine xr_istore_n i_X6_manyOf_3 rfl (L2 := [some (.ref v0), some (.int v1), some (.int (Int32.ofInt 0)), some (.int (Int32.ofInt 0))]) rfl (q := 4) rfl ?_
  exact xi_X_le (xi_le_s (xi_le_s (xi_le_s (xi_le_s xi_le_z)))) (xs_X6_manyOf_4 10000 _ _ _ _ _ h)
set_option maxRecDepth 100000 in
theorem po_X6_manyOf {l : Launch} {E : xi_E} {S : xi_S} {D : va_G} {tys : List (ClassId × FieldType)} (hC : xCx E S tys) : xi_Pok l E S D vwCl tys xNs RX6 xTs cX6_manyOf 4 1 (P_X6_manyOf S) := ⟨xi_dc_ok, by rw [hC.2]; exact xfo_X6, xkio_X6, xklo_X6, xi_calls_ok (ins := .invokestatic) (List.forall_mem_cons.mpr ⟨(xc_X6_125 (sn_X4_isOf hC) (by decide)), fun _ h => absurd h List.not_mem_nil⟩), xi_calls_ok (ins := .invokevirtual) (fun _ h => absurd h List.not_mem_nil)⟩
theorem sn_X6_manyOf {l : Launch} {E : xi_E} {S : xi_S} {D : va_G} {tys : List (ClassId × FieldType)} (hC : xCx E S tys) : ∀ As m1 r m2, F_X6_manyOf S As m1 = some (r, m2) → xi_Sound l E S D vwCl tys xNs xTs yX6_manyOf cX6_manyOf 4 (some .int) 1 As m1 r m2 := by
  intro As m1 r m2 h
  unfold F_X6_manyOf at h
  split at h
  · exact xi_meth (P := P_X6_manyOf S) (by decide) hC.1 (po_X6_manyOf hC) (Nat.le_of_ble_eq_true rfl) rfl (xe_X6_manyOf _ _ _ h)
  · exact xi_no h
theorem i_X6_number_0 : xi_dc cX6_number 0 = some (.iload_n 1, 1) := by decide +kernel
theorem i_X6_number_1 : xi_dc cX6_number 1 = some (.tableswitch 114 0 12 #[67, 72, 77, 82, 87, 114, 114, 114, 114, 92, 92, 102, 108], 67) := by decide +kernel
theorem i_X6_number_68 : xi_dc cX6_number 68 = some (.aload_n 0, 1) := by decide +kernel
theorem i_X6_number_69 : xi_dc cX6_number 69 = some (.getfield 43, 3) := by decide +kernel
theorem i_X6_number_72 : xi_dc cX6_number 72 = some (.ireturn, 1) := by decide +kernel
theorem i_X6_number_73 : xi_dc cX6_number 73 = some (.aload_n 0, 1) := by decide +kernel
theorem i_X6_number_74 : xi_dc cX6_number 74 = some (.getfield 39, 3) := by decide +kernel
theorem i_X6_number_77 : xi_dc cX6_number 77 = some (.ireturn, 1) := by decide +kernel
theorem i_X6_number_78 : xi_dc cX6_number 78 = some (.aload_n 0, 1) := by decide +kernel
theorem i_X6_number_79 : xi_dc cX6_number 79 = some (.getfield 46, 3) := by decide +kernel
theorem i_X6_number_82 : xi_dc cX6_number 82 = some (.ireturn, 1) := by decide +kernel
theorem i_X6_number_83 : xi_dc cX6_number 83 = some (.aload_n 0, 1) := by decide +kernel
theorem i_X6_number_84 : xi_dc cX6_number 84 = some (.getfield 52, 3) := by decide +kernel
theorem i_X6_number_87 : xi_dc cX6_number 87 = some (.ireturn, 1) := by decide +kernel
theorem i_X6_number_88 : xi_dc cX6_number 88 = some (.aload_n 0, 1) := by decide +kernel
theorem i_X6_number_89 : xi_dc cX6_number 89 = some (.getfield 49, 3) := by decide +kernel
theorem i_X6_number_92 : xi_dc cX6_number 92 = some (.ireturn, 1) := by decide +kernel
theorem i_X6_number_93 : xi_dc cX6_number 93 = some (.aload_n 0, 1) := by decide +kernel
theorem i_X6_number_94 : xi_dc cX6_number 94 = some (.getfield 15, 3) := by decide +kernel
theorem i_X6_number_97 : xi_dc cX6_number 97 = some (.iload_n 1, 1) := by decide +kernel
theorem i_X6_number_98 : xi_dc cX6_number 98 = some (.bipush 9, 2) := by decide +kernel
theorem i_X6_number_100 : xi_dc cX6_number 100 = some (.isub, 1) := by decide +kernel
theorem i_X6_number_101 : xi_dc cX6_number 101 = some (.iaload, 1) := by decide +kernel
theorem i_X6_number_102 : xi_dc cX6_number 102 = some (.ireturn, 1) := by decide +kernel
theorem i_X6_number_103 : xi_dc cX6_number 103 = some (.aload_n 0, 1) := by decide +kernel
theorem i_X6_number_104 : xi_dc cX6_number 104 = some (.iconst 1, 1) := by decide +kernel
theorem i_X6_number_105 : xi_dc cX6_number 105 = some (.invokevirtual 122, 3) := by decide +kernel
theorem i_X6_number_108 : xi_dc cX6_number 108 = some (.ireturn, 1) := by decide +kernel
theorem i_X6_number_109 : xi_dc cX6_number 109 = some (.aload_n 0, 1) := by decide +kernel
theorem i_X6_number_110 : xi_dc cX6_number 110 = some (.iconst 2, 1) := by decide +kernel
theorem i_X6_number_111 : xi_dc cX6_number 111 = some (.invokevirtual 122, 3) := by decide +kernel
theorem i_X6_number_114 : xi_dc cX6_number 114 = some (.ireturn, 1) := by decide +kernel
theorem i_X6_number_115 : xi_dc cX6_number 115 = some (.iload_n 1, 1) := by decide +kernel
theorem i_X6_number_116 : xi_dc cX6_number 116 = some (.iconst 5, 1) := by decide +kernel
theorem i_X6_number_117 : xi_dc cX6_number 117 = some (.if_icmp .lt 20, 3) := by decide +kernel
theorem t_X6_number_117 : ((117 : Nat) : Int) + 20 = ((137 : Nat) : Int) := by decide +kernel
theorem i_X6_number_120 : xi_dc cX6_number 120 = some (.iload_n 1, 1) := by decide +kernel
theorem i_X6_number_121 : xi_dc cX6_number 121 = some (.bipush 8, 2) := by decide +kernel
theorem i_X6_number_123 : xi_dc cX6_number 123 = some (.if_icmp .gt 14, 3) := by decide +kernel
theorem t_X6_number_123 : ((123 : Nat) : Int) + 14 = ((137 : Nat) : Int) := by decide +kernel
theorem i_X6_number_126 : xi_dc cX6_number 126 = some (.aload_n 0, 1) := by decide +kernel
theorem i_X6_number_127 : xi_dc cX6_number 127 = some (.getfield 9, 3) := by decide +kernel
theorem i_X6_number_130 : xi_dc cX6_number 130 = some (.iload_n 1, 1) := by decide +kernel
theorem i_X6_number_131 : xi_dc cX6_number 131 = some (.iconst 5, 1) := by decide +kernel
theorem i_X6_number_132 : xi_dc cX6_number 132 = some (.isub, 1) := by decide +kernel
theorem i_X6_number_133 : xi_dc cX6_number 133 = some (.iaload, 1) := by decide +kernel
theorem i_X6_number_134 : xi_dc cX6_number 134 = some (.goto 4, 3) := by decide +kernel
theorem t_X6_number_134 : ((134 : Nat) : Int) + 4 = ((138 : Nat) : Int) := by decide +kernel
theorem i_X6_number_137 : xi_dc cX6_number 137 = some (.iconst 0, 1) := by decide +kernel
theorem i_X6_number_138 : xi_dc cX6_number 138 = some (.ireturn, 1) := by decide +kernel
def P_X6_number (S : xi_S) : xi_P := (xi_dc cX6_number, xi_tab xfl_X6, xi_tab xki_X6, xi_tab xkl_X6, xi_tab xcs_X6, xi_tab xcv_X6, xi_calls [], xi_calls [(122, xi_wV S 8 1 (F_X6_manyOf S))], 1)
theorem cc_X6_number_122 (S : xi_S) (a0 : Nat) (a1 : Int32) (m : xi_M) : (P_X6_number S).2.2.2.2.2.2.2.1 122 [.ref a0, .int a1] m = (if S.1 a0 = 8 then E_X6_manyOf S a0 a1 m else none) := by
  show xi_calls [(122, xi_wV S 8 1 (F_X6_manyOf S))] 122 [.ref a0, .int a1] m = _
  refine Eq.trans (b := xi_wV S 8 1 (F_X6_manyOf S) [.ref a0, .int a1] m) (xi_calls_hit rfl) ?_
  exact xi_wV_eq rfl
def E_X6_number (S : xi_S) (v0 : Nat) (v1 : Int32) (m : xi_M) : Option xi_R :=
  if Int32.toInt v1 = 0 then
    if S.1 v0 = 8 then
      some (some (.int (m.1 v0 1)), m)
    else none
  else
    if Int32.toInt v1 = 1 then
      if S.1 v0 = 8 then
        some (some (.int (m.1 v0 0)), m)
      else none
    else
      if Int32.toInt v1 = 2 then
        if S.1 v0 = 8 then
          some (some (.int (m.1 v0 2)), m)
        else none
      else
        if Int32.toInt v1 = 3 then
          if S.1 v0 = 8 then
            some (some (.int (m.1 v0 4)), m)
          else none
        else
          if Int32.toInt v1 = 4 then
            if S.1 v0 = 8 then
              some (some (.int (m.1 v0 3)), m)
            else none
          else
            if Int32.toInt v1 = 5 then
              if v1 < (Int32.ofInt 5) then
                some (some (.int (Int32.ofInt 0)), m)
              else
                if ((Int8.ofInt 8).toInt32) < v1 then
                  some (some (.int (Int32.ofInt 0)), m)
                else
                  if S.1 v0 = 8 then (S.2.2 v0 5).bind fun b13 =>
                    if S.1 b13 = 0 ∧ ¬ ((v1 - (Int32.ofInt 5)) < 0 ∨ S.2.1 b13 ≤ Int32.toNatClampNeg (v1 - (Int32.ofInt 5))) then
                      some (some (.int (m.1 b13 (Int32.toNatClampNeg (v1 - (Int32.ofInt 5))))), m)
                    else none
                  else none
            else
              if Int32.toInt v1 = 6 then
                if v1 < (Int32.ofInt 5) then
                  some (some (.int (Int32.ofInt 0)), m)
                else
                  if ((Int8.ofInt 8).toInt32) < v1 then
                    some (some (.int (Int32.ofInt 0)), m)
                  else
                    if S.1 v0 = 8 then (S.2.2 v0 5).bind fun b19 =>
                      if S.1 b19 = 0 ∧ ¬ ((v1 - (Int32.ofInt 5)) < 0 ∨ S.2.1 b19 ≤ Int32.toNatClampNeg (v1 - (Int32.ofInt 5))) then
                        some (some (.int (m.1 b19 (Int32.toNatClampNeg (v1 - (Int32.ofInt 5))))), m)
                      else none
                    else none
              else
                if Int32.toInt v1 = 7 then
                  if v1 < (Int32.ofInt 5) then
                    some (some (.int (Int32.ofInt 0)), m)
                  else
                    if ((Int8.ofInt 8).toInt32) < v1 then
                      some (some (.int (Int32.ofInt 0)), m)
                    else
                      if S.1 v0 = 8 then (S.2.2 v0 5).bind fun b25 =>
                        if S.1 b25 = 0 ∧ ¬ ((v1 - (Int32.ofInt 5)) < 0 ∨ S.2.1 b25 ≤ Int32.toNatClampNeg (v1 - (Int32.ofInt 5))) then
                          some (some (.int (m.1 b25 (Int32.toNatClampNeg (v1 - (Int32.ofInt 5))))), m)
                        else none
                      else none
                else
                  if Int32.toInt v1 = 8 then
                    if v1 < (Int32.ofInt 5) then
                      some (some (.int (Int32.ofInt 0)), m)
                    else
                      if ((Int8.ofInt 8).toInt32) < v1 then
                        some (some (.int (Int32.ofInt 0)), m)
                      else
                        if S.1 v0 = 8 then (S.2.2 v0 5).bind fun b31 =>
                          if S.1 b31 = 0 ∧ ¬ ((v1 - (Int32.ofInt 5)) < 0 ∨ S.2.1 b31 ≤ Int32.toNatClampNeg (v1 - (Int32.ofInt 5))) then
                            some (some (.int (m.1 b31 (Int32.toNatClampNeg (v1 - (Int32.ofInt 5))))), m)
                          else none
                        else none
                  else
                    if Int32.toInt v1 = 9 then
                      if S.1 v0 = 8 then (S.2.2 v0 6).bind fun b37 =>
                        if S.1 b37 = 0 ∧ ¬ ((v1 - ((Int8.ofInt 9).toInt32)) < 0 ∨ S.2.1 b37 ≤ Int32.toNatClampNeg (v1 - ((Int8.ofInt 9).toInt32))) then
                          some (some (.int (m.1 b37 (Int32.toNatClampNeg (v1 - ((Int8.ofInt 9).toInt32))))), m)
                        else none
                      else none
                    else
                      if Int32.toInt v1 = 10 then
                        if S.1 v0 = 8 then (S.2.2 v0 6).bind fun b41 =>
                          if S.1 b41 = 0 ∧ ¬ ((v1 - ((Int8.ofInt 9).toInt32)) < 0 ∨ S.2.1 b41 ≤ Int32.toNatClampNeg (v1 - ((Int8.ofInt 9).toInt32))) then
                            some (some (.int (m.1 b41 (Int32.toNatClampNeg (v1 - ((Int8.ofInt 9).toInt32))))), m)
                          else none
                        else none
                      else
                        if Int32.toInt v1 = 11 then
                          xi_bI (if S.1 v0 = 8 then E_X6_manyOf S v0 (Int32.ofInt 1) m else none) fun x45 m44 =>
                          some (some (.int x45), m44)
                        else
                          if Int32.toInt v1 = 12 then
                            xi_bI (if S.1 v0 = 8 then E_X6_manyOf S v0 (Int32.ofInt 2) m else none) fun x48 m47 =>
                            some (some (.int x48), m47)
                          else
                            if v1 < (Int32.ofInt 5) then
                              some (some (.int (Int32.ofInt 0)), m)
                            else
                              if ((Int8.ofInt 8).toInt32) < v1 then
                                some (some (.int (Int32.ofInt 0)), m)
                              else
                                if S.1 v0 = 8 then (S.2.2 v0 5).bind fun b50 =>
                                  if S.1 b50 = 0 ∧ ¬ ((v1 - (Int32.ofInt 5)) < 0 ∨ S.2.1 b50 ≤ Int32.toNatClampNeg (v1 - (Int32.ofInt 5))) then
                                    some (some (.int (m.1 b50 (Int32.toNatClampNeg (v1 - (Int32.ofInt 5))))), m)
                                  else none
                                else none
def F_X6_number (S : xi_S) : xi_F := fun As m => match As with
  | [.ref v0, .int v1] => E_X6_number S v0 v1 m
  | _ => none
set_option maxRecDepth 100000 in
set_option maxHeartbeats 4000000 in
theorem xe_X6_number {S : xi_S} {res : xi_R} (v0 : Nat) (v1 : Int32) (m : xi_M) (h : E_X6_number S v0 v1 m = some res) : xi_X S (P_X6_number S) (0, [some (.ref v0), some (.int v1)], [], m) res := by
  unfold E_X6_number at h
  refine xr_iload_n i_X6_number_0 rfl (q := 1) rfl ?_
  by_cases c1 : Int32.toInt v1 = 0
  · replace h := (if_pos c1).symm.trans h
    refine xr_table i_X6_number_1 rfl (off := 67) (fun kk => xi_sw_hit c1) (q := 68) rfl ?_
    refine xr_aload_n i_X6_number_68 rfl (q := 69) rfl ?_
    obtain ⟨c2, h⟩ := xi_if_some h
    refine xr_getI i_X6_number_69 xfe_X6_43 c2 (q := 72) rfl ?_
    exact xr_ireturn i_X6_number_72 rfl h
  · replace h := (if_neg c1).symm.trans h
    by_cases c3 : Int32.toInt v1 = 1
    · replace h := (if_pos c3).symm.trans h
      refine xr_table i_X6_number_1 rfl (off := 72) (fun kk => (xi_sw_miss c1).trans (xi_sw_hit c3)) (q := 73) rfl ?_
      refine xr_aload_n i_X6_number_73 rfl (q := 74) rfl ?_
      obtain ⟨c4, h⟩ := xi_if_some h
      refine xr_getI i_X6_number_74 xfe_X6_39 c4 (q := 77) rfl ?_
      exact xr_ireturn i_X6_number_77 rfl h
    · replace h := (if_neg c3).symm.trans h
      by_cases c5 : Int32.toInt v1 = 2
      · replace h := (if_pos c5).symm.trans h
        refine xr_table i_X6_number_1 rfl (off := 77) (fun kk => (xi_sw_miss c1).trans ((xi_sw_miss c3).trans (xi_sw_hit c5))) (q := 78) rfl ?_
        refine xr_aload_n i_X6_number_78 rfl (q := 79) rfl ?_
        obtain ⟨c6, h⟩ := xi_if_some h
        refine xr_getI i_X6_number_79 xfe_X6_46 c6 (q := 82) rfl ?_
        exact xr_ireturn i_X6_number_82 rfl h
      · replace h := (if_neg c5).symm.trans h
        by_cases c7 : Int32.toInt v1 = 3
        · replace h := (if_pos c7).symm.trans h
          refine xr_table i_X6_number_1 rfl (off := 82) (fun kk => (xi_sw_miss c1).trans ((xi_sw_miss c3).trans ((xi_sw_miss c5).trans (xi_sw_hit c7)))) (q := 83) rfl ?_
          refine xr_aload_n i_X6_number_83 rfl (q := 84) rfl ?_
          obtain ⟨c8, h⟩ := xi_if_some h
          refine xr_getI i_X6_number_84 xfe_X6_52 c8 (q := 87) rfl ?_
          exact xr_ireturn i_X6_number_87 rfl h
        · replace h := (if_neg c7).symm.trans h
          by_cases c9 : Int32.toInt v1 = 4
          · replace h := (if_pos c9).symm.trans h
            refine xr_table i_X6_number_1 rfl (off := 87) (fun kk => (xi_sw_miss c1).trans ((xi_sw_miss c3).trans ((xi_sw_miss c5).trans ((xi_sw_miss c7).trans (xi_sw_hit c9))))) (q := 88) rfl ?_
            refine xr_aload_n i_X6_number_88 rfl (q := 89) rfl ?_
            obtain ⟨c10, h⟩ := xi_if_some h
            refine xr_getI i_X6_number_89 xfe_X6_49 c10 (q := 92) rfl ?_
            exact xr_ireturn i_X6_number_92 rfl h
          · replace h := (if_neg c9).symm.trans h
            by_cases c11 : Int32.toInt v1 = 5
            · replace h := (if_pos c11).symm.trans h
              refine xr_table i_X6_number_1 rfl (off := 114) (fun kk => (xi_sw_miss c1).trans ((xi_sw_miss c3).trans ((xi_sw_miss c5).trans ((xi_sw_miss c7).trans ((xi_sw_miss c9).trans (xi_sw_hit c11)))))) (q := 115) rfl ?_
              refine xr_iload_n i_X6_number_115 rfl (q := 116) rfl ?_
              refine xr_iconst i_X6_number_116 (q := 117) rfl ?_
              by_cases c16 : v1 < (Int32.ofInt 5)
              · replace h := (if_pos c16).symm.trans h
                refine xr_if_icmp_lt_p i_X6_number_117 c16 (q := 137) t_X6_number_117 (q2 := 120) rfl ?_
                refine xr_iconst i_X6_number_137 (q := 138) rfl ?_
                exact xr_ireturn i_X6_number_138 rfl h
              · replace h := (if_neg c16).symm.trans h
                refine xr_if_icmp_lt_n i_X6_number_117 c16 (q := 137) t_X6_number_117 (q2 := 120) rfl ?_
                refine xr_iload_n i_X6_number_120 rfl (q := 121) rfl ?_
                refine xr_bipush i_X6_number_121 (q := 123) rfl ?_
                by_cases c15 : ((Int8.ofInt 8).toInt32) < v1
                · replace h := (if_pos c15).symm.trans h
                  refine xr_if_icmp_gt_p i_X6_number_123 c15 (q := 137) t_X6_number_123 (q2 := 126) rfl ?_
                  refine xr_iconst i_X6_number_137 (q := 138) rfl ?_
                  exact xr_ireturn i_X6_number_138 rfl h
                · replace h := (if_neg c15).symm.trans h
                  refine xr_if_icmp_gt_n i_X6_number_123 c15 (q := 137) t_X6_number_123 (q2 := 126) rfl ?_
                  refine xr_aload_n i_X6_number_126 rfl (q := 127) rfl ?_
                  obtain ⟨c12, h⟩ := xi_if_some h
                  obtain ⟨b13, eb13, h⟩ := xi_bind_some h
                  refine xr_getR i_X6_number_127 xfe_X6_9 c12 eb13 (q := 130) rfl ?_
                  refine xr_iload_n i_X6_number_130 rfl (q := 131) rfl ?_
                  refine xr_iconst i_X6_number_131 (q := 132) rfl ?_
                  refine xr_isub i_X6_number_132 (q := 133) rfl ?_
                  obtain ⟨c14, h⟩ := xi_if_some h
                  refine xr_iaload i_X6_number_133 c14 (q := 134) rfl ?_
                  refine xr_goto i_X6_number_134 (q := 138) t_X6_number_134 ?_
                  exact xr_ireturn i_X6_number_138 rfl h
            · replace h := (if_neg c11).symm.trans h
              by_cases c17 : Int32.toInt v1 = 6
              · replace h := (if_pos c17).symm.trans h
                refine xr_table i_X6_number_1 rfl (off := 114) (fun kk => (xi_sw_miss c1).trans ((xi_sw_miss c3).trans ((xi_sw_miss c5).trans ((xi_sw_miss c7).trans ((xi_sw_miss c9).trans ((xi_sw_miss c11).trans (xi_sw_hit c17))))))) (q := 115) rfl ?_
                refine xr_iload_n i_X6_number_115 rfl (q := 116) rfl ?_
                refine xr_iconst i_X6_number_116 (q := 117) rfl ?_
                by_cases c22 : v1 < (Int32.ofInt 5)
                · replace h := (if_pos c22).symm.trans h
                  refine xr_if_icmp_lt_p i_X6_number_117 c22 (q := 137) t_X6_number_117 (q2 := 120) rfl ?_
                  refine xr_iconst i_X6_number_137 (q := 138) rfl ?_
                  exact xr_ireturn i_X6_number_138 rfl h
                · replace h := (if_neg c22).symm.trans h
                  refine xr_if_icmp_lt_n i_X6_number_117 c22 (q := 137) t_X6_number_117 (q2 := 120) rfl ?_
                  refine xr_iload_n i_X6_number_120 rfl (q := 121) rfl ?_
                  refine xr_bipush i_X6_number_121 (q := 123) rfl ?_
                  by_cases c21 : ((Int8.ofInt 8).toInt32) < v1
                  · replace h := (if_pos c21).symm.trans h
                    refine xr_if_icmp_gt_p i_X6_number_123 c21 (q := 137) t_X6_number_123 (q2 := 126) rfl ?_
                    refine xr_iconst i_X6_number_137 (q := 138) rfl ?_
                    exact xr_ireturn i_X6_number_138 rfl h
                  · replace h := (if_neg c21).symm.trans h
                    refine xr_if_icmp_gt_n i_X6_number_123 c21 (q := 137) t_X6_number_123 (q2 := 126) rfl ?_
                    refine xr_aload_n i_X6_number_126 rfl (q := 127) rfl ?_
                    obtain ⟨c18, h⟩ := xi_if_some h
                    obtain ⟨b19, eb19, h⟩ := xi_bind_some h
                    refine xr_getR i_X6_number_127 xfe_X6_9 c18 eb19 (q := 130) rfl ?_
                    refine xr_iload_n i_X6_number_130 rfl (q := 131) rfl ?_
                    refine xr_iconst i_X6_number_131 (q := 132) rfl ?_
                    refine xr_isub i_X6_number_132 (q := 133) rfl ?_
                    obtain ⟨c20, h⟩ := xi_if_some h
                    refine xr_iaload i_X6_number_133 c20 (q := 134) rfl ?_
                    refine xr_goto i_X6_number_134 (q := 138) t_X6_number_134 ?_
                    exact xr_ireturn i_X6_number_138 rfl h
              · replace h := (if_neg c17).symm.trans h
                by_cases c23 : Int32.toInt v1 = 7
                · replace h := (if_pos c23).symm.trans h
                  refine xr_table i_X6_number_1 rfl (off := 114) (fun kk => (xi_sw_miss c1).trans ((xi_sw_miss c3).trans ((xi_sw_miss c5).trans ((xi_sw_miss c7).trans ((xi_sw_miss c9).trans ((xi_sw_miss c11).trans ((xi_sw_miss c17).trans (xi_sw_hit c23)))))))) (q := 115) rfl ?_
                  refine xr_iload_n i_X6_number_115 rfl (q := 116) rfl ?_
                  refine xr_iconst i_X6_number_116 (q := 117) rfl ?_
                  by_cases c28 : v1 < (Int32.ofInt 5)
                  · replace h := (if_pos c28).symm.trans h
                    refine xr_if_icmp_lt_p i_X6_number_117 c28 (q := 137) t_X6_number_117 (q2 := 120) rfl ?_
                    refine xr_iconst i_X6_number_137 (q := 138) rfl ?_
                    exact xr_ireturn i_X6_number_138 rfl h
                  · replace h := (if_neg c28).symm.trans h
                    refine xr_if_icmp_lt_n i_X6_number_117 c28 (q := 137) t_X6_number_117 (q2 := 120) rfl ?_
                    refine xr_iload_n i_X6_number_120 rfl (q := 121) rfl ?_
                    refine xr_bipush i_X6_number_121 (q := 123) rfl ?_
                    by_cases c27 : ((Int8.ofInt 8).toInt32) < v1
                    · replace h := (if_pos c27).symm.trans h
                      refine xr_if_icmp_gt_p i_X6_number_123 c27 (q := 137) t_X6_number_123 (q2 := 126) rfl ?_
                      refine xr_iconst i_X6_number_137 (q := 138) rfl ?_
                      exact xr_ireturn i_X6_number_138 rfl h
                    · replace h := (if_neg c27).symm.trans h
                      refine xr_if_icmp_gt_n i_X6_number_123 c27 (q := 137) t_X6_number_123 (q2 := 126) rfl ?_
                      refine xr_aload_n i_X6_number_126 rfl (q := 127) rfl ?_
                      obtain ⟨c24, h⟩ := xi_if_some h
                      obtain ⟨b25, eb25, h⟩ := xi_bind_some h
                      refine xr_getR i_X6_number_127 xfe_X6_9 c24 eb25 (q := 130) rfl ?_
                      refine xr_iload_n i_X6_number_130 rfl (q := 131) rfl ?_
                      refine xr_iconst i_X6_number_131 (q := 132) rfl ?_
                      refine xr_isub i_X6_number_132 (q := 133) rfl ?_
                      obtain ⟨c26, h⟩ := xi_if_some h
                      refine xr_iaload i_X6_number_133 c26 (q := 134) rfl ?_
                      refine xr_goto i_X6_number_134 (q := 138) t_X6_number_134 ?_
                      exact xr_ireturn i_X6_number_138 rfl h
                · replace h := (if_neg c23).symm.trans h
                  by_cases c29 : Int32.toInt v1 = 8
                  · replace h := (if_pos c29).symm.trans h
                    refine xr_table i_X6_number_1 rfl (off := 114) (fun kk => (xi_sw_miss c1).trans ((xi_sw_miss c3).trans ((xi_sw_miss c5).trans ((xi_sw_miss c7).trans ((xi_sw_miss c9).trans ((xi_sw_miss c11).trans ((xi_sw_miss c17).trans ((xi_sw_miss c23).trans (xi_sw_hit c29))))))))) (q := 115) rfl ?_
                    refine xr_iload_n i_X6_number_115 rfl (q := 116) rfl ?_
                    refine xr_iconst i_X6_number_116 (q := 117) rfl ?_
                    by_cases c34 : v1 < (Int32.ofInt 5)
                    · replace h := (if_pos c34).symm.trans h
                      refine xr_if_icmp_lt_p i_X6_number_117 c34 (q := 137) t_X6_number_117 (q2 := 120) rfl ?_
                      refine xr_iconst i_X6_number_137 (q := 138) rfl ?_
                      exact xr_ireturn i_X6_number_138 rfl h
                    · replace h := (if_neg c34).symm.trans h
                      refine xr_if_icmp_lt_n i_X6_number_117 c34 (q := 137) t_X6_number_117 (q2 := 120) rfl ?_
                      refine xr_iload_n i_X6_number_120 rfl (q := 121) rfl ?_
                      refine xr_bipush i_X6_number_121 (q := 123) rfl ?_
                      by_cases c33 : ((Int8.ofInt 8).toInt32) < v1
                      · replace h := (if_pos c33).symm.trans h
                        refine xr_if_icmp_gt_p i_X6_number_123 c33 (q := 137) t_X6_number_123 (q2 := 126) rfl ?_
                        refine xr_iconst i_X6_number_137 (q := 138) rfl ?_
                        exact xr_ireturn i_X6_number_138 rfl h
                      · replace h := (if_neg c33).symm.trans h
                        refine xr_if_icmp_gt_n i_X6_number_123 c33 (q := 137) t_X6_number_123 (q2 := 126) rfl ?_
                        refine xr_aload_n i_X6_number_126 rfl (q := 127) rfl ?_
                        obtain ⟨c30, h⟩ := xi_if_some h
                        obtain ⟨b31, eb31, h⟩ := xi_bind_some h
                        refine xr_getR i_X6_number_127 xfe_X6_9 c30 eb31 (q := 130) rfl ?_
                        refine xr_iload_n i_X6_number_130 rfl (q := 131) rfl ?_
                        refine xr_iconst i_X6_number_131 (q := 132) rfl ?_
                        refine xr_isub i_X6_number_132 (q := 133) rfl ?_
                        obtain ⟨c32, h⟩ := xi_if_some h
                        refine xr_iaload i_X6_number_133 c32 (q := 134) rfl ?_
                        refine xr_goto i_X6_number_134 (q := 138) t_X6_number_134 ?_
                        exact xr_ireturn i_X6_number_138 rfl h
                  · replace h := (if_neg c29).symm.trans h
                    by_cases c35 : Int32.toInt v1 = 9
                    · replace h := (if_pos c35).symm.trans h
                      refine xr_table i_X6_number_1 rfl (off := 92) (fun kk => (xi_sw_miss c1).trans ((xi_sw_miss c3).trans ((xi_sw_miss c5).trans ((xi_sw_miss c7).trans ((xi_sw_miss c9).trans ((xi_sw_miss c11).trans ((xi_sw_miss c17).trans ((xi_sw_miss c23).trans ((xi_sw_miss c29).trans (xi_sw_hit c35)))))))))) (q := 93) rfl ?_
                      refine xr_aload_n i_X6_number_93 rfl (q := 94) rfl ?_
                      obtain ⟨c36, h⟩ := xi_if_some h
                      obtain ⟨b37, eb37, h⟩ := xi_bind_some h
                      refine xr_getR i_X6_number_94 xfe_X6_15 c36 eb37 (q := 97) rfl ?_
                      refine xr_iload_n i_X6_number_97 rfl (q := 98) rfl ?_
                      refine xr_bipush i_X6_number_98 (q := 100) rfl ?_
                      refine xr_isub i_X6_number_100 (q := 101) rfl ?_
                      obtain ⟨c38, h⟩ := xi_if_some h
                      refine xr_iaload i_X6_number_101 c38 (q := 102) rfl ?_
                      exact xr_ireturn i_X6_number_102 rfl h
                    · replace h := (if_neg c35).symm.trans h
                      by_cases c39 : Int32.toInt v1 = 10
                      · replace h := (if_pos c39).symm.trans h
                        refine xr_table i_X6_number_1 rfl (off := 92) (fun kk => (xi_sw_miss c1).trans ((xi_sw_miss c3).trans ((xi_sw_miss c5).trans ((xi_sw_miss c7).trans ((xi_sw_miss c9).trans ((xi_sw_miss c11).trans ((xi_sw_miss c17).trans ((xi_sw_miss c23).trans ((xi_sw_miss c29).trans ((xi_sw_miss c35).trans (xi_sw_hit c39))))))))))) (q := 93) rfl ?_
                        refine xr_aload_n i_X6_number_93 rfl (q := 94) rfl ?_
                        obtain ⟨c40, h⟩ := xi_if_some h
                        obtain ⟨b41, eb41, h⟩ := xi_bind_some h
                        refine xr_getR i_X6_number_94 xfe_X6_15 c40 eb41 (q := 97) rfl ?_
                        refine xr_iload_n i_X6_number_97 rfl (q := 98) rfl ?_
                        refine xr_bipush i_X6_number_98 (q := 100) rfl ?_
                        refine xr_isub i_X6_number_100 (q := 101) rfl ?_
                        obtain ⟨c42, h⟩ := xi_if_some h
                        refine xr_iaload i_X6_number_101 c42 (q := 102) rfl ?_
                        exact xr_ireturn i_X6_number_102 rfl h
                      · replace h := (if_neg c39).symm.trans h
                        by_cases c43 : Int32.toInt v1 = 11
                        · replace h := (if_pos c43).symm.trans h
                          refine xr_table i_X6_number_1 rfl (off := 102) (fun kk => (xi_sw_miss c1).trans ((xi_sw_miss c3).trans ((xi_sw_miss c5).trans ((xi_sw_miss c7).trans ((xi_sw_miss c9).trans ((xi_sw_miss c11).trans ((xi_sw_miss c17).trans ((xi_sw_miss c23).trans ((xi_sw_miss c29).trans ((xi_sw_miss c35).trans ((xi_sw_miss c39).trans (xi_sw_hit c43)))))))))))) (q := 103) rfl ?_
                          refine xr_aload_n i_X6_number_103 rfl (q := 104) rfl ?_
                          refine xr_iconst i_X6_number_104 (q := 105) rfl ?_
                          obtain ⟨x45, m44, em44, h⟩ := xi_bI_some h
                          refine xr_VI i_X6_number_105 xcve_X6_122 rfl (As := [.ref v0, .int (Int32.ofInt 1)]) rfl (rest := []) rfl ((cc_X6_number_122 S _ _ _).trans em44) (q := 108) rfl ?_
                          exact xr_ireturn i_X6_number_108 rfl h
                        · replace h := (if_neg c43).symm.trans h
                          by_cases c46 : Int32.toInt v1 = 12
                          · replace h := (if_pos c46).symm.trans h
                            refine xr_table i_X6_number_1 rfl (off := 108) (fun kk => (xi_sw_miss c1).trans ((xi_sw_miss c3).trans ((xi_sw_miss c5).trans ((xi_sw_miss c7).trans ((xi_sw_miss c9).trans ((xi_sw_miss c11).trans ((xi_sw_miss c17).trans ((xi_sw_miss c23).trans ((xi_sw_miss c29).trans ((xi_sw_miss c35).trans ((xi_sw_miss c39).trans ((xi_sw_miss c43).trans (xi_sw_hit c46))))))))))))) (q := 109) rfl ?_
                            refine xr_aload_n i_X6_number_109 rfl (q := 110) rfl ?_
                            refine xr_iconst i_X6_number_110 (q := 111) rfl ?_
                            obtain ⟨x48, m47, em47, h⟩ := xi_bI_some h
                            refine xr_VI i_X6_number_111 xcve_X6_122 rfl (As := [.ref v0, .int (Int32.ofInt 2)]) rfl (rest := []) rfl ((cc_X6_number_122 S _ _ _).trans em47) (q := 114) rfl ?_
                            exact xr_ireturn i_X6_number_114 rfl h
                          · replace h := (if_neg c46).symm.trans h
                            refine xr_table i_X6_number_1 rfl (off := 114) (fun kk => (xi_sw_miss c1).trans ((xi_sw_miss c3).trans ((xi_sw_miss c5).trans ((xi_sw_miss c7).trans ((xi_sw_miss c9).trans ((xi_sw_miss c11).trans ((xi_sw_miss c17).trans ((xi_sw_miss c23).trans ((xi_sw_miss c29).trans ((xi_sw_miss c35).trans ((xi_sw_miss c39).trans ((xi_sw_miss c43).trans ((xi_sw_miss c46).trans (rfl)))))))))))))) (q := 115) rfl ?_
                            refine xr_iload_n i_X6_number_115 rfl (q := 116) rfl ?_
                            refine xr_iconst i_X6_number_116 (q := 117) rfl ?_
                            by_cases c53 : v1 < (Int32.ofInt 5)
                            · replace h := (if_pos c53).symm.trans h
                              refine xr_if_icmp_lt_p i_X6_number_117 c53 (q := 137) t_X6_number_117 (q2 := 120) rfl ?_
                              refine xr_iconst i_X6_number_137 (q := 138) rfl ?_
                              exact xr_ireturn i_X6_number_138 rfl h
                            · replace h := (if_neg c53).symm.trans h
                              refine xr_if_icmp_lt_n i_X6_number_117 c53 (q := 137) t_X6_number_117 (q2 := 120) rfl ?_
                              refine xr_iload_n i_X6_number_120 rfl (q := 121) rfl ?_
                              refine xr_bipush i_X6_number_121 (q := 123) rfl ?_
                              by_cases c52 : ((Int8.ofInt 8).toInt32) < v1
                              · replace h := (if_pos c52).symm.trans h
                                refine xr_if_icmp_gt_p i_X6_number_123 c52 (q := 137) t_X6_number_123 (q2 := 126) rfl ?_
                                refine xr_iconst i_X6_number_137 (q := 138) rfl ?_
                                exact xr_ireturn i_X6_number_138 rfl h
                              · replace h := (if_neg c52).symm.trans h
                                refine xr_if_icmp_gt_n i_X6_number_123 c52 (q := 137) t_X6_number_123 (q2 := 126) rfl ?_
                                refine xr_aload_n i_X6_number_126 rfl (q := 127) rfl ?_
                                obtain ⟨c49, h⟩ := xi_if_some h
                                obtain ⟨b50, eb50, h⟩ := xi_bind_some h
                                refine xr_getR i_X6_number_127 xfe_X6_9 c49 eb50 (q := 130) rfl ?_
                                refine xr_iload_n i_X6_number_130 rfl (q := 131) rfl ?_
                                refine xr_iconst i_X6_number_131 (q := 132) rfl ?_
                                refine xr_isub i_X6_number_132 (q := 133) rfl ?_
                                obtain ⟨c51, h⟩ := xi_if_some h
                                refine xr_iaload i_X6_number_133 c51 (q := 134) rfl ?_
                                refine xr_goto i_X6_number_134 (q := 138) t_X6_number_134 ?_
                                exact xr_ireturn i_X6_number_138 rfl h
set_option maxRecDepth 100000 in
theorem po_X6_number {l : Launch} {E : xi_E} {S : xi_S} {D : va_G} {tys : List (ClassId × FieldType)} (hC : xCx E S tys) : xi_Pok l E S D vwCl tys xNs RX6 xTs cX6_number 2 2 (P_X6_number S) := ⟨xi_dc_ok, by rw [hC.2]; exact xfo_X6, xkio_X6, xklo_X6, xi_calls_ok (ins := .invokestatic) (fun _ h => absurd h List.not_mem_nil), xi_calls_ok (ins := .invokevirtual) (List.forall_mem_cons.mpr ⟨(xc_X6_122 hC.1 (sn_X6_manyOf hC) (by decide)), fun _ h => absurd h List.not_mem_nil⟩)⟩
theorem sn_X6_number {l : Launch} {E : xi_E} {S : xi_S} {D : va_G} {tys : List (ClassId × FieldType)} (hC : xCx E S tys) : ∀ As m1 r m2, F_X6_number S As m1 = some (r, m2) → xi_Sound l E S D vwCl tys xNs xTs yX6_number cX6_number 2 (some .int) 2 As m1 r m2 := by
  intro As m1 r m2 h
  unfold F_X6_number at h
  split at h
  · exact xi_meth (P := P_X6_number S) (by decide) hC.1 (po_X6_number hC) (Nat.le_of_ble_eq_true rfl) rfl (xe_X6_number _ _ _ h)
  · exact xi_no h
theorem i_X6_note_0 : xi_dc cX6_note 0 = some (.aload_n 0, 1) := by decide +kernel
theorem i_X6_note_1 : xi_dc cX6_note 1 = some (.getfield 52, 3) := by decide +kernel
theorem i_X6_note_4 : xi_dc cX6_note 4 = some (.bipush 40, 2) := by decide +kernel
theorem i_X6_note_6 : xi_dc cX6_note 6 = some (.if_icmp .ge 43, 3) := by decide +kernel
theorem t_X6_note_6 : ((6 : Nat) : Int) + 43 = ((49 : Nat) : Int) := by decide +kernel
theorem i_X6_note_9 : xi_dc cX6_note 9 = some (.aload_n 0, 1) := by decide +kernel
theorem i_X6_note_10 : xi_dc cX6_note 10 = some (.getfield 30, 3) := by decide +kernel
theorem i_X6_note_13 : xi_dc cX6_note 13 = some (.aload_n 0, 1) := by decide +kernel
theorem i_X6_note_14 : xi_dc cX6_note 14 = some (.getfield 52, 3) := by decide +kernel
theorem i_X6_note_17 : xi_dc cX6_note 17 = some (.iload_n 1, 1) := by decide +kernel
theorem i_X6_note_18 : xi_dc cX6_note 18 = some (.iastore, 1) := by decide +kernel
theorem i_X6_note_19 : xi_dc cX6_note 19 = some (.aload_n 0, 1) := by decide +kernel
theorem i_X6_note_20 : xi_dc cX6_note 20 = some (.getfield 33, 3) := by decide +kernel
theorem i_X6_note_23 : xi_dc cX6_note 23 = some (.aload_n 0, 1) := by decide +kernel
theorem i_X6_note_24 : xi_dc cX6_note 24 = some (.getfield 52, 3) := by decide +kernel
theorem i_X6_note_27 : xi_dc cX6_note 27 = some (.iload_n 2, 1) := by decide +kernel
theorem i_X6_note_28 : xi_dc cX6_note 28 = some (.iastore, 1) := by decide +kernel
theorem i_X6_note_29 : xi_dc cX6_note 29 = some (.aload_n 0, 1) := by decide +kernel
theorem i_X6_note_30 : xi_dc cX6_note 30 = some (.getfield 36, 3) := by decide +kernel
theorem i_X6_note_33 : xi_dc cX6_note 33 = some (.aload_n 0, 1) := by decide +kernel
theorem i_X6_note_34 : xi_dc cX6_note 34 = some (.getfield 52, 3) := by decide +kernel
theorem i_X6_note_37 : xi_dc cX6_note 37 = some (.iload_n 3, 1) := by decide +kernel
theorem i_X6_note_38 : xi_dc cX6_note 38 = some (.iastore, 1) := by decide +kernel
theorem i_X6_note_39 : xi_dc cX6_note 39 = some (.aload_n 0, 1) := by decide +kernel
theorem i_X6_note_40 : xi_dc cX6_note 40 = some (.dup, 1) := by decide +kernel
theorem i_X6_note_41 : xi_dc cX6_note 41 = some (.getfield 52, 3) := by decide +kernel
theorem i_X6_note_44 : xi_dc cX6_note 44 = some (.iconst 1, 1) := by decide +kernel
theorem i_X6_note_45 : xi_dc cX6_note 45 = some (.iadd, 1) := by decide +kernel
theorem i_X6_note_46 : xi_dc cX6_note 46 = some (.putfield 52, 3) := by decide +kernel
theorem i_X6_note_49 : xi_dc cX6_note 49 = some (.return_, 1) := by decide +kernel
def P_X6_note (S : xi_S) : xi_P := (xi_dc cX6_note, xi_tab xfl_X6, xi_tab xki_X6, xi_tab xkl_X6, xi_tab xcs_X6, xi_tab xcv_X6, xi_calls [], xi_calls [], 0)
def E_X6_note (S : xi_S) (v0 : Nat) (v1 : Int32) (v2 : Int32) (v3 : Int32) (m : xi_M) : Option xi_R :=
  if S.1 v0 = 8 then
    if ((Int8.ofInt 40).toInt32) ≤ (m.1 v0 4) then
      some (none, m)
    else
      if S.1 v0 = 8 then (S.2.2 v0 11).bind fun b3 =>
        if S.1 v0 = 8 then
          if S.1 b3 = 0 ∧ ¬ ((m.1 v0 4) < 0 ∨ S.2.1 b3 ≤ Int32.toNatClampNeg (m.1 v0 4)) then
            if S.1 v0 = 8 then (S.2.2 v0 12).bind fun b7 =>
              if S.1 v0 = 8 then
                if S.1 b7 = 0 ∧ ¬ (((xi_wI m b3 (Int32.toNatClampNeg (m.1 v0 4)) v1).1 v0 4) < 0 ∨ S.2.1 b7 ≤ Int32.toNatClampNeg ((xi_wI m b3 (Int32.toNatClampNeg (m.1 v0 4)) v1).1 v0 4)) then
                  if S.1 v0 = 8 then (S.2.2 v0 13).bind fun b11 =>
                    if S.1 v0 = 8 then
                      if S.1 b11 = 0 ∧ ¬ (((xi_wI (xi_wI m b3 (Int32.toNatClampNeg (m.1 v0 4)) v1) b7 (Int32.toNatClampNeg ((xi_wI m b3 (Int32.toNatClampNeg (m.1 v0 4)) v1).1 v0 4)) v2).1 v0 4) < 0 ∨ S.2.1 b11 ≤ Int32.toNatClampNeg ((xi_wI (xi_wI m b3 (Int32.toNatClampNeg (m.1 v0 4)) v1) b7 (Int32.toNatClampNeg ((xi_wI m b3 (Int32.toNatClampNeg (m.1 v0 4)) v1).1 v0 4)) v2).1 v0 4)) then
                        if S.1 v0 = 8 then
                          if S.1 v0 = 8 then
                            some (none, (xi_wI (xi_wI (xi_wI (xi_wI m b3 (Int32.toNatClampNeg (m.1 v0 4)) v1) b7 (Int32.toNatClampNeg ((xi_wI m b3 (Int32.toNatClampNeg (m.1 v0 4)) v1).1 v0 4)) v2) b11 (Int32.toNatClampNeg ((xi_wI (xi_wI m b3 (Int32.toNatClampNeg (m.1 v0 4)) v1) b7 (Int32.toNatClampNeg ((xi_wI m b3 (Int32.toNatClampNeg (m.1 v0 4)) v1).1 v0 4)) v2).1 v0 4)) v3) v0 4 (((xi_wI (xi_wI (xi_wI m b3 (Int32.toNatClampNeg (m.1 v0 4)) v1) b7 (Int32.toNatClampNeg ((xi_wI m b3 (Int32.toNatClampNeg (m.1 v0 4)) v1).1 v0 4)) v2) b11 (Int32.toNatClampNeg ((xi_wI (xi_wI m b3 (Int32.toNatClampNeg (m.1 v0 4)) v1) b7 (Int32.toNatClampNeg ((xi_wI m b3 (Int32.toNatClampNeg (m.1 v0 4)) v1).1 v0 4)) v2).1 v0 4)) v3).1 v0 4) + (Int32.ofInt 1))))
                          else none
                        else none
                      else none
                    else none
                  else none
                else none
              else none
            else none
          else none
        else none
      else none
  else none
def F_X6_note (S : xi_S) : xi_F := fun As m => match As with
  | [.ref v0, .int v1, .int v2, .int v3] => E_X6_note S v0 v1 v2 v3 m
  | _ => none
set_option maxRecDepth 100000 in
set_option maxHeartbeats 4000000 in
theorem xe_X6_note {S : xi_S} {res : xi_R} (v0 : Nat) (v1 : Int32) (v2 : Int32) (v3 : Int32) (m : xi_M) (h : E_X6_note S v0 v1 v2 v3 m = some res) : xi_X S (P_X6_note S) (0, [some (.ref v0), some (.int v1), some (.int v2), some (.int v3)], [], m) res := by
  unfold E_X6_note at h
  refine xr_aload_n i_X6_note_0 rfl (q := 1) rfl ?_
  obtain ⟨c1, h⟩ := xi_if_some h
  refine xr_getI i_X6_note_1 xfe_X6_52 c1 (q := 4) rfl ?_
  refine xr_bipush i_X6_note_4 (q := 6) rfl ?_
  by_cases c16 : ((Int8.ofInt 40).toInt32) ≤ (m.1 v0 4)
  · replace h := (if_pos c16).symm.trans h
    refine xr_if_icmp_ge_p i_X6_note_6 c16 (q := 49) t_X6_note_6 (q2 := 9) rfl ?_
    exact xr_return i_X6_note_49 rfl h
  · replace h := (if_neg c16).symm.trans h
    refine xr_if_icmp_ge_n i_X6_note_6 c16 (q := 49) t_X6_note_6 (q2 := 9) rfl ?_
    refine xr_aload_n i_X6_note_9 rfl (q := 10) rfl ?_
    obtain ⟨c2, h⟩ := xi_if_some h
    obtain ⟨b3, eb3, h⟩ := xi_bind_some h
    refine xr_getR i_X6_note_10 xfe_X6_30 c2 eb3 (q := 13) rfl ?_
    refine xr_aload_n i_X6_note_13 rfl (q := 14) rfl ?_
    obtain ⟨c4, h⟩ := xi_if_some h
    refine xr_getI i_X6_note_14 xfe_X6_52 c4 (q := 17) rfl ?_
    refine xr_iload_n i_X6_note_17 rfl (q := 18) rfl ?_
    obtain ⟨c5, h⟩ := xi_if_some h
    refine xr_iastore i_X6_note_18 c5 (q := 19) rfl ?_
    refine xr_aload_n i_X6_note_19 rfl (q := 20) rfl ?_
    obtain ⟨c6, h⟩ := xi_if_some h
    obtain ⟨b7, eb7, h⟩ := xi_bind_some h
    refine xr_getR i_X6_note_20 xfe_X6_33 c6 eb7 (q := 23) rfl ?_
    refine xr_aload_n i_X6_note_23 rfl (q := 24) rfl ?_
    obtain ⟨c8, h⟩ := xi_if_some h
    refine xr_getI i_X6_note_24 xfe_X6_52 c8 (q := 27) rfl ?_
    refine xr_iload_n i_X6_note_27 rfl (q := 28) rfl ?_
    obtain ⟨c9, h⟩ := xi_if_some h
    refine xr_iastore i_X6_note_28 c9 (q := 29) rfl ?_
    refine xr_aload_n i_X6_note_29 rfl (q := 30) rfl ?_
    obtain ⟨c10, h⟩ := xi_if_some h
    obtain ⟨b11, eb11, h⟩ := xi_bind_some h
    refine xr_getR i_X6_note_30 xfe_X6_36 c10 eb11 (q := 33) rfl ?_
    refine xr_aload_n i_X6_note_33 rfl (q := 34) rfl ?_
    obtain ⟨c12, h⟩ := xi_if_some h
    refine xr_getI i_X6_note_34 xfe_X6_52 c12 (q := 37) rfl ?_
    refine xr_iload_n i_X6_note_37 rfl (q := 38) rfl ?_
    obtain ⟨c13, h⟩ := xi_if_some h
    refine xr_iastore i_X6_note_38 c13 (q := 39) rfl ?_
    refine xr_aload_n i_X6_note_39 rfl (q := 40) rfl ?_
    refine xr_dup_r i_X6_note_40 (q := 41) rfl ?_
    obtain ⟨c14, h⟩ := xi_if_some h
    refine xr_getI i_X6_note_41 xfe_X6_52 c14 (q := 44) rfl ?_
    refine xr_iconst i_X6_note_44 (q := 45) rfl ?_
    refine xr_iadd i_X6_note_45 (q := 46) rfl ?_
    obtain ⟨c15, h⟩ := xi_if_some h
    refine xr_putI i_X6_note_46 xfe_X6_52 c15 (q := 49) rfl ?_
    exact xr_return i_X6_note_49 rfl h
set_option maxRecDepth 100000 in
theorem po_X6_note {l : Launch} {E : xi_E} {S : xi_S} {D : va_G} {tys : List (ClassId × FieldType)} (hC : xCx E S tys) : xi_Pok l E S D vwCl tys xNs RX6 xTs cX6_note 4 0 (P_X6_note S) := ⟨xi_dc_ok, by rw [hC.2]; exact xfo_X6, xkio_X6, xklo_X6, xi_calls_ok (ins := .invokestatic) (fun _ h => absurd h List.not_mem_nil), xi_calls_ok (ins := .invokevirtual) (fun _ h => absurd h List.not_mem_nil)⟩
theorem sn_X6_note {l : Launch} {E : xi_E} {S : xi_S} {D : va_G} {tys : List (ClassId × FieldType)} (hC : xCx E S tys) : ∀ As m1 r m2, F_X6_note S As m1 = some (r, m2) → xi_Sound l E S D vwCl tys xNs xTs yX6_note cX6_note 4 none 0 As m1 r m2 := by
  intro As m1 r m2 h
  unfold F_X6_note at h
  split at h
  · exact xi_meth (P := P_X6_note S) (by decide) hC.1 (po_X6_note hC) (Nat.le_of_ble_eq_true rfl) rfl (xe_X6_note _ _ _ _ _ h)
  · exact xi_no h
theorem i_X6_addGoals_0 : xi_dc cX6_addGoals 0 = some (.aload_n 0, 1) := by decide +kernel
theorem i_X6_addGoals_1 : xi_dc cX6_addGoals 1 = some (.getfield 15, 3) := by decide +kernel
theorem i_X6_addGoals_4 : xi_dc cX6_addGoals 4 = some (.iconst 0, 1) := by decide +kernel
theorem i_X6_addGoals_5 : xi_dc cX6_addGoals 5 = some (.dup2, 1) := by decide +kernel
theorem i_X6_addGoals_6 : xi_dc cX6_addGoals 6 = some (.iaload, 1) := by decide +kernel
theorem i_X6_addGoals_7 : xi_dc cX6_addGoals 7 = some (.iload_n 2, 1) := by decide +kernel
theorem i_X6_addGoals_8 : xi_dc cX6_addGoals 8 = some (.iload_n 1, 1) := by decide +kernel
theorem i_X6_addGoals_9 : xi_dc cX6_addGoals 9 = some (.aload_n 0, 1) := by decide +kernel
theorem i_X6_addGoals_10 : xi_dc cX6_addGoals 10 = some (.iconst 0, 1) := by decide +kernel
theorem i_X6_addGoals_11 : xi_dc cX6_addGoals 11 = some (.invokevirtual 111, 3) := by decide +kernel
theorem i_X6_addGoals_14 : xi_dc cX6_addGoals 14 = some (.iand, 1) := by decide +kernel
theorem i_X6_addGoals_15 : xi_dc cX6_addGoals 15 = some (.invokestatic 114, 3) := by decide +kernel
theorem i_X6_addGoals_18 : xi_dc cX6_addGoals 18 = some (.imul, 1) := by decide +kernel
theorem i_X6_addGoals_19 : xi_dc cX6_addGoals 19 = some (.iadd, 1) := by decide +kernel
theorem i_X6_addGoals_20 : xi_dc cX6_addGoals 20 = some (.iastore, 1) := by decide +kernel
theorem i_X6_addGoals_21 : xi_dc cX6_addGoals 21 = some (.aload_n 0, 1) := by decide +kernel
theorem i_X6_addGoals_22 : xi_dc cX6_addGoals 22 = some (.getfield 15, 3) := by decide +kernel
theorem i_X6_addGoals_25 : xi_dc cX6_addGoals 25 = some (.iconst 1, 1) := by decide +kernel
theorem i_X6_addGoals_26 : xi_dc cX6_addGoals 26 = some (.dup2, 1) := by decide +kernel
theorem i_X6_addGoals_27 : xi_dc cX6_addGoals 27 = some (.iaload, 1) := by decide +kernel
theorem i_X6_addGoals_28 : xi_dc cX6_addGoals 28 = some (.iload_n 2, 1) := by decide +kernel
theorem i_X6_addGoals_29 : xi_dc cX6_addGoals 29 = some (.iload_n 1, 1) := by decide +kernel
theorem i_X6_addGoals_30 : xi_dc cX6_addGoals 30 = some (.aload_n 0, 1) := by decide +kernel
theorem i_X6_addGoals_31 : xi_dc cX6_addGoals 31 = some (.iconst 1, 1) := by decide +kernel
theorem i_X6_addGoals_32 : xi_dc cX6_addGoals 32 = some (.invokevirtual 111, 3) := by decide +kernel
theorem i_X6_addGoals_35 : xi_dc cX6_addGoals 35 = some (.iand, 1) := by decide +kernel
theorem i_X6_addGoals_36 : xi_dc cX6_addGoals 36 = some (.invokestatic 114, 3) := by decide +kernel
theorem i_X6_addGoals_39 : xi_dc cX6_addGoals 39 = some (.imul, 1) := by decide +kernel
theorem i_X6_addGoals_40 : xi_dc cX6_addGoals 40 = some (.iadd, 1) := by decide +kernel
theorem i_X6_addGoals_41 : xi_dc cX6_addGoals 41 = some (.iastore, 1) := by decide +kernel
theorem i_X6_addGoals_42 : xi_dc cX6_addGoals 42 = some (.return_, 1) := by decide +kernel
def P_X6_addGoals (S : xi_S) : xi_P := (xi_dc cX6_addGoals, xi_tab xfl_X6, xi_tab xki_X6, xi_tab xkl_X6, xi_tab xcs_X6, xi_tab xcv_X6, xi_calls [(114, xi_wS 1 (F_J6_bitCount_0f7a4 S))], xi_calls [(111, xi_wV S 8 1 (F_X6_membersOf S))], 0)
theorem cc_X6_addGoals_114 (S : xi_S) (a0 : Int32) (m : xi_M) : (P_X6_addGoals S).2.2.2.2.2.2.1 114 [.int a0] m = (E_J6_bitCount_0f7a4 S a0 m) := by
  show xi_calls [(114, xi_wS 1 (F_J6_bitCount_0f7a4 S))] 114 [.int a0] m = _
  refine Eq.trans (b := xi_wS 1 (F_J6_bitCount_0f7a4 S) [.int a0] m) (xi_calls_hit rfl) ?_
  exact xi_wS_eq rfl
theorem cc_X6_addGoals_111 (S : xi_S) (a0 : Nat) (a1 : Int32) (m : xi_M) : (P_X6_addGoals S).2.2.2.2.2.2.2.1 111 [.ref a0, .int a1] m = (if S.1 a0 = 8 then E_X6_membersOf S a0 a1 m else none) := by
  show xi_calls [(111, xi_wV S 8 1 (F_X6_membersOf S))] 111 [.ref a0, .int a1] m = _
  refine Eq.trans (b := xi_wV S 8 1 (F_X6_membersOf S) [.ref a0, .int a1] m) (xi_calls_hit rfl) ?_
  exact xi_wV_eq rfl
def E_X6_addGoals (S : xi_S) (v0 : Nat) (v1 : Int32) (v2 : Int32) (m : xi_M) : Option xi_R :=
  if S.1 v0 = 8 then (S.2.2 v0 6).bind fun b2 =>
    if S.1 b2 = 0 ∧ ¬ ((Int32.ofInt 0) < 0 ∨ S.2.1 b2 ≤ Int32.toNatClampNeg (Int32.ofInt 0)) then
      xi_bI (if S.1 v0 = 8 then E_X6_membersOf S v0 (Int32.ofInt 0) m else none) fun x5 m4 =>
      xi_bI (E_J6_bitCount_0f7a4 S (v1 &&& x5) m4) fun x7 m6 =>
      if S.1 b2 = 0 ∧ ¬ ((Int32.ofInt 0) < 0 ∨ S.2.1 b2 ≤ Int32.toNatClampNeg (Int32.ofInt 0)) then
        if S.1 v0 = 8 then (S.2.2 v0 6).bind fun b10 =>
          if S.1 b10 = 0 ∧ ¬ ((Int32.ofInt 1) < 0 ∨ S.2.1 b10 ≤ Int32.toNatClampNeg (Int32.ofInt 1)) then
            xi_bI (if S.1 v0 = 8 then E_X6_membersOf S v0 (Int32.ofInt 1) (xi_wI m6 b2 (Int32.toNatClampNeg (Int32.ofInt 0)) ((m.1 b2 (Int32.toNatClampNeg (Int32.ofInt 0))) + (v2 * x7))) else none) fun x13 m12 =>
            xi_bI (E_J6_bitCount_0f7a4 S (v1 &&& x13) m12) fun x15 m14 =>
            if S.1 b10 = 0 ∧ ¬ ((Int32.ofInt 1) < 0 ∨ S.2.1 b10 ≤ Int32.toNatClampNeg (Int32.ofInt 1)) then
              some (none, (xi_wI m14 b10 (Int32.toNatClampNeg (Int32.ofInt 1)) (((xi_wI m6 b2 (Int32.toNatClampNeg (Int32.ofInt 0)) ((m.1 b2 (Int32.toNatClampNeg (Int32.ofInt 0))) + (v2 * x7))).1 b10 (Int32.toNatClampNeg (Int32.ofInt 1))) + (v2 * x15))))
            else none
          else none
        else none
      else none
    else none
  else none
def F_X6_addGoals (S : xi_S) : xi_F := fun As m => match As with
  | [.ref v0, .int v1, .int v2] => E_X6_addGoals S v0 v1 v2 m
  | _ => none
set_option maxRecDepth 100000 in
set_option maxHeartbeats 4000000 in
theorem xe_X6_addGoals {S : xi_S} {res : xi_R} (v0 : Nat) (v1 : Int32) (v2 : Int32) (m : xi_M) (h : E_X6_addGoals S v0 v1 v2 m = some res) : xi_X S (P_X6_addGoals S) (0, [some (.ref v0), some (.int v1), some (.int v2)], [], m) res := by
  unfold E_X6_addGoals at h
  refine xr_aload_n i_X6_addGoals_0 rfl (q := 1) rfl ?_
  obtain ⟨c1, h⟩ := xi_if_some h
  obtain ⟨b2, eb2, h⟩ := xi_bind_some h
  refine xr_getR i_X6_addGoals_1 xfe_X6_15 c1 eb2 (q := 4) rfl ?_
  refine xr_iconst i_X6_addGoals_4 (q := 5) rfl ?_
  refine xr_dup2 i_X6_addGoals_5 (q := 6) rfl ?_
  obtain ⟨c3, h⟩ := xi_if_some h
  refine xr_iaload i_X6_addGoals_6 c3 (q := 7) rfl ?_
  refine xr_iload_n i_X6_addGoals_7 rfl (q := 8) rfl ?_
  refine xr_iload_n i_X6_addGoals_8 rfl (q := 9) rfl ?_
  refine xr_aload_n i_X6_addGoals_9 rfl (q := 10) rfl ?_
  refine xr_iconst i_X6_addGoals_10 (q := 11) rfl ?_
  obtain ⟨x5, m4, em4, h⟩ := xi_bI_some h
  refine xr_VI i_X6_addGoals_11 xcve_X6_111 rfl (As := [.ref v0, .int (Int32.ofInt 0)]) rfl (rest := [.int v1, .int v2, .int (m.1 b2 (Int32.toNatClampNeg (Int32.ofInt 0))), .int (Int32.ofInt 0), .ref b2]) rfl ((cc_X6_addGoals_111 S _ _ _).trans em4) (q := 14) rfl ?_
  refine xr_iand i_X6_addGoals_14 (q := 15) rfl ?_
  obtain ⟨x7, m6, em6, h⟩ := xi_bI_some h
  refine xr_SI i_X6_addGoals_15 xcse_X6_114 rfl (As := [.int (v1 &&& x5)]) rfl (rest := [.int v2, .int (m.1 b2 (Int32.toNatClampNeg (Int32.ofInt 0))), .int (Int32.ofInt 0), .ref b2]) rfl ((cc_X6_addGoals_114 S _ _).trans em6) (q := 18) rfl ?_
  refine xr_imul i_X6_addGoals_18 (q := 19) rfl ?_
  refine xr_iadd i_X6_addGoals_19 (q := 20) rfl ?_
  obtain ⟨c8, h⟩ := xi_if_some h
  refine xr_iastore i_X6_addGoals_20 c8 (q := 21) rfl ?_
  refine xr_aload_n i_X6_addGoals_21 rfl (q := 22) rfl ?_
  obtain ⟨c9, h⟩ := xi_if_some h
  obtain ⟨b10, eb10, h⟩ := xi_bind_some h
  refine xr_getR i_X6_addGoals_22 xfe_X6_15 c9 eb10 (q := 25) rfl ?_
  refine xr_iconst i_X6_addGoals_25 (q := 26) rfl ?_
  refine xr_dup2 i_X6_addGoals_26 (q := 27) rfl ?_
  obtain ⟨c11, h⟩ := xi_if_some h
  refine xr_iaload i_X6_addGoals_27 c11 (q := 28) rfl ?_
  refine xr_iload_n i_X6_addGoals_28 rfl (q := 29) rfl ?_
  refine xr_iload_n i_X6_addGoals_29 rfl (q := 30) rfl ?_
  refine xr_aload_n i_X6_addGoals_30 rfl (q := 31) rfl ?_
  refine xr_iconst i_X6_addGoals_31 (q := 32) rfl ?_
  obtain ⟨x13, m12, em12, h⟩ := xi_bI_some h
  refine xr_VI i_X6_addGoals_32 xcve_X6_111 rfl (As := [.ref v0, .int (Int32.ofInt 1)]) rfl (rest := [.int v1, .int v2, .int ((xi_wI m6 b2 (Int32.toNatClampNeg (Int32.ofInt 0)) ((m.1 b2 (Int32.toNatClampNeg (Int32.ofInt 0))) + (v2 * x7))).1 b10 (Int32.toNatClampNeg (Int32.ofInt 1))), .int (Int32.ofInt 1), .ref b10]) rfl ((cc_X6_addGoals_111 S _ _ _).trans em12) (q := 35) rfl ?_
  refine xr_iand i_X6_addGoals_35 (q := 36) rfl ?_
  obtain ⟨x15, m14, em14, h⟩ := xi_bI_some h
  refine xr_SI i_X6_addGoals_36 xcse_X6_114 rfl (As := [.int (v1 &&& x13)]) rfl (rest := [.int v2, .int ((xi_wI m6 b2 (Int32.toNatClampNeg (Int32.ofInt 0)) ((m.1 b2 (Int32.toNatClampNeg (Int32.ofInt 0))) + (v2 * x7))).1 b10 (Int32.toNatClampNeg (Int32.ofInt 1))), .int (Int32.ofInt 1), .ref b10]) rfl ((cc_X6_addGoals_114 S _ _).trans em14) (q := 39) rfl ?_
  refine xr_imul i_X6_addGoals_39 (q := 40) rfl ?_
  refine xr_iadd i_X6_addGoals_40 (q := 41) rfl ?_
  obtain ⟨c16, h⟩ := xi_if_some h
  refine xr_iastore i_X6_addGoals_41 c16 (q := 42) rfl ?_
  exact xr_return i_X6_addGoals_42 rfl h
set_option maxRecDepth 100000 in
theorem po_X6_addGoals {l : Launch} {E : xi_E} {S : xi_S} {D : va_G} {tys : List (ClassId × FieldType)} (hC : xCx E S tys) : xi_Pok l E S D vwCl tys xNs RX6 xTs cX6_addGoals 3 1 (P_X6_addGoals S) := ⟨xi_dc_ok, by rw [hC.2]; exact xfo_X6, xkio_X6, xklo_X6, xi_calls_ok (ins := .invokestatic) (List.forall_mem_cons.mpr ⟨(xc_X6_114 (sn_J6_bitCount_0f7a4 hC) (by decide)), fun _ h => absurd h List.not_mem_nil⟩), xi_calls_ok (ins := .invokevirtual) (List.forall_mem_cons.mpr ⟨(xc_X6_111 hC.1 (sn_X6_membersOf hC) (by decide)), fun _ h => absurd h List.not_mem_nil⟩)⟩
theorem sn_X6_addGoals {l : Launch} {E : xi_E} {S : xi_S} {D : va_G} {tys : List (ClassId × FieldType)} (hC : xCx E S tys) : ∀ As m1 r m2, F_X6_addGoals S As m1 = some (r, m2) → xi_Sound l E S D vwCl tys xNs xTs yX6_addGoals cX6_addGoals 3 none 1 As m1 r m2 := by
  intro As m1 r m2 h
  unfold F_X6_addGoals at h
  split at h
  · exact xi_meth (P := P_X6_addGoals S) (by decide) hC.1 (po_X6_addGoals hC) (Nat.le_of_ble_eq_true rfl) rfl (xe_X6_addGoals _ _ _ _ h)
  · exact xi_no h
theorem i_X6_endTerm_0 : xi_dc cX6_endTerm 0 = some (.aload_n 0, 1) := by decide +kernel
theorem i_X6_endTerm_1 : xi_dc cX6_endTerm 1 = some (.iconst 0, 1) := by decide +kernel
theorem i_X6_endTerm_2 : xi_dc cX6_endTerm 2 = some (.iconst 0, 1) := by decide +kernel
theorem i_X6_endTerm_3 : xi_dc cX6_endTerm 3 = some (.iload_n 1, 1) := by decide +kernel
theorem i_X6_endTerm_4 : xi_dc cX6_endTerm 4 = some (.invokevirtual 129, 3) := by decide +kernel
theorem i_X6_endTerm_7 : xi_dc cX6_endTerm 7 = some (.aload_n 0, 1) := by decide +kernel
theorem i_X6_endTerm_8 : xi_dc cX6_endTerm 8 = some (.iload_n 1, 1) := by decide +kernel
theorem i_X6_endTerm_9 : xi_dc cX6_endTerm 9 = some (.iconst 1, 1) := by decide +kernel
theorem i_X6_endTerm_10 : xi_dc cX6_endTerm 10 = some (.invokevirtual 133, 3) := by decide +kernel
theorem i_X6_endTerm_13 : xi_dc cX6_endTerm 13 = some (.aload_n 0, 1) := by decide +kernel
theorem i_X6_endTerm_14 : xi_dc cX6_endTerm 14 = some (.dup, 1) := by decide +kernel
theorem i_X6_endTerm_15 : xi_dc cX6_endTerm 15 = some (.getfield 46, 3) := by decide +kernel
theorem i_X6_endTerm_18 : xi_dc cX6_endTerm 18 = some (.iconst 1, 1) := by decide +kernel
theorem i_X6_endTerm_19 : xi_dc cX6_endTerm 19 = some (.iadd, 1) := by decide +kernel
theorem i_X6_endTerm_20 : xi_dc cX6_endTerm 20 = some (.putfield 46, 3) := by decide +kernel
theorem i_X6_endTerm_23 : xi_dc cX6_endTerm 23 = some (.return_, 1) := by decide +kernel
def P_X6_endTerm (S : xi_S) : xi_P := (xi_dc cX6_endTerm, xi_tab xfl_X6, xi_tab xki_X6, xi_tab xkl_X6, xi_tab xcs_X6, xi_tab xcv_X6, xi_calls [], xi_calls [(129, xi_wV S 8 3 (F_X6_note S)), (133, xi_wV S 8 2 (F_X6_addGoals S))], 0)
theorem cc_X6_endTerm_129 (S : xi_S) (a0 : Nat) (a1 : Int32) (a2 : Int32) (a3 : Int32) (m : xi_M) : (P_X6_endTerm S).2.2.2.2.2.2.2.1 129 [.ref a0, .int a1, .int a2, .int a3] m = (if S.1 a0 = 8 then E_X6_note S a0 a1 a2 a3 m else none) := by
  show xi_calls [(129, xi_wV S 8 3 (F_X6_note S)), (133, xi_wV S 8 2 (F_X6_addGoals S))] 129 [.ref a0, .int a1, .int a2, .int a3] m = _
  refine Eq.trans (b := xi_wV S 8 3 (F_X6_note S) [.ref a0, .int a1, .int a2, .int a3] m) (xi_calls_hit rfl) ?_
  exact xi_wV_eq rfl
theorem cc_X6_endTerm_133 (S : xi_S) (a0 : Nat) (a1 : Int32) (a2 : Int32) (m : xi_M) : (P_X6_endTerm S).2.2.2.2.2.2.2.1 133 [.ref a0, .int a1, .int a2] m = (if S.1 a0 = 8 then E_X6_addGoals S a0 a1 a2 m else none) := by
  show xi_calls [(129, xi_wV S 8 3 (F_X6_note S)), (133, xi_wV S 8 2 (F_X6_addGoals S))] 133 [.ref a0, .int a1, .int a2] m = _
  refine Eq.trans (b := xi_calls [(133, xi_wV S 8 2 (F_X6_addGoals S))] 133 [.ref a0, .int a1, .int a2] m) (xi_calls_miss rfl) ?_
  refine Eq.trans (b := xi_wV S 8 2 (F_X6_addGoals S) [.ref a0, .int a1, .int a2] m) (xi_calls_hit rfl) ?_
  exact xi_wV_eq rfl
def E_X6_endTerm (S : xi_S) (v0 : Nat) (v1 : Int32) (m : xi_M) : Option xi_R :=
  xi_bV (if S.1 v0 = 8 then E_X6_note S v0 (Int32.ofInt 0) (Int32.ofInt 0) v1 m else none) fun m1 =>
  xi_bV (if S.1 v0 = 8 then E_X6_addGoals S v0 v1 (Int32.ofInt 1) m1 else none) fun m2 =>
  if S.1 v0 = 8 then
    if S.1 v0 = 8 then
      some (none, (xi_wI m2 v0 2 ((m2.1 v0 2) + (Int32.ofInt 1))))
    else none
  else none
def F_X6_endTerm (S : xi_S) : xi_F := fun As m => match As with
  | [.ref v0, .int v1] => E_X6_endTerm S v0 v1 m
  | _ => none
set_option maxRecDepth 100000 in
set_option maxHeartbeats 4000000 in
theorem xe_X6_endTerm {S : xi_S} {res : xi_R} (v0 : Nat) (v1 : Int32) (m : xi_M) (h : E_X6_endTerm S v0 v1 m = some res) : xi_X S (P_X6_endTerm S) (0, [some (.ref v0), some (.int v1)], [], m) res := by
  unfold E_X6_endTerm at h
  refine xr_aload_n i_X6_endTerm_0 rfl (q := 1) rfl ?_
  refine xr_iconst i_X6_endTerm_1 (q := 2) rfl ?_
  refine xr_iconst i_X6_endTerm_2 (q := 3) rfl ?_
  refine xr_iload_n i_X6_endTerm_3 rfl (q := 4) rfl ?_
  obtain ⟨m1, em1, h⟩ := xi_bV_some h
  refine xr_VV i_X6_endTerm_4 xcve_X6_129 rfl (As := [.ref v0, .int (Int32.ofInt 0), .int (Int32.ofInt 0), .int v1]) rfl (rest := []) rfl ((cc_X6_endTerm_129 S _ _ _ _ _).trans em1) (q := 7) rfl ?_
  refine xr_aload_n i_X6_endTerm_7 rfl (q := 8) rfl ?_
  refine xr_iload_n i_X6_endTerm_8 rfl (q := 9) rfl ?_
  refine xr_iconst i_X6_endTerm_9 (q := 10) rfl ?_
  obtain ⟨m2, em2, h⟩ := xi_bV_some h
  refine xr_VV i_X6_endTerm_10 xcve_X6_133 rfl (As := [.ref v0, .int v1, .int (Int32.ofInt 1)]) rfl (rest := []) rfl ((cc_X6_endTerm_133 S _ _ _ _).trans em2) (q := 13) rfl ?_
  refine xr_aload_n i_X6_endTerm_13 rfl (q := 14) rfl ?_
  refine xr_dup_r i_X6_endTerm_14 (q := 15) rfl ?_
  obtain ⟨c3, h⟩ := xi_if_some h
  refine xr_getI i_X6_endTerm_15 xfe_X6_46 c3 (q := 18) rfl ?_
  refine xr_iconst i_X6_endTerm_18 (q := 19) rfl ?_
  refine xr_iadd i_X6_endTerm_19 (q := 20) rfl ?_
  obtain ⟨c4, h⟩ := xi_if_some h
  refine xr_putI i_X6_endTerm_20 xfe_X6_46 c4 (q := 23) rfl ?_
  exact xr_return i_X6_endTerm_23 rfl h
set_option maxRecDepth 100000 in
theorem po_X6_endTerm {l : Launch} {E : xi_E} {S : xi_S} {D : va_G} {tys : List (ClassId × FieldType)} (hC : xCx E S tys) : xi_Pok l E S D vwCl tys xNs RX6 xTs cX6_endTerm 2 2 (P_X6_endTerm S) := ⟨xi_dc_ok, by rw [hC.2]; exact xfo_X6, xkio_X6, xklo_X6, xi_calls_ok (ins := .invokestatic) (fun _ h => absurd h List.not_mem_nil), xi_calls_ok (ins := .invokevirtual) (List.forall_mem_cons.mpr ⟨(xc_X6_129 hC.1 (sn_X6_note hC) (by decide)), List.forall_mem_cons.mpr ⟨(xc_X6_133 hC.1 (sn_X6_addGoals hC) (by decide)), fun _ h => absurd h List.not_mem_nil⟩⟩)⟩
theorem sn_X6_endTerm {l : Launch} {E : xi_E} {S : xi_S} {D : va_G} {tys : List (ClassId × FieldType)} (hC : xCx E S tys) : ∀ As m1 r m2, F_X6_endTerm S As m1 = some (r, m2) → xi_Sound l E S D vwCl tys xNs xTs yX6_endTerm cX6_endTerm 2 none 2 As m1 r m2 := by
  intro As m1 r m2 h
  unfold F_X6_endTerm at h
  split at h
  · exact xi_meth (P := P_X6_endTerm S) (by decide) hC.1 (po_X6_endTerm hC) (Nat.le_of_ble_eq_true rfl) rfl (xe_X6_endTerm _ _ _ h)
  · exact xi_no h
theorem i_X6_moveCoat_0 : xi_dc cX6_moveCoat 0 = some (.aload_n 0, 1) := by decide +kernel
theorem i_X6_moveCoat_1 : xi_dc cX6_moveCoat 1 = some (.iconst 1, 1) := by decide +kernel
theorem i_X6_moveCoat_2 : xi_dc cX6_moveCoat 2 = some (.iload_n 1, 1) := by decide +kernel
theorem i_X6_moveCoat_3 : xi_dc cX6_moveCoat 3 = some (.aload_n 0, 1) := by decide +kernel
theorem i_X6_moveCoat_4 : xi_dc cX6_moveCoat 4 = some (.getfield 9, 3) := by decide +kernel
theorem i_X6_moveCoat_7 : xi_dc cX6_moveCoat 7 = some (.iload_n 1, 1) := by decide +kernel
theorem i_X6_moveCoat_8 : xi_dc cX6_moveCoat 8 = some (.iaload, 1) := by decide +kernel
theorem i_X6_moveCoat_9 : xi_dc cX6_moveCoat 9 = some (.invokevirtual 129, 3) := by decide +kernel
theorem i_X6_moveCoat_12 : xi_dc cX6_moveCoat 12 = some (.aload_n 0, 1) := by decide +kernel
theorem i_X6_moveCoat_13 : xi_dc cX6_moveCoat 13 = some (.getfield 9, 3) := by decide +kernel
theorem i_X6_moveCoat_16 : xi_dc cX6_moveCoat 16 = some (.iload_n 1, 1) := by decide +kernel
theorem i_X6_moveCoat_17 : xi_dc cX6_moveCoat 17 = some (.dup2, 1) := by decide +kernel
theorem i_X6_moveCoat_18 : xi_dc cX6_moveCoat 18 = some (.iaload, 1) := by decide +kernel
theorem i_X6_moveCoat_19 : xi_dc cX6_moveCoat 19 = some (.iload_n 2, 1) := by decide +kernel
theorem i_X6_moveCoat_20 : xi_dc cX6_moveCoat 20 = some (.iadd, 1) := by decide +kernel
theorem i_X6_moveCoat_21 : xi_dc cX6_moveCoat 21 = some (.iastore, 1) := by decide +kernel
theorem i_X6_moveCoat_22 : xi_dc cX6_moveCoat 22 = some (.return_, 1) := by decide +kernel
def P_X6_moveCoat (S : xi_S) : xi_P := (xi_dc cX6_moveCoat, xi_tab xfl_X6, xi_tab xki_X6, xi_tab xkl_X6, xi_tab xcs_X6, xi_tab xcv_X6, xi_calls [], xi_calls [(129, xi_wV S 8 3 (F_X6_note S))], 0)
theorem cc_X6_moveCoat_129 (S : xi_S) (a0 : Nat) (a1 : Int32) (a2 : Int32) (a3 : Int32) (m : xi_M) : (P_X6_moveCoat S).2.2.2.2.2.2.2.1 129 [.ref a0, .int a1, .int a2, .int a3] m = (if S.1 a0 = 8 then E_X6_note S a0 a1 a2 a3 m else none) := by
  show xi_calls [(129, xi_wV S 8 3 (F_X6_note S))] 129 [.ref a0, .int a1, .int a2, .int a3] m = _
  refine Eq.trans (b := xi_wV S 8 3 (F_X6_note S) [.ref a0, .int a1, .int a2, .int a3] m) (xi_calls_hit rfl) ?_
  exact xi_wV_eq rfl
def E_X6_moveCoat (S : xi_S) (v0 : Nat) (v1 : Int32) (v2 : Int32) (m : xi_M) : Option xi_R :=
  if S.1 v0 = 8 then (S.2.2 v0 5).bind fun b2 =>
    if S.1 b2 = 0 ∧ ¬ (v1 < 0 ∨ S.2.1 b2 ≤ Int32.toNatClampNeg v1) then
      xi_bV (if S.1 v0 = 8 then E_X6_note S v0 (Int32.ofInt 1) v1 (m.1 b2 (Int32.toNatClampNeg v1)) m else none) fun m4 =>
      if S.1 v0 = 8 then (S.2.2 v0 5).bind fun b6 =>
        if S.1 b6 = 0 ∧ ¬ (v1 < 0 ∨ S.2.1 b6 ≤ Int32.toNatClampNeg v1) then
          if S.1 b6 = 0 ∧ ¬ (v1 < 0 ∨ S.2.1 b6 ≤ Int32.toNatClampNeg v1) then
            some (none, (xi_wI m4 b6 (Int32.toNatClampNeg v1) ((m4.1 b6 (Int32.toNatClampNeg v1)) + v2)))
          else none
        else none
      else none
    else none
  else none
def F_X6_moveCoat (S : xi_S) : xi_F := fun As m => match As with
  | [.ref v0, .int v1, .int v2] => E_X6_moveCoat S v0 v1 v2 m
  | _ => none
set_option maxRecDepth 100000 in
set_option maxHeartbeats 4000000 in
theorem xe_X6_moveCoat {S : xi_S} {res : xi_R} (v0 : Nat) (v1 : Int32) (v2 : Int32) (m : xi_M) (h : E_X6_moveCoat S v0 v1 v2 m = some res) : xi_X S (P_X6_moveCoat S) (0, [some (.ref v0), some (.int v1), some (.int v2)], [], m) res := by
  unfold E_X6_moveCoat at h
  refine xr_aload_n i_X6_moveCoat_0 rfl (q := 1) rfl ?_
  refine xr_iconst i_X6_moveCoat_1 (q := 2) rfl ?_
  refine xr_iload_n i_X6_moveCoat_2 rfl (q := 3) rfl ?_
  refine xr_aload_n i_X6_moveCoat_3 rfl (q := 4) rfl ?_
  obtain ⟨c1, h⟩ := xi_if_some h
  obtain ⟨b2, eb2, h⟩ := xi_bind_some h
  refine xr_getR i_X6_moveCoat_4 xfe_X6_9 c1 eb2 (q := 7) rfl ?_
  refine xr_iload_n i_X6_moveCoat_7 rfl (q := 8) rfl ?_
  obtain ⟨c3, h⟩ := xi_if_some h
  refine xr_iaload i_X6_moveCoat_8 c3 (q := 9) rfl ?_
  obtain ⟨m4, em4, h⟩ := xi_bV_some h
  refine xr_VV i_X6_moveCoat_9 xcve_X6_129 rfl (As := [.ref v0, .int (Int32.ofInt 1), .int v1, .int (m.1 b2 (Int32.toNatClampNeg v1))]) rfl (rest := []) rfl ((cc_X6_moveCoat_129 S _ _ _ _ _).trans em4) (q := 12) rfl ?_
  refine xr_aload_n i_X6_moveCoat_12 rfl (q := 13) rfl ?_
  obtain ⟨c5, h⟩ := xi_if_some h
  obtain ⟨b6, eb6, h⟩ := xi_bind_some h
  refine xr_getR i_X6_moveCoat_13 xfe_X6_9 c5 eb6 (q := 16) rfl ?_
  refine xr_iload_n i_X6_moveCoat_16 rfl (q := 17) rfl ?_
  refine xr_dup2 i_X6_moveCoat_17 (q := 18) rfl ?_
  obtain ⟨c7, h⟩ := xi_if_some h
  refine xr_iaload i_X6_moveCoat_18 c7 (q := 19) rfl ?_
  refine xr_iload_n i_X6_moveCoat_19 rfl (q := 20) rfl ?_
  refine xr_iadd i_X6_moveCoat_20 (q := 21) rfl ?_
  obtain ⟨c8, h⟩ := xi_if_some h
  refine xr_iastore i_X6_moveCoat_21 c8 (q := 22) rfl ?_
  exact xr_return i_X6_moveCoat_22 rfl h
set_option maxRecDepth 100000 in
theorem po_X6_moveCoat {l : Launch} {E : xi_E} {S : xi_S} {D : va_G} {tys : List (ClassId × FieldType)} (hC : xCx E S tys) : xi_Pok l E S D vwCl tys xNs RX6 xTs cX6_moveCoat 3 1 (P_X6_moveCoat S) := ⟨xi_dc_ok, by rw [hC.2]; exact xfo_X6, xkio_X6, xklo_X6, xi_calls_ok (ins := .invokestatic) (fun _ h => absurd h List.not_mem_nil), xi_calls_ok (ins := .invokevirtual) (List.forall_mem_cons.mpr ⟨(xc_X6_129 hC.1 (sn_X6_note hC) (by decide)), fun _ h => absurd h List.not_mem_nil⟩)⟩
theorem sn_X6_moveCoat {l : Launch} {E : xi_E} {S : xi_S} {D : va_G} {tys : List (ClassId × FieldType)} (hC : xCx E S tys) : ∀ As m1 r m2, F_X6_moveCoat S As m1 = some (r, m2) → xi_Sound l E S D vwCl tys xNs xTs yX6_moveCoat cX6_moveCoat 3 none 1 As m1 r m2 := by
  intro As m1 r m2 h
  unfold F_X6_moveCoat at h
  split at h
  · exact xi_meth (P := P_X6_moveCoat S) (by decide) hC.1 (po_X6_moveCoat hC) (Nat.le_of_ble_eq_true rfl) rfl (xe_X6_moveCoat _ _ _ _ h)
  · exact xi_no h
theorem i_X6_turnWeather_0 : xi_dc cX6_turnWeather 0 = some (.aload_n 0, 1) := by decide +kernel
theorem i_X6_turnWeather_1 : xi_dc cX6_turnWeather 1 = some (.iconst 2, 1) := by decide +kernel
theorem i_X6_turnWeather_2 : xi_dc cX6_turnWeather 2 = some (.iconst 0, 1) := by decide +kernel
theorem i_X6_turnWeather_3 : xi_dc cX6_turnWeather 3 = some (.aload_n 0, 1) := by decide +kernel
theorem i_X6_turnWeather_4 : xi_dc cX6_turnWeather 4 = some (.getfield 49, 3) := by decide +kernel
theorem i_X6_turnWeather_7 : xi_dc cX6_turnWeather 7 = some (.invokevirtual 129, 3) := by decide +kernel
theorem i_X6_turnWeather_10 : xi_dc cX6_turnWeather 10 = some (.aload_n 0, 1) := by decide +kernel
theorem i_X6_turnWeather_11 : xi_dc cX6_turnWeather 11 = some (.iload_n 1, 1) := by decide +kernel
theorem i_X6_turnWeather_12 : xi_dc cX6_turnWeather 12 = some (.putfield 49, 3) := by decide +kernel
theorem i_X6_turnWeather_15 : xi_dc cX6_turnWeather 15 = some (.return_, 1) := by decide +kernel
def P_X6_turnWeather (S : xi_S) : xi_P := (xi_dc cX6_turnWeather, xi_tab xfl_X6, xi_tab xki_X6, xi_tab xkl_X6, xi_tab xcs_X6, xi_tab xcv_X6, xi_calls [], xi_calls [(129, xi_wV S 8 3 (F_X6_note S))], 0)
theorem cc_X6_turnWeather_129 (S : xi_S) (a0 : Nat) (a1 : Int32) (a2 : Int32) (a3 : Int32) (m : xi_M) : (P_X6_turnWeather S).2.2.2.2.2.2.2.1 129 [.ref a0, .int a1, .int a2, .int a3] m = (if S.1 a0 = 8 then E_X6_note S a0 a1 a2 a3 m else none) := by
  show xi_calls [(129, xi_wV S 8 3 (F_X6_note S))] 129 [.ref a0, .int a1, .int a2, .int a3] m = _
  refine Eq.trans (b := xi_wV S 8 3 (F_X6_note S) [.ref a0, .int a1, .int a2, .int a3] m) (xi_calls_hit rfl) ?_
  exact xi_wV_eq rfl
def E_X6_turnWeather (S : xi_S) (v0 : Nat) (v1 : Int32) (m : xi_M) : Option xi_R :=
  if S.1 v0 = 8 then
    xi_bV (if S.1 v0 = 8 then E_X6_note S v0 (Int32.ofInt 2) (Int32.ofInt 0) (m.1 v0 3) m else none) fun m2 =>
    if S.1 v0 = 8 then
      some (none, (xi_wI m2 v0 3 v1))
    else none
  else none
def F_X6_turnWeather (S : xi_S) : xi_F := fun As m => match As with
  | [.ref v0, .int v1] => E_X6_turnWeather S v0 v1 m
  | _ => none
set_option maxRecDepth 100000 in
set_option maxHeartbeats 4000000 in
theorem xe_X6_turnWeather {S : xi_S} {res : xi_R} (v0 : Nat) (v1 : Int32) (m : xi_M) (h : E_X6_turnWeather S v0 v1 m = some res) : xi_X S (P_X6_turnWeather S) (0, [some (.ref v0), some (.int v1)], [], m) res := by
  unfold E_X6_turnWeather at h
  refine xr_aload_n i_X6_turnWeather_0 rfl (q := 1) rfl ?_
  refine xr_iconst i_X6_turnWeather_1 (q := 2) rfl ?_
  refine xr_iconst i_X6_turnWeather_2 (q := 3) rfl ?_
  refine xr_aload_n i_X6_turnWeather_3 rfl (q := 4) rfl ?_
  obtain ⟨c1, h⟩ := xi_if_some h
  refine xr_getI i_X6_turnWeather_4 xfe_X6_49 c1 (q := 7) rfl ?_
  obtain ⟨m2, em2, h⟩ := xi_bV_some h
  refine xr_VV i_X6_turnWeather_7 xcve_X6_129 rfl (As := [.ref v0, .int (Int32.ofInt 2), .int (Int32.ofInt 0), .int (m.1 v0 3)]) rfl (rest := []) rfl ((cc_X6_turnWeather_129 S _ _ _ _ _).trans em2) (q := 10) rfl ?_
  refine xr_aload_n i_X6_turnWeather_10 rfl (q := 11) rfl ?_
  refine xr_iload_n i_X6_turnWeather_11 rfl (q := 12) rfl ?_
  obtain ⟨c3, h⟩ := xi_if_some h
  refine xr_putI i_X6_turnWeather_12 xfe_X6_49 c3 (q := 15) rfl ?_
  exact xr_return i_X6_turnWeather_15 rfl h
set_option maxRecDepth 100000 in
theorem po_X6_turnWeather {l : Launch} {E : xi_E} {S : xi_S} {D : va_G} {tys : List (ClassId × FieldType)} (hC : xCx E S tys) : xi_Pok l E S D vwCl tys xNs RX6 xTs cX6_turnWeather 2 1 (P_X6_turnWeather S) := ⟨xi_dc_ok, by rw [hC.2]; exact xfo_X6, xkio_X6, xklo_X6, xi_calls_ok (ins := .invokestatic) (fun _ h => absurd h List.not_mem_nil), xi_calls_ok (ins := .invokevirtual) (List.forall_mem_cons.mpr ⟨(xc_X6_129 hC.1 (sn_X6_note hC) (by decide)), fun _ h => absurd h List.not_mem_nil⟩)⟩
theorem sn_X6_turnWeather {l : Launch} {E : xi_E} {S : xi_S} {D : va_G} {tys : List (ClassId × FieldType)} (hC : xCx E S tys) : ∀ As m1 r m2, F_X6_turnWeather S As m1 = some (r, m2) → xi_Sound l E S D vwCl tys xNs xTs yX6_turnWeather cX6_turnWeather 2 none 1 As m1 r m2 := by
  intro As m1 r m2 h
  unfold F_X6_turnWeather at h
  split at h
  · exact xi_meth (P := P_X6_turnWeather S) (by decide) hC.1 (po_X6_turnWeather hC) (Nat.le_of_ble_eq_true rfl) rfl (xe_X6_turnWeather _ _ _ h)
  · exact xi_no h
theorem i_X6_send_0 : xi_dc cX6_send 0 = some (.aload_n 0, 1) := by decide +kernel
theorem i_X6_send_1 : xi_dc cX6_send 1 = some (.iconst 3, 1) := by decide +kernel
theorem i_X6_send_2 : xi_dc cX6_send 2 = some (.iload_n 1, 1) := by decide +kernel
theorem i_X6_send_3 : xi_dc cX6_send 3 = some (.aload_n 0, 1) := by decide +kernel
theorem i_X6_send_4 : xi_dc cX6_send 4 = some (.getfield 24, 3) := by decide +kernel
theorem i_X6_send_7 : xi_dc cX6_send 7 = some (.iload_n 1, 1) := by decide +kernel
theorem i_X6_send_8 : xi_dc cX6_send 8 = some (.iaload, 1) := by decide +kernel
theorem i_X6_send_9 : xi_dc cX6_send 9 = some (.invokevirtual 129, 3) := by decide +kernel
theorem i_X6_send_12 : xi_dc cX6_send 12 = some (.aload_n 0, 1) := by decide +kernel
theorem i_X6_send_13 : xi_dc cX6_send 13 = some (.getfield 24, 3) := by decide +kernel
theorem i_X6_send_16 : xi_dc cX6_send 16 = some (.iload_n 1, 1) := by decide +kernel
theorem i_X6_send_17 : xi_dc cX6_send 17 = some (.iload_n 2, 1) := by decide +kernel
theorem i_X6_send_18 : xi_dc cX6_send 18 = some (.iastore, 1) := by decide +kernel
theorem i_X6_send_19 : xi_dc cX6_send 19 = some (.return_, 1) := by decide +kernel
def P_X6_send (S : xi_S) : xi_P := (xi_dc cX6_send, xi_tab xfl_X6, xi_tab xki_X6, xi_tab xkl_X6, xi_tab xcs_X6, xi_tab xcv_X6, xi_calls [], xi_calls [(129, xi_wV S 8 3 (F_X6_note S))], 0)
theorem cc_X6_send_129 (S : xi_S) (a0 : Nat) (a1 : Int32) (a2 : Int32) (a3 : Int32) (m : xi_M) : (P_X6_send S).2.2.2.2.2.2.2.1 129 [.ref a0, .int a1, .int a2, .int a3] m = (if S.1 a0 = 8 then E_X6_note S a0 a1 a2 a3 m else none) := by
  show xi_calls [(129, xi_wV S 8 3 (F_X6_note S))] 129 [.ref a0, .int a1, .int a2, .int a3] m = _
  refine Eq.trans (b := xi_wV S 8 3 (F_X6_note S) [.ref a0, .int a1, .int a2, .int a3] m) (xi_calls_hit rfl) ?_
  exact xi_wV_eq rfl
def E_X6_send (S : xi_S) (v0 : Nat) (v1 : Int32) (v2 : Int32) (m : xi_M) : Option xi_R :=
  if S.1 v0 = 8 then (S.2.2 v0 9).bind fun b2 =>
    if S.1 b2 = 0 ∧ ¬ (v1 < 0 ∨ S.2.1 b2 ≤ Int32.toNatClampNeg v1) then
      xi_bV (if S.1 v0 = 8 then E_X6_note S v0 (Int32.ofInt 3) v1 (m.1 b2 (Int32.toNatClampNeg v1)) m else none) fun m4 =>
      if S.1 v0 = 8 then (S.2.2 v0 9).bind fun b6 =>
        if S.1 b6 = 0 ∧ ¬ (v1 < 0 ∨ S.2.1 b6 ≤ Int32.toNatClampNeg v1) then
          some (none, (xi_wI m4 b6 (Int32.toNatClampNeg v1) v2))
        else none
      else none
    else none
  else none
def F_X6_send (S : xi_S) : xi_F := fun As m => match As with
  | [.ref v0, .int v1, .int v2] => E_X6_send S v0 v1 v2 m
  | _ => none
set_option maxRecDepth 100000 in
set_option maxHeartbeats 4000000 in
theorem xe_X6_send {S : xi_S} {res : xi_R} (v0 : Nat) (v1 : Int32) (v2 : Int32) (m : xi_M) (h : E_X6_send S v0 v1 v2 m = some res) : xi_X S (P_X6_send S) (0, [some (.ref v0), some (.int v1), some (.int v2)], [], m) res := by
  unfold E_X6_send at h
  refine xr_aload_n i_X6_send_0 rfl (q := 1) rfl ?_
  refine xr_iconst i_X6_send_1 (q := 2) rfl ?_
  refine xr_iload_n i_X6_send_2 rfl (q := 3) rfl ?_
  refine xr_aload_n i_X6_send_3 rfl (q := 4) rfl ?_
  obtain ⟨c1, h⟩ := xi_if_some h
  obtain ⟨b2, eb2, h⟩ := xi_bind_some h
  refine xr_getR i_X6_send_4 xfe_X6_24 c1 eb2 (q := 7) rfl ?_
  refine xr_iload_n i_X6_send_7 rfl (q := 8) rfl ?_
  obtain ⟨c3, h⟩ := xi_if_some h
  refine xr_iaload i_X6_send_8 c3 (q := 9) rfl ?_
  obtain ⟨m4, em4, h⟩ := xi_bV_some h
  refine xr_VV i_X6_send_9 xcve_X6_129 rfl (As := [.ref v0, .int (Int32.ofInt 3), .int v1, .int (m.1 b2 (Int32.toNatClampNeg v1))]) rfl (rest := []) rfl ((cc_X6_send_129 S _ _ _ _ _).trans em4) (q := 12) rfl ?_
  refine xr_aload_n i_X6_send_12 rfl (q := 13) rfl ?_
  obtain ⟨c5, h⟩ := xi_if_some h
  obtain ⟨b6, eb6, h⟩ := xi_bind_some h
  refine xr_getR i_X6_send_13 xfe_X6_24 c5 eb6 (q := 16) rfl ?_
  refine xr_iload_n i_X6_send_16 rfl (q := 17) rfl ?_
  refine xr_iload_n i_X6_send_17 rfl (q := 18) rfl ?_
  obtain ⟨c7, h⟩ := xi_if_some h
  refine xr_iastore i_X6_send_18 c7 (q := 19) rfl ?_
  exact xr_return i_X6_send_19 rfl h
set_option maxRecDepth 100000 in
theorem po_X6_send {l : Launch} {E : xi_E} {S : xi_S} {D : va_G} {tys : List (ClassId × FieldType)} (hC : xCx E S tys) : xi_Pok l E S D vwCl tys xNs RX6 xTs cX6_send 3 1 (P_X6_send S) := ⟨xi_dc_ok, by rw [hC.2]; exact xfo_X6, xkio_X6, xklo_X6, xi_calls_ok (ins := .invokestatic) (fun _ h => absurd h List.not_mem_nil), xi_calls_ok (ins := .invokevirtual) (List.forall_mem_cons.mpr ⟨(xc_X6_129 hC.1 (sn_X6_note hC) (by decide)), fun _ h => absurd h List.not_mem_nil⟩)⟩
theorem sn_X6_send {l : Launch} {E : xi_E} {S : xi_S} {D : va_G} {tys : List (ClassId × FieldType)} (hC : xCx E S tys) : ∀ As m1 r m2, F_X6_send S As m1 = some (r, m2) → xi_Sound l E S D vwCl tys xNs xTs yX6_send cX6_send 3 none 1 As m1 r m2 := by
  intro As m1 r m2 h
  unfold F_X6_send at h
  split at h
  · exact xi_meth (P := P_X6_send S) (by decide) hC.1 (po_X6_send hC) (Nat.le_of_ble_eq_true rfl) rfl (xe_X6_send _ _ _ _ h)
  · exact xi_no h
theorem i_X6_takeBackOne_0 : xi_dc cX6_takeBackOne 0 = some (.iload_n 1, 1) := by decide +kernel
theorem i_X6_takeBackOne_1 : xi_dc cX6_takeBackOne 1 = some (.tableswitch 64 0 2 #[27, 46, 56], 27) := by decide +kernel
theorem i_X6_takeBackOne_28 : xi_dc cX6_takeBackOne 28 = some (.aload_n 0, 1) := by decide +kernel
theorem i_X6_takeBackOne_29 : xi_dc cX6_takeBackOne 29 = some (.iload_n 3, 1) := by decide +kernel
theorem i_X6_takeBackOne_30 : xi_dc cX6_takeBackOne 30 = some (.iconst (-1), 1) := by decide +kernel
theorem i_X6_takeBackOne_31 : xi_dc cX6_takeBackOne 31 = some (.invokevirtual 133, 3) := by decide +kernel
theorem i_X6_takeBackOne_34 : xi_dc cX6_takeBackOne 34 = some (.aload_n 0, 1) := by decide +kernel
theorem i_X6_takeBackOne_35 : xi_dc cX6_takeBackOne 35 = some (.dup, 1) := by decide +kernel
theorem i_X6_takeBackOne_36 : xi_dc cX6_takeBackOne 36 = some (.getfield 46, 3) := by decide +kernel
theorem i_X6_takeBackOne_39 : xi_dc cX6_takeBackOne 39 = some (.iconst 1, 1) := by decide +kernel
theorem i_X6_takeBackOne_40 : xi_dc cX6_takeBackOne 40 = some (.isub, 1) := by decide +kernel
theorem i_X6_takeBackOne_41 : xi_dc cX6_takeBackOne 41 = some (.putfield 46, 3) := by decide +kernel
theorem i_X6_takeBackOne_44 : xi_dc cX6_takeBackOne 44 = some (.goto 28, 3) := by decide +kernel
theorem t_X6_takeBackOne_44 : ((44 : Nat) : Int) + 28 = ((72 : Nat) : Int) := by decide +kernel
theorem i_X6_takeBackOne_47 : xi_dc cX6_takeBackOne 47 = some (.aload_n 0, 1) := by decide +kernel
theorem i_X6_takeBackOne_48 : xi_dc cX6_takeBackOne 48 = some (.getfield 9, 3) := by decide +kernel
theorem i_X6_takeBackOne_51 : xi_dc cX6_takeBackOne 51 = some (.iload_n 2, 1) := by decide +kernel
theorem i_X6_takeBackOne_52 : xi_dc cX6_takeBackOne 52 = some (.iload_n 3, 1) := by decide +kernel
theorem i_X6_takeBackOne_53 : xi_dc cX6_takeBackOne 53 = some (.iastore, 1) := by decide +kernel
theorem i_X6_takeBackOne_54 : xi_dc cX6_takeBackOne 54 = some (.goto 18, 3) := by decide +kernel
theorem t_X6_takeBackOne_54 : ((54 : Nat) : Int) + 18 = ((72 : Nat) : Int) := by decide +kernel
theorem i_X6_takeBackOne_57 : xi_dc cX6_takeBackOne 57 = some (.aload_n 0, 1) := by decide +kernel
theorem i_X6_takeBackOne_58 : xi_dc cX6_takeBackOne 58 = some (.iload_n 3, 1) := by decide +kernel
theorem i_X6_takeBackOne_59 : xi_dc cX6_takeBackOne 59 = some (.putfield 49, 3) := by decide +kernel
theorem i_X6_takeBackOne_62 : xi_dc cX6_takeBackOne 62 = some (.goto 10, 3) := by decide +kernel
theorem t_X6_takeBackOne_62 : ((62 : Nat) : Int) + 10 = ((72 : Nat) : Int) := by decide +kernel
theorem i_X6_takeBackOne_65 : xi_dc cX6_takeBackOne 65 = some (.aload_n 0, 1) := by decide +kernel
theorem i_X6_takeBackOne_66 : xi_dc cX6_takeBackOne 66 = some (.getfield 24, 3) := by decide +kernel
theorem i_X6_takeBackOne_69 : xi_dc cX6_takeBackOne 69 = some (.iload_n 2, 1) := by decide +kernel
theorem i_X6_takeBackOne_70 : xi_dc cX6_takeBackOne 70 = some (.iload_n 3, 1) := by decide +kernel
theorem i_X6_takeBackOne_71 : xi_dc cX6_takeBackOne 71 = some (.iastore, 1) := by decide +kernel
theorem i_X6_takeBackOne_72 : xi_dc cX6_takeBackOne 72 = some (.return_, 1) := by decide +kernel
def P_X6_takeBackOne (S : xi_S) : xi_P := (xi_dc cX6_takeBackOne, xi_tab xfl_X6, xi_tab xki_X6, xi_tab xkl_X6, xi_tab xcs_X6, xi_tab xcv_X6, xi_calls [], xi_calls [(133, xi_wV S 8 2 (F_X6_addGoals S))], 0)
theorem cc_X6_takeBackOne_133 (S : xi_S) (a0 : Nat) (a1 : Int32) (a2 : Int32) (m : xi_M) : (P_X6_takeBackOne S).2.2.2.2.2.2.2.1 133 [.ref a0, .int a1, .int a2] m = (if S.1 a0 = 8 then E_X6_addGoals S a0 a1 a2 m else none) := by
  show xi_calls [(133, xi_wV S 8 2 (F_X6_addGoals S))] 133 [.ref a0, .int a1, .int a2] m = _
  refine Eq.trans (b := xi_wV S 8 2 (F_X6_addGoals S) [.ref a0, .int a1, .int a2] m) (xi_calls_hit rfl) ?_
  exact xi_wV_eq rfl
def E_X6_takeBackOne (S : xi_S) (v0 : Nat) (v1 : Int32) (v2 : Int32) (v3 : Int32) (m : xi_M) : Option xi_R :=
  if Int32.toInt v1 = 0 then
    xi_bV (if S.1 v0 = 8 then E_X6_addGoals S v0 v3 (Int32.ofInt (-1)) m else none) fun m2 =>
    if S.1 v0 = 8 then
      if S.1 v0 = 8 then
        some (none, (xi_wI m2 v0 2 ((m2.1 v0 2) - (Int32.ofInt 1))))
      else none
    else none
  else
    if Int32.toInt v1 = 1 then
      if S.1 v0 = 8 then (S.2.2 v0 5).bind fun b7 =>
        if S.1 b7 = 0 ∧ ¬ (v2 < 0 ∨ S.2.1 b7 ≤ Int32.toNatClampNeg v2) then
          some (none, (xi_wI m b7 (Int32.toNatClampNeg v2) v3))
        else none
      else none
    else
      if Int32.toInt v1 = 2 then
        if S.1 v0 = 8 then
          some (none, (xi_wI m v0 3 v3))
        else none
      else
        if S.1 v0 = 8 then (S.2.2 v0 9).bind fun b12 =>
          if S.1 b12 = 0 ∧ ¬ (v2 < 0 ∨ S.2.1 b12 ≤ Int32.toNatClampNeg v2) then
            some (none, (xi_wI m b12 (Int32.toNatClampNeg v2) v3))
          else none
        else none
def F_X6_takeBackOne (S : xi_S) : xi_F := fun As m => match As with
  | [.ref v0, .int v1, .int v2, .int v3] => E_X6_takeBackOne S v0 v1 v2 v3 m
  | _ => none
set_option maxRecDepth 100000 in
set_option maxHeartbeats 4000000 in
theorem xe_X6_takeBackOne {S : xi_S} {res : xi_R} (v0 : Nat) (v1 : Int32) (v2 : Int32) (v3 : Int32) (m : xi_M) (h : E_X6_takeBackOne S v0 v1 v2 v3 m = some res) : xi_X S (P_X6_takeBackOne S) (0, [some (.ref v0), some (.int v1), some (.int v2), some (.int v3)], [], m) res := by
  unfold E_X6_takeBackOne at h
  refine xr_iload_n i_X6_takeBackOne_0 rfl (q := 1) rfl ?_
  by_cases c1 : Int32.toInt v1 = 0
  · replace h := (if_pos c1).symm.trans h
    refine xr_table i_X6_takeBackOne_1 rfl (off := 27) (fun kk => xi_sw_hit c1) (q := 28) rfl ?_
    refine xr_aload_n i_X6_takeBackOne_28 rfl (q := 29) rfl ?_
    refine xr_iload_n i_X6_takeBackOne_29 rfl (q := 30) rfl ?_
    refine xr_iconst i_X6_takeBackOne_30 (q := 31) rfl ?_
    obtain ⟨m2, em2, h⟩ := xi_bV_some h
    refine xr_VV i_X6_takeBackOne_31 xcve_X6_133 rfl (As := [.ref v0, .int v3, .int (Int32.ofInt (-1))]) rfl (rest := []) rfl ((cc_X6_takeBackOne_133 S _ _ _ _).trans em2) (q := 34) rfl ?_
    refine xr_aload_n i_X6_takeBackOne_34 rfl (q := 35) rfl ?_
    refine xr_dup_r i_X6_takeBackOne_35 (q := 36) rfl ?_
    obtain ⟨c3, h⟩ := xi_if_some h
    refine xr_getI i_X6_takeBackOne_36 xfe_X6_46 c3 (q := 39) rfl ?_
    refine xr_iconst i_X6_takeBackOne_39 (q := 40) rfl ?_
    refine xr_isub i_X6_takeBackOne_40 (q := 41) rfl ?_
    obtain ⟨c4, h⟩ := xi_if_some h
    refine xr_putI i_X6_takeBackOne_41 xfe_X6_46 c4 (q := 44) rfl ?_
    refine xr_goto i_X6_takeBackOne_44 (q := 72) t_X6_takeBackOne_44 ?_
    exact xr_return i_X6_takeBackOne_72 rfl h
  · replace h := (if_neg c1).symm.trans h
    by_cases c5 : Int32.toInt v1 = 1
    · replace h := (if_pos c5).symm.trans h
      refine xr_table i_X6_takeBackOne_1 rfl (off := 46) (fun kk => (xi_sw_miss c1).trans (xi_sw_hit c5)) (q := 47) rfl ?_
      refine xr_aload_n i_X6_takeBackOne_47 rfl (q := 48) rfl ?_
      obtain ⟨c6, h⟩ := xi_if_some h
      obtain ⟨b7, eb7, h⟩ := xi_bind_some h
      refine xr_getR i_X6_takeBackOne_48 xfe_X6_9 c6 eb7 (q := 51) rfl ?_
      refine xr_iload_n i_X6_takeBackOne_51 rfl (q := 52) rfl ?_
      refine xr_iload_n i_X6_takeBackOne_52 rfl (q := 53) rfl ?_
      obtain ⟨c8, h⟩ := xi_if_some h
      refine xr_iastore i_X6_takeBackOne_53 c8 (q := 54) rfl ?_
      refine xr_goto i_X6_takeBackOne_54 (q := 72) t_X6_takeBackOne_54 ?_
      exact xr_return i_X6_takeBackOne_72 rfl h
    · replace h := (if_neg c5).symm.trans h
      by_cases c9 : Int32.toInt v1 = 2
      · replace h := (if_pos c9).symm.trans h
        refine xr_table i_X6_takeBackOne_1 rfl (off := 56) (fun kk => (xi_sw_miss c1).trans ((xi_sw_miss c5).trans (xi_sw_hit c9))) (q := 57) rfl ?_
        refine xr_aload_n i_X6_takeBackOne_57 rfl (q := 58) rfl ?_
        refine xr_iload_n i_X6_takeBackOne_58 rfl (q := 59) rfl ?_
        obtain ⟨c10, h⟩ := xi_if_some h
        refine xr_putI i_X6_takeBackOne_59 xfe_X6_49 c10 (q := 62) rfl ?_
        refine xr_goto i_X6_takeBackOne_62 (q := 72) t_X6_takeBackOne_62 ?_
        exact xr_return i_X6_takeBackOne_72 rfl h
      · replace h := (if_neg c9).symm.trans h
        refine xr_table i_X6_takeBackOne_1 rfl (off := 64) (fun kk => (xi_sw_miss c1).trans ((xi_sw_miss c5).trans ((xi_sw_miss c9).trans (rfl)))) (q := 65) rfl ?_
        refine xr_aload_n i_X6_takeBackOne_65 rfl (q := 66) rfl ?_
        obtain ⟨c11, h⟩ := xi_if_some h
        obtain ⟨b12, eb12, h⟩ := xi_bind_some h
        refine xr_getR i_X6_takeBackOne_66 xfe_X6_24 c11 eb12 (q := 69) rfl ?_
        refine xr_iload_n i_X6_takeBackOne_69 rfl (q := 70) rfl ?_
        refine xr_iload_n i_X6_takeBackOne_70 rfl (q := 71) rfl ?_
        obtain ⟨c13, h⟩ := xi_if_some h
        refine xr_iastore i_X6_takeBackOne_71 c13 (q := 72) rfl ?_
        exact xr_return i_X6_takeBackOne_72 rfl h
set_option maxRecDepth 100000 in
theorem po_X6_takeBackOne {l : Launch} {E : xi_E} {S : xi_S} {D : va_G} {tys : List (ClassId × FieldType)} (hC : xCx E S tys) : xi_Pok l E S D vwCl tys xNs RX6 xTs cX6_takeBackOne 4 2 (P_X6_takeBackOne S) := ⟨xi_dc_ok, by rw [hC.2]; exact xfo_X6, xkio_X6, xklo_X6, xi_calls_ok (ins := .invokestatic) (fun _ h => absurd h List.not_mem_nil), xi_calls_ok (ins := .invokevirtual) (List.forall_mem_cons.mpr ⟨(xc_X6_133 hC.1 (sn_X6_addGoals hC) (by decide)), fun _ h => absurd h List.not_mem_nil⟩)⟩
theorem sn_X6_takeBackOne {l : Launch} {E : xi_E} {S : xi_S} {D : va_G} {tys : List (ClassId × FieldType)} (hC : xCx E S tys) : ∀ As m1 r m2, F_X6_takeBackOne S As m1 = some (r, m2) → xi_Sound l E S D vwCl tys xNs xTs yX6_takeBackOne cX6_takeBackOne 4 none 2 As m1 r m2 := by
  intro As m1 r m2 h
  unfold F_X6_takeBackOne at h
  split at h
  · exact xi_meth (P := P_X6_takeBackOne S) (by decide) hC.1 (po_X6_takeBackOne hC) (Nat.le_of_ble_eq_true rfl) rfl (xe_X6_takeBackOne _ _ _ _ _ h)
  · exact xi_no h
