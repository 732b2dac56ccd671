theorem i_X6_landing_0 : xi_dc cX6_landing 0 = some (.aload_n 0, 1) := by decide +kernel
theorem i_X6_landing_1 : xi_dc cX6_landing 1 = some (.getfield 18, 3) := by decide +kernel
theorem i_X6_landing_4 : xi_dc cX6_landing 4 = some (.iload_n 1, 1) := by decide +kernel
theorem i_X6_landing_5 : xi_dc cX6_landing 5 = some (.iaload, 1) := by decide +kernel
theorem i_X6_landing_6 : xi_dc cX6_landing 6 = some (.aload_n 0, 1) := by decide +kernel
theorem i_X6_landing_7 : xi_dc cX6_landing 7 = some (.getfield 24, 3) := by decide +kernel
theorem i_X6_landing_10 : xi_dc cX6_landing 10 = some (.iload_n 1, 1) := by decide +kernel
theorem i_X6_landing_11 : xi_dc cX6_landing 11 = some (.iaload, 1) := by decide +kernel
theorem i_X6_landing_12 : xi_dc cX6_landing 12 = some (.aload_n 0, 1) := by decide +kernel
theorem i_X6_landing_13 : xi_dc cX6_landing 13 = some (.getfield 27, 3) := by decide +kernel
theorem i_X6_landing_16 : xi_dc cX6_landing 16 = some (.iload_n 1, 1) := by decide +kernel
theorem i_X6_landing_17 : xi_dc cX6_landing 17 = some (.iaload, 1) := by decide +kernel
theorem i_X6_landing_18 : xi_dc cX6_landing 18 = some (.aload_n 0, 1) := by decide +kernel
theorem i_X6_landing_19 : xi_dc cX6_landing 19 = some (.getfield 49, 3) := by decide +kernel
theorem i_X6_landing_22 : xi_dc cX6_landing 22 = some (.invokestatic 67, 3) := by decide +kernel
theorem i_X6_landing_25 : xi_dc cX6_landing 25 = some (.ireturn, 1) := by decide +kernel
def P_X6_landing (S : xi_S) : xi_P := (xi_dc cX6_landing, xi_tab xfl_X6, xi_tab xki_X6, xi_tab xkl_X6, xi_tab xcs_X6, xi_tab xcv_X6, xi_calls [(67, xi_wS 4 (F_X4_landing S))], xi_calls [], 1)
theorem cc_X6_landing_67 (S : xi_S) (a0 : Int32) (a1 : Int32) (a2 : Int32) (a3 : Int32) (m : xi_M) : (P_X6_landing S).2.2.2.2.2.2.1 67 [.int a0, .int a1, .int a2, .int a3] m = (E_X4_landing S a0 a1 a2 a3 m) := by
  show xi_calls [(67, xi_wS 4 (F_X4_landing S))] 67 [.int a0, .int a1, .int a2, .int a3] m = _
  refine Eq.trans (b := xi_wS 4 (F_X4_landing S) [.int a0, .int a1, .int a2, .int a3] m) (xi_calls_hit rfl) ?_
  exact xi_wS_eq rfl
def E_X6_landing (S : xi_S) (v0 : Nat) (v1 : Int32) (m : xi_M) : Option xi_R :=
  if S.1 v0 = 8 then (S.2.2 v0 7).bind fun b2 =>
    if S.1 b2 = 0 ∧ ¬ (v1 < 0 ∨ S.2.1 b2 ≤ Int32.toNatClampNeg v1) then
      if S.1 v0 = 8 then (S.2.2 v0 9).bind fun b5 =>
        if S.1 b5 = 0 ∧ ¬ (v1 < 0 ∨ S.2.1 b5 ≤ Int32.toNatClampNeg v1) then
          if S.1 v0 = 8 then (S.2.2 v0 10).bind fun b8 =>
            if S.1 b8 = 0 ∧ ¬ (v1 < 0 ∨ S.2.1 b8 ≤ Int32.toNatClampNeg v1) then
              if S.1 v0 = 8 then
                xi_bI (E_X4_landing S (m.1 b2 (Int32.toNatClampNeg v1)) (m.1 b5 (Int32.toNatClampNeg v1)) (m.1 b8 (Int32.toNatClampNeg v1)) (m.1 v0 3) m) fun x12 m11 =>
                some (some (.int x12), m11)
              else none
            else none
          else none
        else none
      else none
    else none
  else none
def F_X6_landing (S : xi_S) : xi_F := fun As m => match As with
  | [.ref v0, .int v1] => E_X6_landing S v0 v1 m
  | _ => none
set_option maxRecDepth 100000 in
set_option maxHeartbeats 4000000 in
theorem xe_X6_landing {S : xi_S} {res : xi_R} (v0 : Nat) (v1 : Int32) (m : xi_M) (h : E_X6_landing S v0 v1 m = some res) : xi_X S (P_X6_landing S) (0, [some (.ref v0), some (.int v1)], [], m) res := by
  unfold E_X6_landing at h
  refine xr_aload_n i_X6_landing_0 rfl (q := 1) rfl ?_
  obtain ⟨c1, h⟩ := xi_if_some h
  obtain ⟨b2, eb2, h⟩ := xi_bind_some h
  refine xr_getR i_X6_landing_1 xfe_X6_18 c1 eb2 (q := 4) rfl ?_
  refine xr_iload_n i_X6_landing_4 rfl (q := 5) rfl ?_
  obtain ⟨c3, h⟩ := xi_if_some h
  refine xr_iaload i_X6_landing_5 c3 (q := 6) rfl ?_
  refine xr_aload_n i_X6_landing_6 rfl (q := 7) rfl ?_
  obtain ⟨c4, h⟩ := xi_if_some h
  obtain ⟨b5, eb5, h⟩ := xi_bind_some h
  refine xr_getR i_X6_landing_7 xfe_X6_24 c4 eb5 (q := 10) rfl ?_
  refine xr_iload_n i_X6_landing_10 rfl (q := 11) rfl ?_
  obtain ⟨c6, h⟩ := xi_if_some h
  refine xr_iaload i_X6_landing_11 c6 (q := 12) rfl ?_
  refine xr_aload_n i_X6_landing_12 rfl (q := 13) rfl ?_
  obtain ⟨c7, h⟩ := xi_if_some h
  obtain ⟨b8, eb8, h⟩ := xi_bind_some h
  refine xr_getR i_X6_landing_13 xfe_X6_27 c7 eb8 (q := 16) rfl ?_
  refine xr_iload_n i_X6_landing_16 rfl (q := 17) rfl ?_
  obtain ⟨c9, h⟩ := xi_if_some h
  refine xr_iaload i_X6_landing_17 c9 (q := 18) rfl ?_
  refine xr_aload_n i_X6_landing_18 rfl (q := 19) rfl ?_
  obtain ⟨c10, h⟩ := xi_if_some h
  refine xr_getI i_X6_landing_19 xfe_X6_49 c10 (q := 22) rfl ?_
  obtain ⟨x12, m11, em11, h⟩ := xi_bI_some h
  refine xr_SI i_X6_landing_22 xcse_X6_67 rfl (As := [.int (m.1 b2 (Int32.toNatClampNeg v1)), .int (m.1 b5 (Int32.toNatClampNeg v1)), .int (m.1 b8 (Int32.toNatClampNeg v1)), .int (m.1 v0 3)]) rfl (rest := []) rfl ((cc_X6_landing_67 S _ _ _ _ _).trans em11) (q := 25) rfl ?_
  exact xr_ireturn i_X6_landing_25 rfl h
set_option maxRecDepth 100000 in
theorem po_X6_landing {l : Launch} {E : xi_E} {S : xi_S} {D : va_G} {tys : List (ClassId × FieldType)} (hC : xCx E S tys) : xi_Pok l E S D vwCl tys xNs RX6 xTs cX6_landing 2 2 (P_X6_landing S) := ⟨xi_dc_ok, by rw [hC.2]; exact xfo_X6, xkio_X6, xklo_X6, xi_calls_ok (ins := .invokestatic) (List.forall_mem_cons.mpr ⟨(xc_X6_67 (sn_X4_landing hC) (by decide)), fun _ h => absurd h List.not_mem_nil⟩), xi_calls_ok (ins := .invokevirtual) (fun _ h => absurd h List.not_mem_nil)⟩
theorem sn_X6_landing {l : Launch} {E : xi_E} {S : xi_S} {D : va_G} {tys : List (ClassId × FieldType)} (hC : xCx E S tys) : ∀ As m1 r m2, F_X6_landing S As m1 = some (r, m2) → xi_Sound l E S D vwCl tys xNs xTs yX6_landing cX6_landing 2 (some .int) 2 As m1 r m2 := by
  intro As m1 r m2 h
  unfold F_X6_landing at h
  split at h
  · exact xi_meth (P := P_X6_landing S) (by decide) hC.1 (po_X6_landing hC) (Nat.le_of_ble_eq_true rfl) rfl (xe_X6_landing _ _ _ h)
  · exact xi_no h
theorem i_X6_ballBit_0 : xi_dc cX6_ballBit 0 = some (.aload_n 0, 1) := by decide +kernel
theorem i_X6_ballBit_1 : xi_dc cX6_ballBit 1 = some (.iload_n 1, 1) := by decide +kernel
theorem i_X6_ballBit_2 : xi_dc cX6_ballBit 2 = some (.invokevirtual 73, 3) := by decide +kernel
theorem i_X6_ballBit_5 : xi_dc cX6_ballBit 5 = some (.istore_n 3, 1) := by decide +kernel
theorem i_X6_ballBit_6 : xi_dc cX6_ballBit 6 = some (.iload_n 3, 1) := by decide +kernel
theorem i_X6_ballBit_7 : xi_dc cX6_ballBit 7 = some (.ifCond .ge 7, 3) := by decide +kernel
theorem t_X6_ballBit_7 : ((7 : Nat) : Int) + 7 = ((14 : Nat) : Int) := by decide +kernel
theorem i_X6_ballBit_10 : xi_dc cX6_ballBit 10 = some (.iconst 0, 1) := by decide +kernel
theorem i_X6_ballBit_11 : xi_dc cX6_ballBit 11 = some (.goto 13, 3) := by decide +kernel
theorem t_X6_ballBit_11 : ((11 : Nat) : Int) + 13 = ((24 : Nat) : Int) := by decide +kernel
theorem i_X6_ballBit_14 : xi_dc cX6_ballBit 14 = some (.iconst 1, 1) := by decide +kernel
theorem i_X6_ballBit_15 : xi_dc cX6_ballBit 15 = some (.bipush 20, 2) := by decide +kernel
theorem i_X6_ballBit_17 : xi_dc cX6_ballBit 17 = some (.iload_n 3, 1) := by decide +kernel
theorem i_X6_ballBit_18 : xi_dc cX6_ballBit 18 = some (.iload_n 2, 1) := by decide +kernel
theorem i_X6_ballBit_19 : xi_dc cX6_ballBit 19 = some (.iadd, 1) := by decide +kernel
theorem i_X6_ballBit_20 : xi_dc cX6_ballBit 20 = some (.invokestatic 76, 3) := by decide +kernel
theorem i_X6_ballBit_23 : xi_dc cX6_ballBit 23 = some (.ishl, 1) := by decide +kernel
theorem i_X6_ballBit_24 : xi_dc cX6_ballBit 24 = some (.ireturn, 1) := by decide +kernel
def P_X6_ballBit (S : xi_S) : xi_P := (xi_dc cX6_ballBit, xi_tab xfl_X6, xi_tab xki_X6, xi_tab xkl_X6, xi_tab xcs_X6, xi_tab xcv_X6, xi_calls [(76, xi_wS 2 (F_J9_min_7cf53 S))], xi_calls [(73, xi_wV S 8 1 (F_X6_landing S))], 1)
theorem cc_X6_ballBit_76 (S : xi_S) (a0 : Int32) (a1 : Int32) (m : xi_M) : (P_X6_ballBit S).2.2.2.2.2.2.1 76 [.int a0, .int a1] m = (E_J9_min_7cf53 S a0 a1 m) := by
  show xi_calls [(76, xi_wS 2 (F_J9_min_7cf53 S))] 76 [.int a0, .int a1] m = _
  refine Eq.trans (b := xi_wS 2 (F_J9_min_7cf53 S) [.int a0, .int a1] m) (xi_calls_hit rfl) ?_
  exact xi_wS_eq rfl
theorem cc_X6_ballBit_73 (S : xi_S) (a0 : Nat) (a1 : Int32) (m : xi_M) : (P_X6_ballBit S).2.2.2.2.2.2.2.1 73 [.ref a0, .int a1] m = (if S.1 a0 = 8 then E_X6_landing S a0 a1 m else none) := by
  show xi_calls [(73, xi_wV S 8 1 (F_X6_landing S))] 73 [.ref a0, .int a1] m = _
  refine Eq.trans (b := xi_wV S 8 1 (F_X6_landing S) [.ref a0, .int a1] m) (xi_calls_hit rfl) ?_
  exact xi_wV_eq rfl
def E_X6_ballBit (S : xi_S) (v0 : Nat) (v1 : Int32) (v2 : Int32) (m : xi_M) : Option xi_R :=
  xi_bI (if S.1 v0 = 8 then E_X6_landing S v0 v1 m else none) fun x2 m1 =>
  if 0 ≤ x2 then
    xi_bI (E_J9_min_7cf53 S ((Int8.ofInt 20).toInt32) (x2 + v2) m1) fun x4 m3 =>
    some (some (.int ((Int32.ofInt 1) <<< (x4 &&& 31))), m3)
  else
    some (some (.int (Int32.ofInt 0)), m1)
def F_X6_ballBit (S : xi_S) : xi_F := fun As m => match As with
  | [.ref v0, .int v1, .int v2] => E_X6_ballBit S v0 v1 v2 m
  | _ => none
set_option maxRecDepth 100000 in
set_option maxHeartbeats 4000000 in
theorem xe_X6_ballBit {S : xi_S} {res : xi_R} (v0 : Nat) (v1 : Int32) (v2 : Int32) (m : xi_M) (h : E_X6_ballBit S v0 v1 v2 m = some res) : xi_X S (P_X6_ballBit S) (0, [some (.ref v0), some (.int v1), some (.int v2), none], [], m) res := by
  unfold E_X6_ballBit at h
  refine xr_aload_n i_X6_ballBit_0 rfl (q := 1) rfl ?_
  refine xr_iload_n i_X6_ballBit_1 rfl (q := 2) rfl ?_
  obtain ⟨x2, m1, em1, h⟩ := xi_bI_some h
  refine xr_VI i_X6_ballBit_2 xcve_X6_73 rfl (As := [.ref v0, .int v1]) rfl (rest := []) rfl ((cc_X6_ballBit_73 S _ _ _).trans em1) (q := 5) rfl ?_
  refine xr_istore_n i_X6_ballBit_5 rfl (L2 := [some (.ref v0), some (.int v1), some (.int v2), some (.int x2)]) rfl (q := 6) rfl ?_
  refine xr_iload_n i_X6_ballBit_6 rfl (q := 7) rfl ?_
  by_cases c5 : 0 ≤ x2
  · replace h := (if_pos c5).symm.trans h
    refine xr_ifCond_ge_p i_X6_ballBit_7 c5 (q := 14) t_X6_ballBit_7 (q2 := 10) rfl ?_
    refine xr_iconst i_X6_ballBit_14 (q := 15) rfl ?_
    refine xr_bipush i_X6_ballBit_15 (q := 17) rfl ?_
    refine xr_iload_n i_X6_ballBit_17 rfl (q := 18) rfl ?_
    refine xr_iload_n i_X6_ballBit_18 rfl (q := 19) rfl ?_
    refine xr_iadd i_X6_ballBit_19 (q := 20) rfl ?_
    obtain ⟨x4, m3, em3, h⟩ := xi_bI_some h
    refine xr_SI i_X6_ballBit_20 xcse_X6_76 rfl (As := [.int ((Int8.ofInt 20).toInt32), .int (x2 + v2)]) rfl (rest := [.int (Int32.ofInt 1)]) rfl ((cc_X6_ballBit_76 S _ _ _).trans em3) (q := 23) rfl ?_
    refine xr_ishl i_X6_ballBit_23 (q := 24) rfl ?_
    exact xr_ireturn i_X6_ballBit_24 rfl h
  · replace h := (if_neg c5).symm.trans h
    refine xr_ifCond_ge_n i_X6_ballBit_7 c5 (q := 14) t_X6_ballBit_7 (q2 := 10) rfl ?_
    refine xr_iconst i_X6_ballBit_10 (q := 11) rfl ?_
    refine xr_goto i_X6_ballBit_11 (q := 24) t_X6_ballBit_11 ?_
    exact xr_ireturn i_X6_ballBit_24 rfl h
set_option maxRecDepth 100000 in
theorem po_X6_ballBit {l : Launch} {E : xi_E} {S : xi_S} {D : va_G} {tys : List (ClassId × FieldType)} (hC : xCx E S tys) : xi_Pok l E S D vwCl tys xNs RX6 xTs cX6_ballBit 4 3 (P_X6_ballBit S) := ⟨xi_dc_ok, by rw [hC.2]; exact xfo_X6, xkio_X6, xklo_X6, xi_calls_ok (ins := .invokestatic) (List.forall_mem_cons.mpr ⟨(xm_X6_76 (by decide)), fun _ h => absurd h List.not_mem_nil⟩), xi_calls_ok (ins := .invokevirtual) (List.forall_mem_cons.mpr ⟨(xc_X6_73 hC.1 (sn_X6_landing hC) (by decide)), fun _ h => absurd h List.not_mem_nil⟩)⟩
theorem sn_X6_ballBit {l : Launch} {E : xi_E} {S : xi_S} {D : va_G} {tys : List (ClassId × FieldType)} (hC : xCx E S tys) : ∀ As m1 r m2, F_X6_ballBit S As m1 = some (r, m2) → xi_Sound l E S D vwCl tys xNs xTs yX6_ballBit cX6_ballBit 4 (some .int) 3 As m1 r m2 := by
  intro As m1 r m2 h
  unfold F_X6_ballBit at h
  split at h
  · exact xi_meth (P := P_X6_ballBit S) (by decide) hC.1 (po_X6_ballBit hC) (Nat.le_of_ble_eq_true rfl) rfl (xe_X6_ballBit _ _ _ _ h)
  · exact xi_no h
theorem i_X1_take_0 : xi_dc cX1_take 0 = some (.aload_n 0, 1) := by decide +kernel
theorem i_X1_take_1 : xi_dc cX1_take 1 = some (.aload_n 1, 1) := by decide +kernel
theorem i_X1_take_2 : xi_dc cX1_take 2 = some (.getfield 21, 3) := by decide +kernel
theorem i_X1_take_5 : xi_dc cX1_take 5 = some (.putfield 27, 3) := by decide +kernel
theorem i_X1_take_8 : xi_dc cX1_take 8 = some (.aload_n 0, 1) := by decide +kernel
theorem i_X1_take_9 : xi_dc cX1_take 9 = some (.aload_n 1, 1) := by decide +kernel
theorem i_X1_take_10 : xi_dc cX1_take 10 = some (.getfield 28, 3) := by decide +kernel
theorem i_X1_take_13 : xi_dc cX1_take 13 = some (.putfield 31, 3) := by decide +kernel
theorem i_X1_take_16 : xi_dc cX1_take 16 = some (.aload_n 0, 1) := by decide +kernel
theorem i_X1_take_17 : xi_dc cX1_take 17 = some (.getfield 18, 3) := by decide +kernel
theorem i_X1_take_20 : xi_dc cX1_take 20 = some (.iconst 0, 1) := by decide +kernel
theorem i_X1_take_21 : xi_dc cX1_take 21 = some (.aload_n 1, 1) := by decide +kernel
theorem i_X1_take_22 : xi_dc cX1_take 22 = some (.iconst 0, 1) := by decide +kernel
theorem i_X1_take_23 : xi_dc cX1_take 23 = some (.invokevirtual 34, 3) := by decide +kernel
theorem i_X1_take_26 : xi_dc cX1_take 26 = some (.iastore, 1) := by decide +kernel
theorem i_X1_take_27 : xi_dc cX1_take 27 = some (.aload_n 0, 1) := by decide +kernel
theorem i_X1_take_28 : xi_dc cX1_take 28 = some (.getfield 18, 3) := by decide +kernel
theorem i_X1_take_31 : xi_dc cX1_take 31 = some (.iconst 1, 1) := by decide +kernel
theorem i_X1_take_32 : xi_dc cX1_take 32 = some (.aload_n 1, 1) := by decide +kernel
theorem i_X1_take_33 : xi_dc cX1_take 33 = some (.iconst 1, 1) := by decide +kernel
theorem i_X1_take_34 : xi_dc cX1_take 34 = some (.invokevirtual 34, 3) := by decide +kernel
theorem i_X1_take_37 : xi_dc cX1_take 37 = some (.iastore, 1) := by decide +kernel
theorem i_X1_take_38 : xi_dc cX1_take 38 = some (.iconst 0, 1) := by decide +kernel
theorem i_X1_take_39 : xi_dc cX1_take 39 = some (.istore_n 2, 1) := by decide +kernel
theorem i_X1_take_40 : xi_dc cX1_take 40 = some (.iload_n 2, 1) := by decide +kernel
theorem i_X1_take_41 : xi_dc cX1_take 41 = some (.aload_n 0, 1) := by decide +kernel
theorem i_X1_take_42 : xi_dc cX1_take 42 = some (.getfield 31, 3) := by decide +kernel
theorem i_X1_take_45 : xi_dc cX1_take 45 = some (.if_icmp .ge 35, 3) := by decide +kernel
theorem t_X1_take_45 : ((45 : Nat) : Int) + 35 = ((80 : Nat) : Int) := by decide +kernel
theorem i_X1_take_48 : xi_dc cX1_take 48 = some (.aload_n 0, 1) := by decide +kernel
theorem i_X1_take_49 : xi_dc cX1_take 49 = some (.getfield 9, 3) := by decide +kernel
theorem i_X1_take_52 : xi_dc cX1_take 52 = some (.iload_n 2, 1) := by decide +kernel
theorem i_X1_take_53 : xi_dc cX1_take 53 = some (.iconst 1, 1) := by decide +kernel
theorem i_X1_take_54 : xi_dc cX1_take 54 = some (.aload_n 1, 1) := by decide +kernel
theorem i_X1_take_55 : xi_dc cX1_take 55 = some (.getfield 38, 3) := by decide +kernel
theorem i_X1_take_58 : xi_dc cX1_take 58 = some (.iload_n 2, 1) := by decide +kernel
theorem i_X1_take_59 : xi_dc cX1_take 59 = some (.iaload, 1) := by decide +kernel
theorem i_X1_take_60 : xi_dc cX1_take 60 = some (.isub, 1) := by decide +kernel
theorem i_X1_take_61 : xi_dc cX1_take 61 = some (.iastore, 1) := by decide +kernel
theorem i_X1_take_62 : xi_dc cX1_take 62 = some (.aload_n 0, 1) := by decide +kernel
theorem i_X1_take_63 : xi_dc cX1_take 63 = some (.getfield 15, 3) := by decide +kernel
theorem i_X1_take_66 : xi_dc cX1_take 66 = some (.iload_n 2, 1) := by decide +kernel
theorem i_X1_take_67 : xi_dc cX1_take 67 = some (.aload_n 1, 1) := by decide +kernel
theorem i_X1_take_68 : xi_dc cX1_take 68 = some (.iload_n 2, 1) := by decide +kernel
theorem i_X1_take_69 : xi_dc cX1_take 69 = some (.iconst 0, 1) := by decide +kernel
theorem i_X1_take_70 : xi_dc cX1_take 70 = some (.invokevirtual 41, 3) := by decide +kernel
theorem i_X1_take_73 : xi_dc cX1_take 73 = some (.iastore, 1) := by decide +kernel
theorem i_X1_take_74 : xi_dc cX1_take 74 = some (.iinc 2 1, 3) := by decide +kernel
theorem i_X1_take_77 : xi_dc cX1_take 77 = some (.goto (-37), 3) := by decide +kernel
theorem t_X1_take_77 : ((77 : Nat) : Int) + (-37) = ((40 : Nat) : Int) := by decide +kernel
theorem i_X1_take_80 : xi_dc cX1_take 80 = some (.return_, 1) := by decide +kernel
def P_X1_take (S : xi_S) : xi_P := (xi_dc cX1_take, xi_tab xfl_X1, xi_tab xki_X1, xi_tab xkl_X1, xi_tab xcs_X1, xi_tab xcv_X1, xi_calls [], xi_calls [(34, xi_wV S 8 1 (F_X6_openPlaces S)), (41, xi_wV S 8 2 (F_X6_ballBit S))], 0)
theorem cc_X1_take_34 (S : xi_S) (a0 : Nat) (a1 : Int32) (m : xi_M) : (P_X1_take S).2.2.2.2.2.2.2.1 34 [.ref a0, .int a1] m = (if S.1 a0 = 8 then E_X6_openPlaces S a0 a1 m else none) := by
  show xi_calls [(34, xi_wV S 8 1 (F_X6_openPlaces S)), (41, xi_wV S 8 2 (F_X6_ballBit S))] 34 [.ref a0, .int a1] m = _
  refine Eq.trans (b := xi_wV S 8 1 (F_X6_openPlaces S) [.ref a0, .int a1] m) (xi_calls_hit rfl) ?_
  exact xi_wV_eq rfl
theorem cc_X1_take_41 (S : xi_S) (a0 : Nat) (a1 : Int32) (a2 : Int32) (m : xi_M) : (P_X1_take S).2.2.2.2.2.2.2.1 41 [.ref a0, .int a1, .int a2] m = (if S.1 a0 = 8 then E_X6_ballBit S a0 a1 a2 m else none) := by
  show xi_calls [(34, xi_wV S 8 1 (F_X6_openPlaces S)), (41, xi_wV S 8 2 (F_X6_ballBit S))] 41 [.ref a0, .int a1, .int a2] m = _
  refine Eq.trans (b := xi_calls [(41, xi_wV S 8 2 (F_X6_ballBit S))] 41 [.ref a0, .int a1, .int a2] m) (xi_calls_miss rfl) ?_
  refine Eq.trans (b := xi_wV S 8 2 (F_X6_ballBit S) [.ref a0, .int a1, .int a2] m) (xi_calls_hit rfl) ?_
  exact xi_wV_eq rfl
def G_X1_take_40 (S : xi_S) : Nat → Nat → Nat → Int32 → xi_M → Option xi_R
  | 0, _, _, _, _ => none
  | n + 1, v0, v1, v2, m =>
    if S.1 v0 = 4 then
      if (m.1 v0 1) ≤ v2 then
        some (none, m)
      else
        if S.1 v0 = 4 then (S.2.2 v0 2).bind fun b3 =>
          if S.1 v1 = 8 then (S.2.2 v1 8).bind fun b5 =>
            if S.1 b5 = 0 ∧ ¬ (v2 < 0 ∨ S.2.1 b5 ≤ Int32.toNatClampNeg v2) then
              if S.1 b3 = 0 ∧ ¬ (v2 < 0 ∨ S.2.1 b3 ≤ Int32.toNatClampNeg v2) then
                if S.1 v0 = 4 then (S.2.2 v0 3).bind fun b9 =>
                  xi_bI (if S.1 v1 = 8 then E_X6_ballBit S v1 v2 (Int32.ofInt 0) (xi_wI m b3 (Int32.toNatClampNeg v2) ((Int32.ofInt 1) - (m.1 b5 (Int32.toNatClampNeg v2)))) else none) fun x11 m10 =>
                  if S.1 b9 = 0 ∧ ¬ (v2 < 0 ∨ S.2.1 b9 ≤ Int32.toNatClampNeg v2) then
                    G_X1_take_40 S n v0 v1 (v2 + Int32.ofInt 1) (xi_wI m10 b9 (Int32.toNatClampNeg v2) x11)
                  else none
                else none
              else none
            else none
          else none
        else none
    else none
set_option maxRecDepth 100000 in
set_option maxHeartbeats 4000000 in
theorem xs_X1_take_40 {S : xi_S} {res : xi_R} : ∀ (n : Nat) (v0 : Nat) (v1 : Nat) (v2 : Int32) (m : xi_M), G_X1_take_40 S n v0 v1 v2 m = some res → xi_X S (P_X1_take S) (40, [some (.ref v0), some (.ref v1), some (.int v2)], [], m) res := by
  intro n
  induction n with
  | zero => intro v0 v1 v2 m h; exact xi_no h
  | succ n ih =>
    intro v0 v1 v2 m h
    unfold G_X1_take_40 at h
    refine xr_iload_n i_X1_take_40 rfl (q := 41) rfl ?_
    refine xr_aload_n i_X1_take_41 rfl (q := 42) rfl ?_
    obtain ⟨c1, h⟩ := xi_if_some h
    refine xr_getI i_X1_take_42 xfe_X1_31 c1 (q := 45) rfl ?_
    by_cases c13 : (m.1 v0 1) ≤ v2
    · replace h := (if_pos c13).symm.trans h
      refine xr_if_icmp_ge_p i_X1_take_45 c13 (q := 80) t_X1_take_45 (q2 := 48) rfl ?_
      exact xr_return i_X1_take_80 rfl h
    · replace h := (if_neg c13).symm.trans h
      refine xr_if_icmp_ge_n i_X1_take_45 c13 (q := 80) t_X1_take_45 (q2 := 48) rfl ?_
      refine xr_aload_n i_X1_take_48 rfl (q := 49) rfl ?_
      obtain ⟨c2, h⟩ := xi_if_some h
      obtain ⟨b3, eb3, h⟩ := xi_bind_some h
      refine xr_getR i_X1_take_49 xfe_X1_9 c2 eb3 (q := 52) rfl ?_
      refine xr_iload_n i_X1_take_52 rfl (q := 53) rfl ?_
      refine xr_iconst i_X1_take_53 (q := 54) rfl ?_
      refine xr_aload_n i_X1_take_54 rfl (q := 55) rfl ?_
      obtain ⟨c4, h⟩ := xi_if_some h
      obtain ⟨b5, eb5, h⟩ := xi_bind_some h
      refine xr_getR i_X1_take_55 xfe_X1_38 c4 eb5 (q := 58) rfl ?_
      refine xr_iload_n i_X1_take_58 rfl (q := 59) rfl ?_
      obtain ⟨c6, h⟩ := xi_if_some h
      refine xr_iaload i_X1_take_59 c6 (q := 60) rfl ?_
      refine xr_isub i_X1_take_60 (q := 61) rfl ?_
      obtain ⟨c7, h⟩ := xi_if_some h
      refine xr_iastore i_X1_take_61 c7 (q := 62) rfl ?_
      refine xr_aload_n i_X1_take_62 rfl (q := 63) rfl ?_
      obtain ⟨c8, h⟩ := xi_if_some h
      obtain ⟨b9, eb9, h⟩ := xi_bind_some h
      refine xr_getR i_X1_take_63 xfe_X1_15 c8 eb9 (q := 66) rfl ?_
      refine xr_iload_n i_X1_take_66 rfl (q := 67) rfl ?_
      refine xr_aload_n i_X1_take_67 rfl (q := 68) rfl ?_
      refine xr_iload_n i_X1_take_68 rfl (q := 69) rfl ?_
      refine xr_iconst i_X1_take_69 (q := 70) rfl ?_
      obtain ⟨x11, m10, em10, h⟩ := xi_bI_some h
      refine xr_VI i_X1_take_70 xcve_X1_41 rfl (As := [.ref v1, .int v2, .int (Int32.ofInt 0)]) rfl (rest := [.int v2, .ref b9]) rfl ((cc_X1_take_41 S _ _ _ _).trans em10) (q := 73) rfl ?_
      obtain ⟨c12, h⟩ := xi_if_some h
      refine xr_iastore i_X1_take_73 c12 (q := 74) rfl ?_
      refine xr_iinc i_X1_take_74 rfl rfl (L2 := [some (.ref v0), some (.ref v1), some (.int (v2 + Int32.ofInt 1))]) rfl (q := 77) rfl ?_
      refine xr_goto i_X1_take_77 (q := 40) t_X1_take_77 ?_
      exact xi_X_le (xi_le_s (xi_le_s (xi_le_s xi_le_z))) (ih _ _ _ _ h)
def E_X1_take (S : xi_S) (v0 : Nat) (v1 : Nat) (m : xi_M) : Option xi_R :=
  if S.1 v1 = 8 then
    if S.1 v0 = 4 then
      if S.1 v1 = 8 then
        if S.1 v0 = 4 then
          if S.1 v0 = 4 then (S.2.2 v0 4).bind fun b6 =>
            xi_bI (if S.1 v1 = 8 then E_X6_openPlaces S v1 (Int32.ofInt 0) (xi_wI (xi_wI m v0 0 (m.1 v1 0)) v0 1 ((xi_wI m v0 0 (m.1 v1 0)).1 v1 1)) else none) fun x8 m7 =>
            if S.1 b6 = 0 ∧ ¬ ((Int32.ofInt 0) < 0 ∨ S.2.1 b6 ≤ Int32.toNatClampNeg (Int32.ofInt 0)) then
              if S.1 v0 = 4 then (S.2.2 v0 4).bind fun b11 =>
                xi_bI (if S.1 v1 = 8 then E_X6_openPlaces S v1 (Int32.ofInt 1) (xi_wI m7 b6 (Int32.toNatClampNeg (Int32.ofInt 0)) x8) else none) fun x13 m12 =>
                if S.1 b11 = 0 ∧ ¬ ((Int32.ofInt 1) < 0 ∨ S.2.1 b11 ≤ Int32.toNatClampNeg (Int32.ofInt 1)) then
                  G_X1_take_40 S 10000 v0 v1 (Int32.ofInt 0) (xi_wI m12 b11 (Int32.toNatClampNeg (Int32.ofInt 1)) x13)
                else none
              else none
            else none
          else none
        else none
      else none
    else none
  else none
def F_X1_take (S : xi_S) : xi_F := fun As m => match As with
  | [.ref v0, .ref v1] => E_X1_take S v0 v1 m
  | _ => none
set_option maxRecDepth 100000 in
set_option maxHeartbeats 4000000 in
theorem xe_X1_take {S : xi_S} {res : xi_R} (v0 : Nat) (v1 : Nat) (m : xi_M) (h : E_X1_take S v0 v1 m = some res) : xi_X S (P_X1_take S) (0, [some (.ref v0), some (.ref v1), none], [], m) res := by
  unfold E_X1_take at h
  refine xr_aload_n i_X1_take_0 rfl (q := 1) rfl ?_
  refine xr_aload_n i_X1_take_1 rfl (q := 2) rfl ?_
  obtain ⟨c1, h⟩ := xi_if_some h
  refine xr_getI i_X1_take_2 xfe_X1_21 c1 (q := 5) rfl ?_
  obtain ⟨c2, h⟩ := xi_if_some h
  refine xr_putI i_X1_take_5 xfe_X1_27 c2 (q := 8) rfl ?_
  refine xr_aload_n i_X1_take_8 rfl (q := 9) rfl ?_
  refine xr_aload_n i_X1_take_9 rfl (q := 10) rfl ?_
  obtain ⟨c3, h⟩ := xi_if_some h
  refine xr_getI i_X1_take_10 xfe_X1_28 c3 (q := 13) rfl ?_
  obtain ⟨c4, h⟩ := xi_if_some h
  refine xr_putI i_X1_take_13 xfe_X1_31 c4 (q := 16) rfl ?_
  refine xr_aload_n i_X1_take_16 rfl (q := 17) rfl ?_
  obtain ⟨c5, h⟩ := xi_if_some h
  obtain ⟨b6, eb6, h⟩ := xi_bind_some h
  refine xr_getR i_X1_take_17 xfe_X1_18 c5 eb6 (q := 20) rfl ?_
  refine xr_iconst i_X1_take_20 (q := 21) rfl ?_
  refine xr_aload_n i_X1_take_21 rfl (q := 22) rfl ?_
  refine xr_iconst i_X1_take_22 (q := 23) rfl ?_
  obtain ⟨x8, m7, em7, h⟩ := xi_bI_some h
  refine xr_VI i_X1_take_23 xcve_X1_34 rfl (As := [.ref v1, .int (Int32.ofInt 0)]) rfl (rest := [.int (Int32.ofInt 0), .ref b6]) rfl ((cc_X1_take_34 S _ _ _).trans em7) (q := 26) rfl ?_
  obtain ⟨c9, h⟩ := xi_if_some h
  refine xr_iastore i_X1_take_26 c9 (q := 27) rfl ?_
  refine xr_aload_n i_X1_take_27 rfl (q := 28) rfl ?_
  obtain ⟨c10, h⟩ := xi_if_some h
  obtain ⟨b11, eb11, h⟩ := xi_bind_some h
  refine xr_getR i_X1_take_28 xfe_X1_18 c10 eb11 (q := 31) rfl ?_
  refine xr_iconst i_X1_take_31 (q := 32) rfl ?_
  refine xr_aload_n i_X1_take_32 rfl (q := 33) rfl ?_
  refine xr_iconst i_X1_take_33 (q := 34) rfl ?_
  obtain ⟨x13, m12, em12, h⟩ := xi_bI_some h
  refine xr_VI i_X1_take_34 xcve_X1_34 rfl (As := [.ref v1, .int (Int32.ofInt 1)]) rfl (rest := [.int (Int32.ofInt 1), .ref b11]) rfl ((cc_X1_take_34 S _ _ _).trans em12) (q := 37) rfl ?_
  obtain ⟨c14, h⟩ := xi_if_some h
  refine xr_iastore i_X1_take_37 c14 (q := 38) rfl ?_
  refine xr_iconst i_X1_take_38 (q := 39) rfl ?_
  refine xr_istore_n i_X1_take_39 rfl (L2 := [some (.ref v0), some (.ref v1), some (.int (Int32.ofInt 0))]) rfl (q := 40) rfl ?_
  exact xi_X_le (xi_le_s (xi_le_s (xi_le_s xi_le_z))) (xs_X1_take_40 10000 _ _ _ _ h)
set_option maxRecDepth 100000 in
theorem po_X1_take {l : Launch} {E : xi_E} {S : xi_S} {D : va_G} {tys : List (ClassId × FieldType)} (hC : xCx E S tys) : xi_Pok l E S D vwCl tys xNs RX1 xTs cX1_take 3 4 (P_X1_take S) := ⟨xi_dc_ok, by rw [hC.2]; exact xfo_X1, xkio_X1, xklo_X1, xi_calls_ok (ins := .invokestatic) (fun _ h => absurd h List.not_mem_nil), xi_calls_ok (ins := .invokevirtual) (List.forall_mem_cons.mpr ⟨(xc_X1_34 hC.1 (sn_X6_openPlaces hC) (by decide)), List.forall_mem_cons.mpr ⟨(xc_X1_41 hC.1 (sn_X6_ballBit hC) (by decide)), fun _ h => absurd h List.not_mem_nil⟩⟩)⟩
theorem sn_X1_take {l : Launch} {E : xi_E} {S : xi_S} {D : va_G} {tys : List (ClassId × FieldType)} (hC : xCx E S tys) : ∀ As m1 r m2, F_X1_take S As m1 = some (r, m2) → xi_Sound l E S D vwCl tys xNs xTs yX1_take cX1_take 3 none 4 As m1 r m2 := by
  intro As m1 r m2 h
  unfold F_X1_take at h
  split at h
  · exact xi_meth (P := P_X1_take S) (by decide) hC.1 (po_X1_take hC) (Nat.le_of_ble_eq_true rfl) rfl (xe_X1_take _ _ _ h)
  · exact xi_no h
theorem i_X8_within_0 : xi_dc cX8_within 0 = some (.iload_n 0, 1) := by decide +kernel
theorem i_X8_within_1 : xi_dc cX8_within 1 = some (.ifCond .lt 12, 3) := by decide +kernel
theorem t_X8_within_1 : ((1 : Nat) : Int) + 12 = ((13 : Nat) : Int) := by decide +kernel
theorem i_X8_within_4 : xi_dc cX8_within 4 = some (.iload_n 0, 1) := by decide +kernel
theorem i_X8_within_5 : xi_dc cX8_within 5 = some (.iload_n 1, 1) := by decide +kernel
theorem i_X8_within_6 : xi_dc cX8_within 6 = some (.if_icmp .gt 7, 3) := by decide +kernel
theorem t_X8_within_6 : ((6 : Nat) : Int) + 7 = ((13 : Nat) : Int) := by decide +kernel
theorem i_X8_within_9 : xi_dc cX8_within 9 = some (.iconst 1, 1) := by decide +kernel
theorem i_X8_within_10 : xi_dc cX8_within 10 = some (.goto 4, 3) := by decide +kernel
theorem t_X8_within_10 : ((10 : Nat) : Int) + 4 = ((14 : Nat) : Int) := by decide +kernel
theorem i_X8_within_13 : xi_dc cX8_within 13 = some (.iconst 0, 1) := by decide +kernel
theorem i_X8_within_14 : xi_dc cX8_within 14 = some (.ireturn, 1) := by decide +kernel
def P_X8_within (S : xi_S) : xi_P := (xi_dc cX8_within, xi_tab xfl_X8, xi_tab xki_X8, xi_tab xkl_X8, xi_tab xcs_X8, xi_tab xcv_X8, xi_calls [], xi_calls [], 2)
def E_X8_within (S : xi_S) (v0 : Int32) (v1 : Int32) (m : xi_M) : Option xi_R :=
  if v0 < 0 then
    if (Int32.ofInt 0) = 0 ∨ (Int32.ofInt 0) = 1 then some (some (.int (Int32.ofInt 0)), m) else none
  else
    if v1 < v0 then
      if (Int32.ofInt 0) = 0 ∨ (Int32.ofInt 0) = 1 then some (some (.int (Int32.ofInt 0)), m) else none
    else
      if (Int32.ofInt 1) = 0 ∨ (Int32.ofInt 1) = 1 then some (some (.int (Int32.ofInt 1)), m) else none
def F_X8_within (S : xi_S) : xi_F := fun As m => match As with
  | [.int v0, .int v1] => E_X8_within S v0 v1 m
  | _ => none
set_option maxRecDepth 100000 in
set_option maxHeartbeats 4000000 in
theorem xe_X8_within {S : xi_S} {res : xi_R} (v0 : Int32) (v1 : Int32) (m : xi_M) (h : E_X8_within S v0 v1 m = some res) : xi_X S (P_X8_within S) (0, [some (.int v0), some (.int v1)], [], m) res := by
  unfold E_X8_within at h
  refine xr_iload_n i_X8_within_0 rfl (q := 1) rfl ?_
  by_cases c2 : v0 < 0
  · replace h := (if_pos c2).symm.trans h
    refine xr_ifCond_lt_p i_X8_within_1 c2 (q := 13) t_X8_within_1 (q2 := 4) rfl ?_
    refine xr_iconst i_X8_within_13 (q := 14) rfl ?_
    exact xr_zreturn i_X8_within_14 rfl h
  · replace h := (if_neg c2).symm.trans h
    refine xr_ifCond_lt_n i_X8_within_1 c2 (q := 13) t_X8_within_1 (q2 := 4) rfl ?_
    refine xr_iload_n i_X8_within_4 rfl (q := 5) rfl ?_
    refine xr_iload_n i_X8_within_5 rfl (q := 6) rfl ?_
    by_cases c1 : v1 < v0
    · replace h := (if_pos c1).symm.trans h
      refine xr_if_icmp_gt_p i_X8_within_6 c1 (q := 13) t_X8_within_6 (q2 := 9) rfl ?_
      refine xr_iconst i_X8_within_13 (q := 14) rfl ?_
      exact xr_zreturn i_X8_within_14 rfl h
    · replace h := (if_neg c1).symm.trans h
      refine xr_if_icmp_gt_n i_X8_within_6 c1 (q := 13) t_X8_within_6 (q2 := 9) rfl ?_
      refine xr_iconst i_X8_within_9 (q := 10) rfl ?_
      refine xr_goto i_X8_within_10 (q := 14) t_X8_within_10 ?_
      exact xr_zreturn i_X8_within_14 rfl h
set_option maxRecDepth 100000 in
theorem po_X8_within {l : Launch} {E : xi_E} {S : xi_S} {D : va_G} {tys : List (ClassId × FieldType)} (hC : xCx E S tys) : xi_Pok l E S D vwCl tys xNs RX8 xTs cX8_within 2 0 (P_X8_within S) := ⟨xi_dc_ok, by rw [hC.2]; exact xfo_X8, xkio_X8, xklo_X8, xi_calls_ok (ins := .invokestatic) (fun _ h => absurd h List.not_mem_nil), xi_calls_ok (ins := .invokevirtual) (fun _ h => absurd h List.not_mem_nil)⟩
theorem sn_X8_within {l : Launch} {E : xi_E} {S : xi_S} {D : va_G} {tys : List (ClassId × FieldType)} (hC : xCx E S tys) : ∀ As m1 r m2, F_X8_within S As m1 = some (r, m2) → xi_Sound l E S D vwCl tys xNs xTs yX8_within cX8_within 2 (some .boolean) 0 As m1 r m2 := by
  intro As m1 r m2 h
  unfold F_X8_within at h
  split at h
  · exact xi_meth (P := P_X8_within S) (by decide) hC.1 (po_X8_within hC) (Nat.le_of_ble_eq_true rfl) rfl (xe_X8_within _ _ _ h)
  · exact xi_no h
theorem i_X8_mayMove_0 : xi_dc cX8_mayMove 0 = some (.aload_n 0, 1) := by decide +kernel
theorem i_X8_mayMove_1 : xi_dc cX8_mayMove 1 = some (.iload_n 1, 1) := by decide +kernel
theorem i_X8_mayMove_2 : xi_dc cX8_mayMove 2 = some (.iaload, 1) := by decide +kernel
theorem i_X8_mayMove_3 : xi_dc cX8_mayMove 3 = some (.iload_n 2, 1) := by decide +kernel
theorem i_X8_mayMove_4 : xi_dc cX8_mayMove 4 = some (.iadd, 1) := by decide +kernel
theorem i_X8_mayMove_5 : xi_dc cX8_mayMove 5 = some (.istore_n 3, 1) := by decide +kernel
theorem i_X8_mayMove_6 : xi_dc cX8_mayMove 6 = some (.iload_n 1, 1) := by decide +kernel
theorem i_X8_mayMove_7 : xi_dc cX8_mayMove 7 = some (.iconst 1, 1) := by decide +kernel
theorem i_X8_mayMove_8 : xi_dc cX8_mayMove 8 = some (.iand, 1) := by decide +kernel
theorem i_X8_mayMove_9 : xi_dc cX8_mayMove 9 = some (.ifCond .ne 20, 3) := by decide +kernel
theorem t_X8_mayMove_9 : ((9 : Nat) : Int) + 20 = ((29 : Nat) : Int) := by decide +kernel
theorem i_X8_mayMove_12 : xi_dc cX8_mayMove 12 = some (.iload_n 3, 1) := by decide +kernel
theorem i_X8_mayMove_13 : xi_dc cX8_mayMove 13 = some (.aload_n 0, 1) := by decide +kernel
theorem i_X8_mayMove_14 : xi_dc cX8_mayMove 14 = some (.iload_n 1, 1) := by decide +kernel
theorem i_X8_mayMove_15 : xi_dc cX8_mayMove 15 = some (.iconst 1, 1) := by decide +kernel
theorem i_X8_mayMove_16 : xi_dc cX8_mayMove 16 = some (.iadd, 1) := by decide +kernel
theorem i_X8_mayMove_17 : xi_dc cX8_mayMove 17 = some (.iaload, 1) := by decide +kernel
theorem i_X8_mayMove_18 : xi_dc cX8_mayMove 18 = some (.if_icmp .ge 7, 3) := by decide +kernel
theorem t_X8_mayMove_18 : ((18 : Nat) : Int) + 7 = ((25 : Nat) : Int) := by decide +kernel
theorem i_X8_mayMove_21 : xi_dc cX8_mayMove 21 = some (.iconst 1, 1) := by decide +kernel
theorem i_X8_mayMove_22 : xi_dc cX8_mayMove 22 = some (.goto 21, 3) := by decide +kernel
theorem t_X8_mayMove_22 : ((22 : Nat) : Int) + 21 = ((43 : Nat) : Int) := by decide +kernel
theorem i_X8_mayMove_25 : xi_dc cX8_mayMove 25 = some (.iconst 0, 1) := by decide +kernel
theorem i_X8_mayMove_26 : xi_dc cX8_mayMove 26 = some (.goto 17, 3) := by decide +kernel
theorem t_X8_mayMove_26 : ((26 : Nat) : Int) + 17 = ((43 : Nat) : Int) := by decide +kernel
theorem i_X8_mayMove_29 : xi_dc cX8_mayMove 29 = some (.iload_n 3, 1) := by decide +kernel
theorem i_X8_mayMove_30 : xi_dc cX8_mayMove 30 = some (.aload_n 0, 1) := by decide +kernel
theorem i_X8_mayMove_31 : xi_dc cX8_mayMove 31 = some (.iload_n 1, 1) := by decide +kernel
theorem i_X8_mayMove_32 : xi_dc cX8_mayMove 32 = some (.iconst 1, 1) := by decide +kernel
theorem i_X8_mayMove_33 : xi_dc cX8_mayMove 33 = some (.isub, 1) := by decide +kernel
theorem i_X8_mayMove_34 : xi_dc cX8_mayMove 34 = some (.iaload, 1) := by decide +kernel
theorem i_X8_mayMove_35 : xi_dc cX8_mayMove 35 = some (.if_icmp .le 7, 3) := by decide +kernel
theorem t_X8_mayMove_35 : ((35 : Nat) : Int) + 7 = ((42 : Nat) : Int) := by decide +kernel
theorem i_X8_mayMove_38 : xi_dc cX8_mayMove 38 = some (.iconst 1, 1) := by decide +kernel
theorem i_X8_mayMove_39 : xi_dc cX8_mayMove 39 = some (.goto 4, 3) := by decide +kernel
theorem t_X8_mayMove_39 : ((39 : Nat) : Int) + 4 = ((43 : Nat) : Int) := by decide +kernel
theorem i_X8_mayMove_42 : xi_dc cX8_mayMove 42 = some (.iconst 0, 1) := by decide +kernel
theorem i_X8_mayMove_43 : xi_dc cX8_mayMove 43 = some (.istore 4, 2) := by decide +kernel
theorem i_X8_mayMove_45 : xi_dc cX8_mayMove 45 = some (.iload 4, 2) := by decide +kernel
theorem i_X8_mayMove_47 : xi_dc cX8_mayMove 47 = some (.ifCond .eq 16, 3) := by decide +kernel
theorem t_X8_mayMove_47 : ((47 : Nat) : Int) + 16 = ((63 : Nat) : Int) := by decide +kernel
theorem i_X8_mayMove_50 : xi_dc cX8_mayMove 50 = some (.iload_n 3, 1) := by decide +kernel
theorem i_X8_mayMove_51 : xi_dc cX8_mayMove 51 = some (.bipush 20, 2) := by decide +kernel
theorem i_X8_mayMove_53 : xi_dc cX8_mayMove 53 = some (.invokestatic 71, 3) := by decide +kernel
theorem i_X8_mayMove_56 : xi_dc cX8_mayMove 56 = some (.ifCond .eq 7, 3) := by decide +kernel
theorem t_X8_mayMove_56 : ((56 : Nat) : Int) + 7 = ((63 : Nat) : Int) := by decide +kernel
theorem i_X8_mayMove_59 : xi_dc cX8_mayMove 59 = some (.iconst 1, 1) := by decide +kernel
theorem i_X8_mayMove_60 : xi_dc cX8_mayMove 60 = some (.goto 4, 3) := by decide +kernel
theorem t_X8_mayMove_60 : ((60 : Nat) : Int) + 4 = ((64 : Nat) : Int) := by decide +kernel
theorem i_X8_mayMove_63 : xi_dc cX8_mayMove 63 = some (.iconst 0, 1) := by decide +kernel
theorem i_X8_mayMove_64 : xi_dc cX8_mayMove 64 = some (.ireturn, 1) := by decide +kernel
def P_X8_mayMove (S : xi_S) : xi_P := (xi_dc cX8_mayMove, xi_tab xfl_X8, xi_tab xki_X8, xi_tab xkl_X8, xi_tab xcs_X8, xi_tab xcv_X8, xi_calls [(71, xi_wS 2 (F_X8_within S))], xi_calls [], 2)
theorem cc_X8_mayMove_71 (S : xi_S) (a0 : Int32) (a1 : Int32) (m : xi_M) : (P_X8_mayMove S).2.2.2.2.2.2.1 71 [.int a0, .int a1] m = (E_X8_within S a0 a1 m) := by
  show xi_calls [(71, xi_wS 2 (F_X8_within S))] 71 [.int a0, .int a1] m = _
  refine Eq.trans (b := xi_wS 2 (F_X8_within S) [.int a0, .int a1] m) (xi_calls_hit rfl) ?_
  exact xi_wS_eq rfl
def E_X8_mayMove (S : xi_S) (v0 : Nat) (v1 : Int32) (v2 : Int32) (m : xi_M) : Option xi_R :=
  if S.1 v0 = 0 ∧ ¬ (v1 < 0 ∨ S.2.1 v0 ≤ Int32.toNatClampNeg v1) then
    if (v1 &&& (Int32.ofInt 1)) = 0 then
      if S.1 v0 = 0 ∧ ¬ ((v1 + (Int32.ofInt 1)) < 0 ∨ S.2.1 v0 ≤ Int32.toNatClampNeg (v1 + (Int32.ofInt 1))) then
        if (m.1 v0 (Int32.toNatClampNeg (v1 + (Int32.ofInt 1)))) ≤ ((m.1 v0 (Int32.toNatClampNeg v1)) + v2) then
          if (Int32.ofInt 0) = 0 then
            if (Int32.ofInt 0) = 0 ∨ (Int32.ofInt 0) = 1 then some (some (.int (Int32.ofInt 0)), m) else none
          else
            xi_bI (E_X8_within S ((m.1 v0 (Int32.toNatClampNeg v1)) + v2) ((Int8.ofInt 20).toInt32) m) fun x14 m13 =>
            if x14 = 0 then
              if (Int32.ofInt 0) = 0 ∨ (Int32.ofInt 0) = 1 then some (some (.int (Int32.ofInt 0)), m13) else none
            else
              if (Int32.ofInt 1) = 0 ∨ (Int32.ofInt 1) = 1 then some (some (.int (Int32.ofInt 1)), m13) else none
        else
          if (Int32.ofInt 1) = 0 then
            if (Int32.ofInt 0) = 0 ∨ (Int32.ofInt 0) = 1 then some (some (.int (Int32.ofInt 0)), m) else none
          else
            xi_bI (E_X8_within S ((m.1 v0 (Int32.toNatClampNeg v1)) + v2) ((Int8.ofInt 20).toInt32) m) fun x18 m17 =>
            if x18 = 0 then
              if (Int32.ofInt 0) = 0 ∨ (Int32.ofInt 0) = 1 then some (some (.int (Int32.ofInt 0)), m17) else none
            else
              if (Int32.ofInt 1) = 0 ∨ (Int32.ofInt 1) = 1 then some (some (.int (Int32.ofInt 1)), m17) else none
      else none
    else
      if S.1 v0 = 0 ∧ ¬ ((v1 - (Int32.ofInt 1)) < 0 ∨ S.2.1 v0 ≤ Int32.toNatClampNeg (v1 - (Int32.ofInt 1))) then
        if ((m.1 v0 (Int32.toNatClampNeg v1)) + v2) ≤ (m.1 v0 (Int32.toNatClampNeg (v1 - (Int32.ofInt 1)))) then
          if (Int32.ofInt 0) = 0 then
            if (Int32.ofInt 0) = 0 ∨ (Int32.ofInt 0) = 1 then some (some (.int (Int32.ofInt 0)), m) else none
          else
            xi_bI (E_X8_within S ((m.1 v0 (Int32.toNatClampNeg v1)) + v2) ((Int8.ofInt 20).toInt32) m) fun x4 m3 =>
            if x4 = 0 then
              if (Int32.ofInt 0) = 0 ∨ (Int32.ofInt 0) = 1 then some (some (.int (Int32.ofInt 0)), m3) else none
            else
              if (Int32.ofInt 1) = 0 ∨ (Int32.ofInt 1) = 1 then some (some (.int (Int32.ofInt 1)), m3) else none
        else
          if (Int32.ofInt 1) = 0 then
            if (Int32.ofInt 0) = 0 ∨ (Int32.ofInt 0) = 1 then some (some (.int (Int32.ofInt 0)), m) else none
          else
            xi_bI (E_X8_within S ((m.1 v0 (Int32.toNatClampNeg v1)) + v2) ((Int8.ofInt 20).toInt32) m) fun x8 m7 =>
            if x8 = 0 then
              if (Int32.ofInt 0) = 0 ∨ (Int32.ofInt 0) = 1 then some (some (.int (Int32.ofInt 0)), m7) else none
            else
              if (Int32.ofInt 1) = 0 ∨ (Int32.ofInt 1) = 1 then some (some (.int (Int32.ofInt 1)), m7) else none
      else none
  else none
def F_X8_mayMove (S : xi_S) : xi_F := fun As m => match As with
  | [.ref v0, .int v1, .int v2] => E_X8_mayMove S v0 v1 v2 m
  | _ => none
set_option maxRecDepth 100000 in
set_option maxHeartbeats 4000000 in
theorem xe_X8_mayMove {S : xi_S} {res : xi_R} (v0 : Nat) (v1 : Int32) (v2 : Int32) (m : xi_M) (h : E_X8_mayMove S v0 v1 v2 m = some res) : xi_X S (P_X8_mayMove S) (0, [some (.ref v0), some (.int v1), some (.int v2), none, none], [], m) res := by
  unfold E_X8_mayMove at h
  refine xr_aload_n i_X8_mayMove_0 rfl (q := 1) rfl ?_
  refine xr_iload_n i_X8_mayMove_1 rfl (q := 2) rfl ?_
  obtain ⟨c1, h⟩ := xi_if_some h
  refine xr_iaload i_X8_mayMove_2 c1 (q := 3) rfl ?_
  refine xr_iload_n i_X8_mayMove_3 rfl (q := 4) rfl ?_
  refine xr_iadd i_X8_mayMove_4 (q := 5) rfl ?_
  refine xr_istore_n i_X8_mayMove_5 rfl (L2 := [some (.ref v0), some (.int v1), some (.int v2), some (.int ((m.1 v0 (Int32.toNatClampNeg v1)) + v2)), none]) rfl (q := 6) rfl ?_
  refine xr_iload_n i_X8_mayMove_6 rfl (q := 7) rfl ?_
  refine xr_iconst i_X8_mayMove_7 (q := 8) rfl ?_
  refine xr_iand i_X8_mayMove_8 (q := 9) rfl ?_
  by_cases c22 : (v1 &&& (Int32.ofInt 1)) = 0
  · replace h := (if_pos c22).symm.trans h
    refine xr_ifCond_ne_p i_X8_mayMove_9 c22 (q := 29) t_X8_mayMove_9 (q2 := 12) rfl ?_
    refine xr_iload_n i_X8_mayMove_12 rfl (q := 13) rfl ?_
    refine xr_aload_n i_X8_mayMove_13 rfl (q := 14) rfl ?_
    refine xr_iload_n i_X8_mayMove_14 rfl (q := 15) rfl ?_
    refine xr_iconst i_X8_mayMove_15 (q := 16) rfl ?_
    refine xr_iadd i_X8_mayMove_16 (q := 17) rfl ?_
    obtain ⟨c12, h⟩ := xi_if_some h
    refine xr_iaload i_X8_mayMove_17 c12 (q := 18) rfl ?_
    by_cases c21 : (m.1 v0 (Int32.toNatClampNeg (v1 + (Int32.ofInt 1)))) ≤ ((m.1 v0 (Int32.toNatClampNeg v1)) + v2)
    · replace h := (if_pos c21).symm.trans h
      refine xr_if_icmp_ge_p i_X8_mayMove_18 c21 (q := 25) t_X8_mayMove_18 (q2 := 21) rfl ?_
      refine xr_iconst i_X8_mayMove_25 (q := 26) rfl ?_
      refine xr_goto i_X8_mayMove_26 (q := 43) t_X8_mayMove_26 ?_
      refine xr_istore i_X8_mayMove_43 rfl (L2 := [some (.ref v0), some (.int v1), some (.int v2), some (.int ((m.1 v0 (Int32.toNatClampNeg v1)) + v2)), some (.int (Int32.ofInt 0))]) rfl (q := 45) rfl ?_
      refine xr_iload i_X8_mayMove_45 rfl (q := 47) rfl ?_
      by_cases c16 : (Int32.ofInt 0) = 0
      · replace h := (if_pos c16).symm.trans h
        refine xr_ifCond_eq_p i_X8_mayMove_47 c16 (q := 63) t_X8_mayMove_47 (q2 := 50) rfl ?_
        refine xr_iconst i_X8_mayMove_63 (q := 64) rfl ?_
        exact xr_zreturn i_X8_mayMove_64 rfl h
      · replace h := (if_neg c16).symm.trans h
        refine xr_ifCond_eq_n i_X8_mayMove_47 c16 (q := 63) t_X8_mayMove_47 (q2 := 50) rfl ?_
        refine xr_iload_n i_X8_mayMove_50 rfl (q := 51) rfl ?_
        refine xr_bipush i_X8_mayMove_51 (q := 53) rfl ?_
        obtain ⟨x14, m13, em13, h⟩ := xi_bI_some h
        refine xr_SI i_X8_mayMove_53 xcse_X8_71 rfl (As := [.int ((m.1 v0 (Int32.toNatClampNeg v1)) + v2), .int ((Int8.ofInt 20).toInt32)]) rfl (rest := []) rfl ((cc_X8_mayMove_71 S _ _ _).trans em13) (q := 56) rfl ?_
        by_cases c15 : x14 = 0
        · replace h := (if_pos c15).symm.trans h
          refine xr_ifCond_eq_p i_X8_mayMove_56 c15 (q := 63) t_X8_mayMove_56 (q2 := 59) rfl ?_
          refine xr_iconst i_X8_mayMove_63 (q := 64) rfl ?_
          exact xr_zreturn i_X8_mayMove_64 rfl h
        · replace h := (if_neg c15).symm.trans h
          refine xr_ifCond_eq_n i_X8_mayMove_56 c15 (q := 63) t_X8_mayMove_56 (q2 := 59) rfl ?_
          refine xr_iconst i_X8_mayMove_59 (q := 60) rfl ?_
          refine xr_goto i_X8_mayMove_60 (q := 64) t_X8_mayMove_60 ?_
          exact xr_zreturn i_X8_mayMove_64 rfl h
    · replace h := (if_neg c21).symm.trans h
      refine xr_if_icmp_ge_n i_X8_mayMove_18 c21 (q := 25) t_X8_mayMove_18 (q2 := 21) rfl ?_
      refine xr_iconst i_X8_mayMove_21 (q := 22) rfl ?_
      refine xr_goto i_X8_mayMove_22 (q := 43) t_X8_mayMove_22 ?_
      refine xr_istore i_X8_mayMove_43 rfl (L2 := [some (.ref v0), some (.int v1), some (.int v2), some (.int ((m.1 v0 (Int32.toNatClampNeg v1)) + v2)), some (.int (Int32.ofInt 1))]) rfl (q := 45) rfl ?_
      refine xr_iload i_X8_mayMove_45 rfl (q := 47) rfl ?_
      by_cases c20 : (Int32.ofInt 1) = 0
      · replace h := (if_pos c20).symm.trans h
        refine xr_ifCond_eq_p i_X8_mayMove_47 c20 (q := 63) t_X8_mayMove_47 (q2 := 50) rfl ?_
        refine xr_iconst i_X8_mayMove_63 (q := 64) rfl ?_
        exact xr_zreturn i_X8_mayMove_64 rfl h
      · replace h := (if_neg c20).symm.trans h
        refine xr_ifCond_eq_n i_X8_mayMove_47 c20 (q := 63) t_X8_mayMove_47 (q2 := 50) rfl ?_
        refine xr_iload_n i_X8_mayMove_50 rfl (q := 51) rfl ?_
        refine xr_bipush i_X8_mayMove_51 (q := 53) rfl ?_
        obtain ⟨x18, m17, em17, h⟩ := xi_bI_some h
        refine xr_SI i_X8_mayMove_53 xcse_X8_71 rfl (As := [.int ((m.1 v0 (Int32.toNatClampNeg v1)) + v2), .int ((Int8.ofInt 20).toInt32)]) rfl (rest := []) rfl ((cc_X8_mayMove_71 S _ _ _).trans em17) (q := 56) rfl ?_
        by_cases c19 : x18 = 0
        · replace h := (if_pos c19).symm.trans h
          refine xr_ifCond_eq_p i_X8_mayMove_56 c19 (q := 63) t_X8_mayMove_56 (q2 := 59) rfl ?_
          refine xr_iconst i_X8_mayMove_63 (q := 64) rfl ?_
          exact xr_zreturn i_X8_mayMove_64 rfl h
        · replace h := (if_neg c19).symm.trans h
          refine xr_ifCond_eq_n i_X8_mayMove_56 c19 (q := 63) t_X8_mayMove_56 (q2 := 59) rfl ?_
          refine xr_iconst i_X8_mayMove_59 (q := 60) rfl ?_
          refine xr_goto i_X8_mayMove_60 (q := 64) t_X8_mayMove_60 ?_
          exact xr_zreturn i_X8_mayMove_64 rfl h
  · replace h := (if_neg c22).symm.trans h
    refine xr_ifCond_ne_n i_X8_mayMove_9 c22 (q := 29) t_X8_mayMove_9 (q2 := 12) rfl ?_
    refine xr_iload_n i_X8_mayMove_29 rfl (q := 30) rfl ?_
    refine xr_aload_n i_X8_mayMove_30 rfl (q := 31) rfl ?_
    refine xr_iload_n i_X8_mayMove_31 rfl (q := 32) rfl ?_
    refine xr_iconst i_X8_mayMove_32 (q := 33) rfl ?_
    refine xr_isub i_X8_mayMove_33 (q := 34) rfl ?_
    obtain ⟨c2, h⟩ := xi_if_some h
    refine xr_iaload i_X8_mayMove_34 c2 (q := 35) rfl ?_
    by_cases c11 : ((m.1 v0 (Int32.toNatClampNeg v1)) + v2) ≤ (m.1 v0 (Int32.toNatClampNeg (v1 - (Int32.ofInt 1))))
    · replace h := (if_pos c11).symm.trans h
      refine xr_if_icmp_le_p i_X8_mayMove_35 c11 (q := 42) t_X8_mayMove_35 (q2 := 38) rfl ?_
      refine xr_iconst i_X8_mayMove_42 (q := 43) rfl ?_
      refine xr_istore i_X8_mayMove_43 rfl (L2 := [some (.ref v0), some (.int v1), some (.int v2), some (.int ((m.1 v0 (Int32.toNatClampNeg v1)) + v2)), some (.int (Int32.ofInt 0))]) rfl (q := 45) rfl ?_
      refine xr_iload i_X8_mayMove_45 rfl (q := 47) rfl ?_
      by_cases c6 : (Int32.ofInt 0) = 0
      · replace h := (if_pos c6).symm.trans h
        refine xr_ifCond_eq_p i_X8_mayMove_47 c6 (q := 63) t_X8_mayMove_47 (q2 := 50) rfl ?_
        refine xr_iconst i_X8_mayMove_63 (q := 64) rfl ?_
        exact xr_zreturn i_X8_mayMove_64 rfl h
      · replace h := (if_neg c6).symm.trans h
        refine xr_ifCond_eq_n i_X8_mayMove_47 c6 (q := 63) t_X8_mayMove_47 (q2 := 50) rfl ?_
        refine xr_iload_n i_X8_mayMove_50 rfl (q := 51) rfl ?_
        refine xr_bipush i_X8_mayMove_51 (q := 53) rfl ?_
        obtain ⟨x4, m3, em3, h⟩ := xi_bI_some h
        refine xr_SI i_X8_mayMove_53 xcse_X8_71 rfl (As := [.int ((m.1 v0 (Int32.toNatClampNeg v1)) + v2), .int ((Int8.ofInt 20).toInt32)]) rfl (rest := []) rfl ((cc_X8_mayMove_71 S _ _ _).trans em3) (q := 56) rfl ?_
        by_cases c5 : x4 = 0
        · replace h := (if_pos c5).symm.trans h
          refine xr_ifCond_eq_p i_X8_mayMove_56 c5 (q := 63) t_X8_mayMove_56 (q2 := 59) rfl ?_
          refine xr_iconst i_X8_mayMove_63 (q := 64) rfl ?_
          exact xr_zreturn i_X8_mayMove_64 rfl h
        · replace h := (if_neg c5).symm.trans h
          refine xr_ifCond_eq_n i_X8_mayMove_56 c5 (q := 63) t_X8_mayMove_56 (q2 := 59) rfl ?_
          refine xr_iconst i_X8_mayMove_59 (q := 60) rfl ?_
          refine xr_goto i_X8_mayMove_60 (q := 64) t_X8_mayMove_60 ?_
          exact xr_zreturn i_X8_mayMove_64 rfl h
    · replace h := (if_neg c11).symm.trans h
      refine xr_if_icmp_le_n i_X8_mayMove_35 c11 (q := 42) t_X8_mayMove_35 (q2 := 38) rfl ?_
      refine xr_iconst i_X8_mayMove_38 (q := 39) rfl ?_
      refine xr_goto i_X8_mayMove_39 (q := 43) t_X8_mayMove_39 ?_
      refine xr_istore i_X8_mayMove_43 rfl (L2 := [some (.ref v0), some (.int v1), some (.int v2), some (.int ((m.1 v0 (Int32.toNatClampNeg v1)) + v2)), some (.int (Int32.ofInt 1))]) rfl (q := 45) rfl ?_
      refine xr_iload i_X8_mayMove_45 rfl (q := 47) rfl ?_
      by_cases c10 : (Int32.ofInt 1) = 0
      · replace h := (if_pos c10).symm.trans h
        refine xr_ifCond_eq_p i_X8_mayMove_47 c10 (q := 63) t_X8_mayMove_47 (q2 := 50) rfl ?_
        refine xr_iconst i_X8_mayMove_63 (q := 64) rfl ?_
        exact xr_zreturn i_X8_mayMove_64 rfl h
      · replace h := (if_neg c10).symm.trans h
        refine xr_ifCond_eq_n i_X8_mayMove_47 c10 (q := 63) t_X8_mayMove_47 (q2 := 50) rfl ?_
        refine xr_iload_n i_X8_mayMove_50 rfl (q := 51) rfl ?_
        refine xr_bipush i_X8_mayMove_51 (q := 53) rfl ?_
        obtain ⟨x8, m7, em7, h⟩ := xi_bI_some h
        refine xr_SI i_X8_mayMove_53 xcse_X8_71 rfl (As := [.int ((m.1 v0 (Int32.toNatClampNeg v1)) + v2), .int ((Int8.ofInt 20).toInt32)]) rfl (rest := []) rfl ((cc_X8_mayMove_71 S _ _ _).trans em7) (q := 56) rfl ?_
        by_cases c9 : x8 = 0
        · replace h := (if_pos c9).symm.trans h
          refine xr_ifCond_eq_p i_X8_mayMove_56 c9 (q := 63) t_X8_mayMove_56 (q2 := 59) rfl ?_
          refine xr_iconst i_X8_mayMove_63 (q := 64) rfl ?_
          exact xr_zreturn i_X8_mayMove_64 rfl h
        · replace h := (if_neg c9).symm.trans h
          refine xr_ifCond_eq_n i_X8_mayMove_56 c9 (q := 63) t_X8_mayMove_56 (q2 := 59) rfl ?_
          refine xr_iconst i_X8_mayMove_59 (q := 60) rfl ?_
          refine xr_goto i_X8_mayMove_60 (q := 64) t_X8_mayMove_60 ?_
          exact xr_zreturn i_X8_mayMove_64 rfl h
set_option maxRecDepth 100000 in
theorem po_X8_mayMove {l : Launch} {E : xi_E} {S : xi_S} {D : va_G} {tys : List (ClassId × FieldType)} (hC : xCx E S tys) : xi_Pok l E S D vwCl tys xNs RX8 xTs cX8_mayMove 5 1 (P_X8_mayMove S) := ⟨xi_dc_ok, by rw [hC.2]; exact xfo_X8, xkio_X8, xklo_X8, xi_calls_ok (ins := .invokestatic) (List.forall_mem_cons.mpr ⟨(xc_X8_71 (sn_X8_within hC) (by decide)), fun _ h => absurd h List.not_mem_nil⟩), xi_calls_ok (ins := .invokevirtual) (fun _ h => absurd h List.not_mem_nil)⟩
theorem sn_X8_mayMove {l : Launch} {E : xi_E} {S : xi_S} {D : va_G} {tys : List (ClassId × FieldType)} (hC : xCx E S tys) : ∀ As m1 r m2, F_X8_mayMove S As m1 = some (r, m2) → xi_Sound l E S D vwCl tys xNs xTs yX8_mayMove cX8_mayMove 5 (some .boolean) 1 As m1 r m2 := by
  intro As m1 r m2 h
  unfold F_X8_mayMove at h
  split at h
  · exact xi_meth (P := P_X8_mayMove S) (by decide) hC.1 (po_X8_mayMove hC) (Nat.le_of_ble_eq_true rfl) rfl (xe_X8_mayMove _ _ _ _ h)
  · exact xi_no h
theorem i_X2_best_0 : xi_dc cX2_best 0 = some (.iload_n 3, 1) := by decide +kernel
theorem i_X2_best_1 : xi_dc cX2_best 1 = some (.iload_n 2, 1) := by decide +kernel
theorem i_X2_best_2 : xi_dc cX2_best 2 = some (.if_icmp .lt 27, 3) := by decide +kernel
theorem t_X2_best_2 : ((2 : Nat) : Int) + 27 = ((29 : Nat) : Int) := by decide +kernel
theorem i_X2_best_5 : xi_dc cX2_best 5 = some (.aload_n 0, 1) := by decide +kernel
theorem i_X2_best_6 : xi_dc cX2_best 6 = some (.iconst 1, 1) := by decide +kernel
theorem i_X2_best_7 : xi_dc cX2_best 7 = some (.aload_n 1, 1) := by decide +kernel
theorem i_X2_best_8 : xi_dc cX2_best 8 = some (.iconst 2, 1) := by decide +kernel
theorem i_X2_best_9 : xi_dc cX2_best 9 = some (.iaload, 1) := by decide +kernel
theorem i_X2_best_10 : xi_dc cX2_best 10 = some (.aload_n 1, 1) := by decide +kernel
theorem i_X2_best_11 : xi_dc cX2_best 11 = some (.iconst 3, 1) := by decide +kernel
theorem i_X2_best_12 : xi_dc cX2_best 12 = some (.iaload, 1) := by decide +kernel
theorem i_X2_best_13 : xi_dc cX2_best 13 = some (.invokevirtual 34, 3) := by decide +kernel
theorem i_X2_best_16 : xi_dc cX2_best 16 = some (.aload_n 0, 1) := by decide +kernel
theorem i_X2_best_17 : xi_dc cX2_best 17 = some (.iconst 0, 1) := by decide +kernel
theorem i_X2_best_18 : xi_dc cX2_best 18 = some (.aload_n 1, 1) := by decide +kernel
theorem i_X2_best_19 : xi_dc cX2_best 19 = some (.iconst 0, 1) := by decide +kernel
theorem i_X2_best_20 : xi_dc cX2_best 20 = some (.iaload, 1) := by decide +kernel
theorem i_X2_best_21 : xi_dc cX2_best 21 = some (.aload_n 1, 1) := by decide +kernel
theorem i_X2_best_22 : xi_dc cX2_best 22 = some (.iconst 1, 1) := by decide +kernel
theorem i_X2_best_23 : xi_dc cX2_best 23 = some (.iaload, 1) := by decide +kernel
theorem i_X2_best_24 : xi_dc cX2_best 24 = some (.invokevirtual 34, 3) := by decide +kernel
theorem i_X2_best_27 : xi_dc cX2_best 27 = some (.isub, 1) := by decide +kernel
theorem i_X2_best_28 : xi_dc cX2_best 28 = some (.ireturn, 1) := by decide +kernel
theorem i_X2_best_29 : xi_dc cX2_best 29 = some (.iload_n 3, 1) := by decide +kernel
theorem i_X2_best_30 : xi_dc cX2_best 30 = some (.iconst 2, 1) := by decide +kernel
theorem i_X2_best_31 : xi_dc cX2_best 31 = some (.irem, 1) := by decide +kernel
theorem i_X2_best_32 : xi_dc cX2_best 32 = some (.ifCond .ne 7, 3) := by decide +kernel
theorem t_X2_best_32 : ((32 : Nat) : Int) + 7 = ((39 : Nat) : Int) := by decide +kernel
theorem i_X2_best_35 : xi_dc cX2_best 35 = some (.iconst 1, 1) := by decide +kernel
theorem i_X2_best_36 : xi_dc cX2_best 36 = some (.goto 4, 3) := by decide +kernel
theorem t_X2_best_36 : ((36 : Nat) : Int) + 4 = ((40 : Nat) : Int) := by decide +kernel
theorem i_X2_best_39 : xi_dc cX2_best 39 = some (.iconst 0, 1) := by decide +kernel
theorem i_X2_best_40 : xi_dc cX2_best 40 = some (.istore 6, 2) := by decide +kernel
theorem i_X2_best_42 : xi_dc cX2_best 42 = some (.iload 4, 2) := by decide +kernel
theorem i_X2_best_44 : xi_dc cX2_best 44 = some (.istore 7, 2) := by decide +kernel
theorem i_X2_best_46 : xi_dc cX2_best 46 = some (.iload 5, 2) := by decide +kernel
theorem i_X2_best_48 : xi_dc cX2_best 48 = some (.istore 8, 2) := by decide +kernel
theorem i_X2_best_50 : xi_dc cX2_best 50 = some (.iconst 0, 1) := by decide +kernel
theorem i_X2_best_51 : xi_dc cX2_best 51 = some (.istore 9, 2) := by decide +kernel
theorem i_X2_best_53 : xi_dc cX2_best 53 = some (.iload 9, 2) := by decide +kernel
theorem i_X2_best_55 : xi_dc cX2_best 55 = some (.bipush 8, 2) := by decide +kernel
theorem i_X2_best_57 : xi_dc cX2_best 57 = some (.if_icmp .gt 141, 3) := by decide +kernel
theorem t_X2_best_57 : ((57 : Nat) : Int) + 141 = ((198 : Nat) : Int) := by decide +kernel
theorem i_X2_best_60 : xi_dc cX2_best 60 = some (.iload 7, 2) := by decide +kernel
theorem i_X2_best_62 : xi_dc cX2_best 62 = some (.iload 8, 2) := by decide +kernel
theorem i_X2_best_64 : xi_dc cX2_best 64 = some (.if_icmp .ge 134, 3) := by decide +kernel
theorem t_X2_best_64 : ((64 : Nat) : Int) + 134 = ((198 : Nat) : Int) := by decide +kernel
theorem i_X2_best_67 : xi_dc cX2_best 67 = some (.iload 9, 2) := by decide +kernel
theorem i_X2_best_69 : xi_dc cX2_best 69 = some (.bipush 8, 2) := by decide +kernel
theorem i_X2_best_71 : xi_dc cX2_best 71 = some (.if_icmp .ge 10, 3) := by decide +kernel
theorem t_X2_best_71 : ((71 : Nat) : Int) + 10 = ((81 : Nat) : Int) := by decide +kernel
theorem i_X2_best_74 : xi_dc cX2_best 74 = some (.iload 9, 2) := by decide +kernel
theorem i_X2_best_76 : xi_dc cX2_best 76 = some (.iconst 2, 1) := by decide +kernel
theorem i_X2_best_77 : xi_dc cX2_best 77 = some (.idiv, 1) := by decide +kernel
theorem i_X2_best_78 : xi_dc cX2_best 78 = some (.goto 4, 3) := by decide +kernel
theorem t_X2_best_78 : ((78 : Nat) : Int) + 4 = ((82 : Nat) : Int) := by decide +kernel
theorem i_X2_best_81 : xi_dc cX2_best 81 = some (.iconst 0, 1) := by decide +kernel
theorem i_X2_best_82 : xi_dc cX2_best 82 = some (.istore 10, 2) := by decide +kernel
theorem i_X2_best_84 : xi_dc cX2_best 84 = some (.iload 9, 2) := by decide +kernel
theorem i_X2_best_86 : xi_dc cX2_best 86 = some (.bipush 8, 2) := by decide +kernel
theorem i_X2_best_88 : xi_dc cX2_best 88 = some (.if_icmp .ge 14, 3) := by decide +kernel
theorem t_X2_best_88 : ((88 : Nat) : Int) + 14 = ((102 : Nat) : Int) := by decide +kernel
theorem i_X2_best_91 : xi_dc cX2_best 91 = some (.iload 9, 2) := by decide +kernel
theorem i_X2_best_93 : xi_dc cX2_best 93 = some (.iconst 2, 1) := by decide +kernel
theorem i_X2_best_94 : xi_dc cX2_best 94 = some (.irem, 1) := by decide +kernel
theorem i_X2_best_95 : xi_dc cX2_best 95 = some (.iconst 2, 1) := by decide +kernel
theorem i_X2_best_96 : xi_dc cX2_best 96 = some (.imul, 1) := by decide +kernel
theorem i_X2_best_97 : xi_dc cX2_best 97 = some (.iconst 1, 1) := by decide +kernel
theorem i_X2_best_98 : xi_dc cX2_best 98 = some (.isub, 1) := by decide +kernel
theorem i_X2_best_99 : xi_dc cX2_best 99 = some (.goto 4, 3) := by decide +kernel
theorem t_X2_best_99 : ((99 : Nat) : Int) + 4 = ((103 : Nat) : Int) := by decide +kernel
theorem i_X2_best_102 : xi_dc cX2_best 102 = some (.iconst 0, 1) := by decide +kernel
theorem i_X2_best_103 : xi_dc cX2_best 103 = some (.istore 11, 2) := by decide +kernel
theorem i_X2_best_105 : xi_dc cX2_best 105 = some (.iload 11, 2) := by decide +kernel
theorem i_X2_best_107 : xi_dc cX2_best 107 = some (.ifCond .eq 14, 3) := by decide +kernel
theorem t_X2_best_107 : ((107 : Nat) : Int) + 14 = ((121 : Nat) : Int) := by decide +kernel
theorem i_X2_best_110 : xi_dc cX2_best 110 = some (.aload_n 1, 1) := by decide +kernel
theorem i_X2_best_111 : xi_dc cX2_best 111 = some (.iload 10, 2) := by decide +kernel
theorem i_X2_best_113 : xi_dc cX2_best 113 = some (.iload 11, 2) := by decide +kernel
theorem i_X2_best_115 : xi_dc cX2_best 115 = some (.invokestatic 40, 3) := by decide +kernel
theorem i_X2_best_118 : xi_dc cX2_best 118 = some (.ifCond .eq 74, 3) := by decide +kernel
theorem t_X2_best_118 : ((118 : Nat) : Int) + 74 = ((192 : Nat) : Int) := by decide +kernel
theorem i_X2_best_121 : xi_dc cX2_best 121 = some (.aload_n 1, 1) := by decide +kernel
theorem i_X2_best_122 : xi_dc cX2_best 122 = some (.iload 10, 2) := by decide +kernel
theorem i_X2_best_124 : xi_dc cX2_best 124 = some (.dup2, 1) := by decide +kernel
theorem i_X2_best_125 : xi_dc cX2_best 125 = some (.iaload, 1) := by decide +kernel
theorem i_X2_best_126 : xi_dc cX2_best 126 = some (.iload 11, 2) := by decide +kernel
theorem i_X2_best_128 : xi_dc cX2_best 128 = some (.iadd, 1) := by decide +kernel
theorem i_X2_best_129 : xi_dc cX2_best 129 = some (.iastore, 1) := by decide +kernel
theorem i_X2_best_130 : xi_dc cX2_best 130 = some (.aload_n 0, 1) := by decide +kernel
theorem i_X2_best_131 : xi_dc cX2_best 131 = some (.aload_n 1, 1) := by decide +kernel
theorem i_X2_best_132 : xi_dc cX2_best 132 = some (.iload_n 2, 1) := by decide +kernel
theorem i_X2_best_133 : xi_dc cX2_best 133 = some (.iload_n 3, 1) := by decide +kernel
theorem i_X2_best_134 : xi_dc cX2_best 134 = some (.iconst 1, 1) := by decide +kernel
theorem i_X2_best_135 : xi_dc cX2_best 135 = some (.iadd, 1) := by decide +kernel
theorem i_X2_best_136 : xi_dc cX2_best 136 = some (.iload 7, 2) := by decide +kernel
theorem i_X2_best_138 : xi_dc cX2_best 138 = some (.iload 8, 2) := by decide +kernel
theorem i_X2_best_140 : xi_dc cX2_best 140 = some (.invokestatic 30, 3) := by decide +kernel
theorem i_X2_best_143 : xi_dc cX2_best 143 = some (.istore 12, 2) := by decide +kernel
theorem i_X2_best_145 : xi_dc cX2_best 145 = some (.aload_n 1, 1) := by decide +kernel
theorem i_X2_best_146 : xi_dc cX2_best 146 = some (.iload 10, 2) := by decide +kernel
theorem i_X2_best_148 : xi_dc cX2_best 148 = some (.dup2, 1) := by decide +kernel
theorem i_X2_best_149 : xi_dc cX2_best 149 = some (.iaload, 1) := by decide +kernel
theorem i_X2_best_150 : xi_dc cX2_best 150 = some (.iload 11, 2) := by decide +kernel
theorem i_X2_best_152 : xi_dc cX2_best 152 = some (.isub, 1) := by decide +kernel
theorem i_X2_best_153 : xi_dc cX2_best 153 = some (.iastore, 1) := by decide +kernel
theorem i_X2_best_154 : xi_dc cX2_best 154 = some (.iload 6, 2) := by decide +kernel
theorem i_X2_best_156 : xi_dc cX2_best 156 = some (.ifCond .eq 13, 3) := by decide +kernel
theorem t_X2_best_156 : ((156 : Nat) : Int) + 13 = ((169 : Nat) : Int) := by decide +kernel
theorem i_X2_best_159 : xi_dc cX2_best 159 = some (.iload 7, 2) := by decide +kernel
theorem i_X2_best_161 : xi_dc cX2_best 161 = some (.iload 12, 2) := by decide +kernel
theorem i_X2_best_163 : xi_dc cX2_best 163 = some (.invokestatic 44, 3) := by decide +kernel
theorem i_X2_best_166 : xi_dc cX2_best 166 = some (.goto 5, 3) := by decide +kernel
theorem t_X2_best_166 : ((166 : Nat) : Int) + 5 = ((171 : Nat) : Int) := by decide +kernel
theorem i_X2_best_169 : xi_dc cX2_best 169 = some (.iload 7, 2) := by decide +kernel
theorem i_X2_best_171 : xi_dc cX2_best 171 = some (.istore 7, 2) := by decide +kernel
theorem i_X2_best_173 : xi_dc cX2_best 173 = some (.iload 6, 2) := by decide +kernel
theorem i_X2_best_175 : xi_dc cX2_best 175 = some (.ifCond .eq 8, 3) := by decide +kernel
theorem t_X2_best_175 : ((175 : Nat) : Int) + 8 = ((183 : Nat) : Int) := by decide +kernel
theorem i_X2_best_178 : xi_dc cX2_best 178 = some (.iload 8, 2) := by decide +kernel
theorem i_X2_best_180 : xi_dc cX2_best 180 = some (.goto 10, 3) := by decide +kernel
theorem t_X2_best_180 : ((180 : Nat) : Int) + 10 = ((190 : Nat) : Int) := by decide +kernel
theorem i_X2_best_183 : xi_dc cX2_best 183 = some (.iload 8, 2) := by decide +kernel
theorem i_X2_best_185 : xi_dc cX2_best 185 = some (.iload 12, 2) := by decide +kernel
theorem i_X2_best_187 : xi_dc cX2_best 187 = some (.invokestatic 24, 3) := by decide +kernel
theorem i_X2_best_190 : xi_dc cX2_best 190 = some (.istore 8, 2) := by decide +kernel
theorem i_X2_best_192 : xi_dc cX2_best 192 = some (.iinc 9 1, 3) := by decide +kernel
theorem i_X2_best_195 : xi_dc cX2_best 195 = some (.goto (-142), 3) := by decide +kernel
theorem t_X2_best_195 : ((195 : Nat) : Int) + (-142) = ((53 : Nat) : Int) := by decide +kernel
theorem i_X2_best_198 : xi_dc cX2_best 198 = some (.iload 6, 2) := by decide +kernel
theorem i_X2_best_200 : xi_dc cX2_best 200 = some (.ifCond .eq 8, 3) := by decide +kernel
theorem t_X2_best_200 : ((200 : Nat) : Int) + 8 = ((208 : Nat) : Int) := by decide +kernel
theorem i_X2_best_203 : xi_dc cX2_best 203 = some (.iload 7, 2) := by decide +kernel
theorem i_X2_best_205 : xi_dc cX2_best 205 = some (.goto 5, 3) := by decide +kernel
theorem t_X2_best_205 : ((205 : Nat) : Int) + 5 = ((210 : Nat) : Int) := by decide +kernel
theorem i_X2_best_208 : xi_dc cX2_best 208 = some (.iload 8, 2) := by decide +kernel
theorem i_X2_best_210 : xi_dc cX2_best 210 = some (.ireturn, 1) := by decide +kernel
def P_X2_best (S : xi_S) (fb : xi_F) : xi_P := (xi_dc cX2_best, xi_tab xfl_X2, xi_tab xki_X2, xi_tab xkl_X2, xi_tab xcs_X2, xi_tab xcv_X2, xi_calls [(24, xi_wS 2 (F_J9_min_7cf53 S)), (30, xi_wS 6 fb), (40, xi_wS 3 (F_X8_mayMove S)), (44, xi_wS 2 (F_J9_max_7cf53 S))], xi_calls [(34, xi_wV S 4 3 (F_X1_goalsAt S))], 1)
theorem cc_X2_best_24 (S : xi_S) (fb : xi_F) (a0 : Int32) (a1 : Int32) (m : xi_M) : (P_X2_best S fb).2.2.2.2.2.2.1 24 [.int a0, .int a1] m = (E_J9_min_7cf53 S a0 a1 m) := by
  show xi_calls [(24, xi_wS 2 (F_J9_min_7cf53 S)), (30, xi_wS 6 fb), (40, xi_wS 3 (F_X8_mayMove S)), (44, xi_wS 2 (F_J9_max_7cf53 S))] 24 [.int a0, .int a1] m = _
  refine Eq.trans (b := xi_wS 2 (F_J9_min_7cf53 S) [.int a0, .int a1] m) (xi_calls_hit rfl) ?_
  exact xi_wS_eq rfl
theorem cc_X2_best_30 (S : xi_S) (fb : xi_F) (a0 : Nat) (a1 : Nat) (a2 : Int32) (a3 : Int32) (a4 : Int32) (a5 : Int32) (m : xi_M) : (P_X2_best S fb).2.2.2.2.2.2.1 30 [.ref a0, .ref a1, .int a2, .int a3, .int a4, .int a5] m = (fb [.ref a0, .ref a1, .int a2, .int a3, .int a4, .int a5] m) := by
  show xi_calls [(24, xi_wS 2 (F_J9_min_7cf53 S)), (30, xi_wS 6 fb), (40, xi_wS 3 (F_X8_mayMove S)), (44, xi_wS 2 (F_J9_max_7cf53 S))] 30 [.ref a0, .ref a1, .int a2, .int a3, .int a4, .int a5] m = _
  refine Eq.trans (b := xi_calls [(30, xi_wS 6 fb), (40, xi_wS 3 (F_X8_mayMove S)), (44, xi_wS 2 (F_J9_max_7cf53 S))] 30 [.ref a0, .ref a1, .int a2, .int a3, .int a4, .int a5] m) (xi_calls_miss rfl) ?_
  refine Eq.trans (b := xi_wS 6 fb [.ref a0, .ref a1, .int a2, .int a3, .int a4, .int a5] m) (xi_calls_hit rfl) ?_
  exact xi_wS_eq rfl
theorem cc_X2_best_40 (S : xi_S) (fb : xi_F) (a0 : Nat) (a1 : Int32) (a2 : Int32) (m : xi_M) : (P_X2_best S fb).2.2.2.2.2.2.1 40 [.ref a0, .int a1, .int a2] m = (E_X8_mayMove S a0 a1 a2 m) := by
  show xi_calls [(24, xi_wS 2 (F_J9_min_7cf53 S)), (30, xi_wS 6 fb), (40, xi_wS 3 (F_X8_mayMove S)), (44, xi_wS 2 (F_J9_max_7cf53 S))] 40 [.ref a0, .int a1, .int a2] m = _
  refine Eq.trans (b := xi_calls [(30, xi_wS 6 fb), (40, xi_wS 3 (F_X8_mayMove S)), (44, xi_wS 2 (F_J9_max_7cf53 S))] 40 [.ref a0, .int a1, .int a2] m) (xi_calls_miss rfl) ?_
  refine Eq.trans (b := xi_calls [(40, xi_wS 3 (F_X8_mayMove S)), (44, xi_wS 2 (F_J9_max_7cf53 S))] 40 [.ref a0, .int a1, .int a2] m) (xi_calls_miss rfl) ?_
  refine Eq.trans (b := xi_wS 3 (F_X8_mayMove S) [.ref a0, .int a1, .int a2] m) (xi_calls_hit rfl) ?_
  exact xi_wS_eq rfl
theorem cc_X2_best_44 (S : xi_S) (fb : xi_F) (a0 : Int32) (a1 : Int32) (m : xi_M) : (P_X2_best S fb).2.2.2.2.2.2.1 44 [.int a0, .int a1] m = (E_J9_max_7cf53 S a0 a1 m) := by
  show xi_calls [(24, xi_wS 2 (F_J9_min_7cf53 S)), (30, xi_wS 6 fb), (40, xi_wS 3 (F_X8_mayMove S)), (44, xi_wS 2 (F_J9_max_7cf53 S))] 44 [.int a0, .int a1] m = _
  refine Eq.trans (b := xi_calls [(30, xi_wS 6 fb), (40, xi_wS 3 (F_X8_mayMove S)), (44, xi_wS 2 (F_J9_max_7cf53 S))] 44 [.int a0, .int a1] m) (xi_calls_miss rfl) ?_
  refine Eq.trans (b := xi_calls [(40, xi_wS 3 (F_X8_mayMove S)), (44, xi_wS 2 (F_J9_max_7cf53 S))] 44 [.int a0, .int a1] m) (xi_calls_miss rfl) ?_
  refine Eq.trans (b := xi_calls [(44, xi_wS 2 (F_J9_max_7cf53 S))] 44 [.int a0, .int a1] m) (xi_calls_miss rfl) ?_
  refine Eq.trans (b := xi_wS 2 (F_J9_max_7cf53 S) [.int a0, .int a1] m) (xi_calls_hit rfl) ?_
  exact xi_wS_eq rfl
theorem cc_X2_best_34 (S : xi_S) (fb : xi_F) (a0 : Nat) (a1 : Int32) (a2 : Int32) (a3 : Int32) (m : xi_M) : (P_X2_best S fb).2.2.2.2.2.2.2.1 34 [.ref a0, .int a1, .int a2, .int a3] m = (if S.1 a0 = 4 then E_X1_goalsAt S a0 a1 a2 a3 m else none) := by
  show xi_calls [(34, xi_wV S 4 3 (F_X1_goalsAt S))] 34 [.ref a0, .int a1, .int a2, .int a3] m = _
  refine Eq.trans (b := xi_wV S 4 3 (F_X1_goalsAt S) [.ref a0, .int a1, .int a2, .int a3] m) (xi_calls_hit rfl) ?_
  exact xi_wV_eq rfl
def G_X2_best_53 (S : xi_S) (fb : xi_F) : Nat → Nat → Nat → Int32 → Int32 → Int32 → Int32 → Int32 → Int32 → xi_M → Option xi_R
  | 0, _, _, _, _, _, _, _, _, _ => none
  | n + 1, v0, v1, v2, v3, v6, v7, v8, v9, m =>
    if ((Int8.ofInt 8).toInt32) < v9 then
      if v6 = 0 then
        some (some (.int v8), m)
      else
        some (some (.int v7), m)
    else
      if v8 ≤ v7 then
        if v6 = 0 then
          some (some (.int v8), m)
        else
          some (some (.int v7), m)
      else
        if ((Int8.ofInt 8).toInt32) ≤ v9 then
          if ((Int8.ofInt 8).toInt32) ≤ v9 then
            if (Int32.ofInt 0) = 0 then
              if S.1 v1 = 0 ∧ ¬ ((Int32.ofInt 0) < 0 ∨ S.2.1 v1 ≤ Int32.toNatClampNeg (Int32.ofInt 0)) then
                if S.1 v1 = 0 ∧ ¬ ((Int32.ofInt 0) < 0 ∨ S.2.1 v1 ≤ Int32.toNatClampNeg (Int32.ofInt 0)) then
                  xi_bI (fb [.ref v0, .ref v1, .int v2, .int (v3 + (Int32.ofInt 1)), .int v7, .int v8] (xi_wI m v1 (Int32.toNatClampNeg (Int32.ofInt 0)) ((m.1 v1 (Int32.toNatClampNeg (Int32.ofInt 0))) + (Int32.ofInt 0)))) fun x6 m5 =>
                  if S.1 v1 = 0 ∧ ¬ ((Int32.ofInt 0) < 0 ∨ S.2.1 v1 ≤ Int32.toNatClampNeg (Int32.ofInt 0)) then
                    if S.1 v1 = 0 ∧ ¬ ((Int32.ofInt 0) < 0 ∨ S.2.1 v1 ≤ Int32.toNatClampNeg (Int32.ofInt 0)) then
                      if v6 = 0 then
                        if v6 = 0 then
                          xi_bI (E_J9_min_7cf53 S v8 x6 (xi_wI m5 v1 (Int32.toNatClampNeg (Int32.ofInt 0)) ((m5.1 v1 (Int32.toNatClampNeg (Int32.ofInt 0))) - (Int32.ofInt 0)))) fun x10 m9 =>
                          G_X2_best_53 S fb n v0 v1 v2 v3 v6 v7 x10 (v9 + Int32.ofInt 1) m9
                        else
                          G_X2_best_53 S fb n v0 v1 v2 v3 v6 v7 v8 (v9 + Int32.ofInt 1) (xi_wI m5 v1 (Int32.toNatClampNeg (Int32.ofInt 0)) ((m5.1 v1 (Int32.toNatClampNeg (Int32.ofInt 0))) - (Int32.ofInt 0)))
                      else
                        xi_bI (E_J9_max_7cf53 S v7 x6 (xi_wI m5 v1 (Int32.toNatClampNeg (Int32.ofInt 0)) ((m5.1 v1 (Int32.toNatClampNeg (Int32.ofInt 0))) - (Int32.ofInt 0)))) fun x13 m12 =>
                        if v6 = 0 then
                          xi_bI (E_J9_min_7cf53 S v8 x6 m12) fun x15 m14 =>
                          G_X2_best_53 S fb n v0 v1 v2 v3 v6 x13 x15 (v9 + Int32.ofInt 1) m14
                        else
                          G_X2_best_53 S fb n v0 v1 v2 v3 v6 x13 v8 (v9 + Int32.ofInt 1) m12
                    else none
                  else none
                else none
              else none
            else
              xi_bI (E_X8_mayMove S v1 (Int32.ofInt 0) (Int32.ofInt 0) m) fun x19 m18 =>
              if x19 = 0 then
                G_X2_best_53 S fb n v0 v1 v2 v3 v6 v7 v8 (v9 + Int32.ofInt 1) m18
              else
                if S.1 v1 = 0 ∧ ¬ ((Int32.ofInt 0) < 0 ∨ S.2.1 v1 ≤ Int32.toNatClampNeg (Int32.ofInt 0)) then
                  if S.1 v1 = 0 ∧ ¬ ((Int32.ofInt 0) < 0 ∨ S.2.1 v1 ≤ Int32.toNatClampNeg (Int32.ofInt 0)) then
                    xi_bI (fb [.ref v0, .ref v1, .int v2, .int (v3 + (Int32.ofInt 1)), .int v7, .int v8] (xi_wI m18 v1 (Int32.toNatClampNeg (Int32.ofInt 0)) ((m18.1 v1 (Int32.toNatClampNeg (Int32.ofInt 0))) + (Int32.ofInt 0)))) fun x23 m22 =>
                    if S.1 v1 = 0 ∧ ¬ ((Int32.ofInt 0) < 0 ∨ S.2.1 v1 ≤ Int32.toNatClampNeg (Int32.ofInt 0)) then
                      if S.1 v1 = 0 ∧ ¬ ((Int32.ofInt 0) < 0 ∨ S.2.1 v1 ≤ Int32.toNatClampNeg (Int32.ofInt 0)) then
                        if v6 = 0 then
                          if v6 = 0 then
                            xi_bI (E_J9_min_7cf53 S v8 x23 (xi_wI m22 v1 (Int32.toNatClampNeg (Int32.ofInt 0)) ((m22.1 v1 (Int32.toNatClampNeg (Int32.ofInt 0))) - (Int32.ofInt 0)))) fun x27 m26 =>
                            G_X2_best_53 S fb n v0 v1 v2 v3 v6 v7 x27 (v9 + Int32.ofInt 1) m26
                          else
                            G_X2_best_53 S fb n v0 v1 v2 v3 v6 v7 v8 (v9 + Int32.ofInt 1) (xi_wI m22 v1 (Int32.toNatClampNeg (Int32.ofInt 0)) ((m22.1 v1 (Int32.toNatClampNeg (Int32.ofInt 0))) - (Int32.ofInt 0)))
                        else
                          xi_bI (E_J9_max_7cf53 S v7 x23 (xi_wI m22 v1 (Int32.toNatClampNeg (Int32.ofInt 0)) ((m22.1 v1 (Int32.toNatClampNeg (Int32.ofInt 0))) - (Int32.ofInt 0)))) fun x30 m29 =>
                          if v6 = 0 then
                            xi_bI (E_J9_min_7cf53 S v8 x23 m29) fun x32 m31 =>
                            G_X2_best_53 S fb n v0 v1 v2 v3 v6 x30 x32 (v9 + Int32.ofInt 1) m31
                          else
                            G_X2_best_53 S fb n v0 v1 v2 v3 v6 x30 v8 (v9 + Int32.ofInt 1) m29
                      else none
                    else none
                  else none
                else none
          else
            if (Int32.ofInt 2) = 0 then none else
            if (((v9 - v9 / (Int32.ofInt 2) * (Int32.ofInt 2)) * (Int32.ofInt 2)) - (Int32.ofInt 1)) = 0 then
              if S.1 v1 = 0 ∧ ¬ ((Int32.ofInt 0) < 0 ∨ S.2.1 v1 ≤ Int32.toNatClampNeg (Int32.ofInt 0)) then
                if S.1 v1 = 0 ∧ ¬ ((Int32.ofInt 0) < 0 ∨ S.2.1 v1 ≤ Int32.toNatClampNeg (Int32.ofInt 0)) then
                  xi_bI (fb [.ref v0, .ref v1, .int v2, .int (v3 + (Int32.ofInt 1)), .int v7, .int v8] (xi_wI m v1 (Int32.toNatClampNeg (Int32.ofInt 0)) ((m.1 v1 (Int32.toNatClampNeg (Int32.ofInt 0))) + (((v9 - v9 / (Int32.ofInt 2) * (Int32.ofInt 2)) * (Int32.ofInt 2)) - (Int32.ofInt 1))))) fun x41 m40 =>
                  if S.1 v1 = 0 ∧ ¬ ((Int32.ofInt 0) < 0 ∨ S.2.1 v1 ≤ Int32.toNatClampNeg (Int32.ofInt 0)) then
                    if S.1 v1 = 0 ∧ ¬ ((Int32.ofInt 0) < 0 ∨ S.2.1 v1 ≤ Int32.toNatClampNeg (Int32.ofInt 0)) then
                      if v6 = 0 then
                        if v6 = 0 then
                          xi_bI (E_J9_min_7cf53 S v8 x41 (xi_wI m40 v1 (Int32.toNatClampNeg (Int32.ofInt 0)) ((m40.1 v1 (Int32.toNatClampNeg (Int32.ofInt 0))) - (((v9 - v9 / (Int32.ofInt 2) * (Int32.ofInt 2)) * (Int32.ofInt 2)) - (Int32.ofInt 1))))) fun x45 m44 =>
                          G_X2_best_53 S fb n v0 v1 v2 v3 v6 v7 x45 (v9 + Int32.ofInt 1) m44
                        else
                          G_X2_best_53 S fb n v0 v1 v2 v3 v6 v7 v8 (v9 + Int32.ofInt 1) (xi_wI m40 v1 (Int32.toNatClampNeg (Int32.ofInt 0)) ((m40.1 v1 (Int32.toNatClampNeg (Int32.ofInt 0))) - (((v9 - v9 / (Int32.ofInt 2) * (Int32.ofInt 2)) * (Int32.ofInt 2)) - (Int32.ofInt 1))))
                      else
                        xi_bI (E_J9_max_7cf53 S v7 x41 (xi_wI m40 v1 (Int32.toNatClampNeg (Int32.ofInt 0)) ((m40.1 v1 (Int32.toNatClampNeg (Int32.ofInt 0))) - (((v9 - v9 / (Int32.ofInt 2) * (Int32.ofInt 2)) * (Int32.ofInt 2)) - (Int32.ofInt 1))))) fun x48 m47 =>
                        if v6 = 0 then
                          xi_bI (E_J9_min_7cf53 S v8 x41 m47) fun x50 m49 =>
                          G_X2_best_53 S fb n v0 v1 v2 v3 v6 x48 x50 (v9 + Int32.ofInt 1) m49
                        else
                          G_X2_best_53 S fb n v0 v1 v2 v3 v6 x48 v8 (v9 + Int32.ofInt 1) m47
                    else none
                  else none
                else none
              else none
            else
              xi_bI (E_X8_mayMove S v1 (Int32.ofInt 0) (((v9 - v9 / (Int32.ofInt 2) * (Int32.ofInt 2)) * (Int32.ofInt 2)) - (Int32.ofInt 1)) m) fun x54 m53 =>
              if x54 = 0 then
                G_X2_best_53 S fb n v0 v1 v2 v3 v6 v7 v8 (v9 + Int32.ofInt 1) m53
              else
                if S.1 v1 = 0 ∧ ¬ ((Int32.ofInt 0) < 0 ∨ S.2.1 v1 ≤ Int32.toNatClampNeg (Int32.ofInt 0)) then
                  if S.1 v1 = 0 ∧ ¬ ((Int32.ofInt 0) < 0 ∨ S.2.1 v1 ≤ Int32.toNatClampNeg (Int32.ofInt 0)) then
                    xi_bI (fb [.ref v0, .ref v1, .int v2, .int (v3 + (Int32.ofInt 1)), .int v7, .int v8] (xi_wI m53 v1 (Int32.toNatClampNeg (Int32.ofInt 0)) ((m53.1 v1 (Int32.toNatClampNeg (Int32.ofInt 0))) + (((v9 - v9 / (Int32.ofInt 2) * (Int32.ofInt 2)) * (Int32.ofInt 2)) - (Int32.ofInt 1))))) fun x58 m57 =>
                    if S.1 v1 = 0 ∧ ¬ ((Int32.ofInt 0) < 0 ∨ S.2.1 v1 ≤ Int32.toNatClampNeg (Int32.ofInt 0)) then
                      if S.1 v1 = 0 ∧ ¬ ((Int32.ofInt 0) < 0 ∨ S.2.1 v1 ≤ Int32.toNatClampNeg (Int32.ofInt 0)) then
                        if v6 = 0 then
                          if v6 = 0 then
                            xi_bI (E_J9_min_7cf53 S v8 x58 (xi_wI m57 v1 (Int32.toNatClampNeg (Int32.ofInt 0)) ((m57.1 v1 (Int32.toNatClampNeg (Int32.ofInt 0))) - (((v9 - v9 / (Int32.ofInt 2) * (Int32.ofInt 2)) * (Int32.ofInt 2)) - (Int32.ofInt 1))))) fun x62 m61 =>
                            G_X2_best_53 S fb n v0 v1 v2 v3 v6 v7 x62 (v9 + Int32.ofInt 1) m61
                          else
                            G_X2_best_53 S fb n v0 v1 v2 v3 v6 v7 v8 (v9 + Int32.ofInt 1) (xi_wI m57 v1 (Int32.toNatClampNeg (Int32.ofInt 0)) ((m57.1 v1 (Int32.toNatClampNeg (Int32.ofInt 0))) - (((v9 - v9 / (Int32.ofInt 2) * (Int32.ofInt 2)) * (Int32.ofInt 2)) - (Int32.ofInt 1))))
                        else
                          xi_bI (E_J9_max_7cf53 S v7 x58 (xi_wI m57 v1 (Int32.toNatClampNeg (Int32.ofInt 0)) ((m57.1 v1 (Int32.toNatClampNeg (Int32.ofInt 0))) - (((v9 - v9 / (Int32.ofInt 2) * (Int32.ofInt 2)) * (Int32.ofInt 2)) - (Int32.ofInt 1))))) fun x65 m64 =>
                          if v6 = 0 then
                            xi_bI (E_J9_min_7cf53 S v8 x58 m64) fun x67 m66 =>
                            G_X2_best_53 S fb n v0 v1 v2 v3 v6 x65 x67 (v9 + Int32.ofInt 1) m66
                          else
                            G_X2_best_53 S fb n v0 v1 v2 v3 v6 x65 v8 (v9 + Int32.ofInt 1) m64
                      else none
                    else none
                  else none
                else none
        else
          if (Int32.ofInt 2) = 0 then none else
          if ((Int8.ofInt 8).toInt32) ≤ v9 then
            if (Int32.ofInt 0) = 0 then
              if S.1 v1 = 0 ∧ ¬ ((v9 / (Int32.ofInt 2)) < 0 ∨ S.2.1 v1 ≤ Int32.toNatClampNeg (v9 / (Int32.ofInt 2))) then
                if S.1 v1 = 0 ∧ ¬ ((v9 / (Int32.ofInt 2)) < 0 ∨ S.2.1 v1 ≤ Int32.toNatClampNeg (v9 / (Int32.ofInt 2))) then
                  xi_bI (fb [.ref v0, .ref v1, .int v2, .int (v3 + (Int32.ofInt 1)), .int v7, .int v8] (xi_wI m v1 (Int32.toNatClampNeg (v9 / (Int32.ofInt 2))) ((m.1 v1 (Int32.toNatClampNeg (v9 / (Int32.ofInt 2)))) + (Int32.ofInt 0)))) fun x77 m76 =>
                  if S.1 v1 = 0 ∧ ¬ ((v9 / (Int32.ofInt 2)) < 0 ∨ S.2.1 v1 ≤ Int32.toNatClampNeg (v9 / (Int32.ofInt 2))) then
                    if S.1 v1 = 0 ∧ ¬ ((v9 / (Int32.ofInt 2)) < 0 ∨ S.2.1 v1 ≤ Int32.toNatClampNeg (v9 / (Int32.ofInt 2))) then
                      if v6 = 0 then
                        if v6 = 0 then
                          xi_bI (E_J9_min_7cf53 S v8 x77 (xi_wI m76 v1 (Int32.toNatClampNeg (v9 / (Int32.ofInt 2))) ((m76.1 v1 (Int32.toNatClampNeg (v9 / (Int32.ofInt 2)))) - (Int32.ofInt 0)))) fun x81 m80 =>
                          G_X2_best_53 S fb n v0 v1 v2 v3 v6 v7 x81 (v9 + Int32.ofInt 1) m80
                        else
                          G_X2_best_53 S fb n v0 v1 v2 v3 v6 v7 v8 (v9 + Int32.ofInt 1) (xi_wI m76 v1 (Int32.toNatClampNeg (v9 / (Int32.ofInt 2))) ((m76.1 v1 (Int32.toNatClampNeg (v9 / (Int32.ofInt 2)))) - (Int32.ofInt 0)))
                      else
                        xi_bI (E_J9_max_7cf53 S v7 x77 (xi_wI m76 v1 (Int32.toNatClampNeg (v9 / (Int32.ofInt 2))) ((m76.1 v1 (Int32.toNatClampNeg (v9 / (Int32.ofInt 2)))) - (Int32.ofInt 0)))) fun x84 m83 =>
                        if v6 = 0 then
                          xi_bI (E_J9_min_7cf53 S v8 x77 m83) fun x86 m85 =>
                          G_X2_best_53 S fb n v0 v1 v2 v3 v6 x84 x86 (v9 + Int32.ofInt 1) m85
                        else
                          G_X2_best_53 S fb n v0 v1 v2 v3 v6 x84 v8 (v9 + Int32.ofInt 1) m83
                    else none
                  else none
                else none
              else none
            else
              xi_bI (E_X8_mayMove S v1 (v9 / (Int32.ofInt 2)) (Int32.ofInt 0) m) fun x90 m89 =>
              if x90 = 0 then
                G_X2_best_53 S fb n v0 v1 v2 v3 v6 v7 v8 (v9 + Int32.ofInt 1) m89
              else
                if S.1 v1 = 0 ∧ ¬ ((v9 / (Int32.ofInt 2)) < 0 ∨ S.2.1 v1 ≤ Int32.toNatClampNeg (v9 / (Int32.ofInt 2))) then
                  if S.1 v1 = 0 ∧ ¬ ((v9 / (Int32.ofInt 2)) < 0 ∨ S.2.1 v1 ≤ Int32.toNatClampNeg (v9 / (Int32.ofInt 2))) then
                    xi_bI (fb [.ref v0, .ref v1, .int v2, .int (v3 + (Int32.ofInt 1)), .int v7, .int v8] (xi_wI m89 v1 (Int32.toNatClampNeg (v9 / (Int32.ofInt 2))) ((m89.1 v1 (Int32.toNatClampNeg (v9 / (Int32.ofInt 2)))) + (Int32.ofInt 0)))) fun x94 m93 =>
                    if S.1 v1 = 0 ∧ ¬ ((v9 / (Int32.ofInt 2)) < 0 ∨ S.2.1 v1 ≤ Int32.toNatClampNeg (v9 / (Int32.ofInt 2))) then
                      if S.1 v1 = 0 ∧ ¬ ((v9 / (Int32.ofInt 2)) < 0 ∨ S.2.1 v1 ≤ Int32.toNatClampNeg (v9 / (Int32.ofInt 2))) then
                        if v6 = 0 then
                          if v6 = 0 then
                            xi_bI (E_J9_min_7cf53 S v8 x94 (xi_wI m93 v1 (Int32.toNatClampNeg (v9 / (Int32.ofInt 2))) ((m93.1 v1 (Int32.toNatClampNeg (v9 / (Int32.ofInt 2)))) - (Int32.ofInt 0)))) fun x98 m97 =>
                            G_X2_best_53 S fb n v0 v1 v2 v3 v6 v7 x98 (v9 + Int32.ofInt 1) m97
                          else
                            G_X2_best_53 S fb n v0 v1 v2 v3 v6 v7 v8 (v9 + Int32.ofInt 1) (xi_wI m93 v1 (Int32.toNatClampNeg (v9 / (Int32.ofInt 2))) ((m93.1 v1 (Int32.toNatClampNeg (v9 / (Int32.ofInt 2)))) - (Int32.ofInt 0)))
                        else
                          xi_bI (E_J9_max_7cf53 S v7 x94 (xi_wI m93 v1 (Int32.toNatClampNeg (v9 / (Int32.ofInt 2))) ((m93.1 v1 (Int32.toNatClampNeg (v9 / (Int32.ofInt 2)))) - (Int32.ofInt 0)))) fun x101 m100 =>
                          if v6 = 0 then
                            xi_bI (E_J9_min_7cf53 S v8 x94 m100) fun x103 m102 =>
                            G_X2_best_53 S fb n v0 v1 v2 v3 v6 x101 x103 (v9 + Int32.ofInt 1) m102
                          else
                            G_X2_best_53 S fb n v0 v1 v2 v3 v6 x101 v8 (v9 + Int32.ofInt 1) m100
                      else none
                    else none
                  else none
                else none
          else
            if (Int32.ofInt 2) = 0 then none else
            if (((v9 - v9 / (Int32.ofInt 2) * (Int32.ofInt 2)) * (Int32.ofInt 2)) - (Int32.ofInt 1)) = 0 then
              if S.1 v1 = 0 ∧ ¬ ((v9 / (Int32.ofInt 2)) < 0 ∨ S.2.1 v1 ≤ Int32.toNatClampNeg (v9 / (Int32.ofInt 2))) then
                if S.1 v1 = 0 ∧ ¬ ((v9 / (Int32.ofInt 2)) < 0 ∨ S.2.1 v1 ≤ Int32.toNatClampNeg (v9 / (Int32.ofInt 2))) then
                  xi_bI (fb [.ref v0, .ref v1, .int v2, .int (v3 + (Int32.ofInt 1)), .int v7, .int v8] (xi_wI m v1 (Int32.toNatClampNeg (v9 / (Int32.ofInt 2))) ((m.1 v1 (Int32.toNatClampNeg (v9 / (Int32.ofInt 2)))) + (((v9 - v9 / (Int32.ofInt 2) * (Int32.ofInt 2)) * (Int32.ofInt 2)) - (Int32.ofInt 1))))) fun x112 m111 =>
                  if S.1 v1 = 0 ∧ ¬ ((v9 / (Int32.ofInt 2)) < 0 ∨ S.2.1 v1 ≤ Int32.toNatClampNeg (v9 / (Int32.ofInt 2))) then
                    if S.1 v1 = 0 ∧ ¬ ((v9 / (Int32.ofInt 2)) < 0 ∨ S.2.1 v1 ≤ Int32.toNatClampNeg (v9 / (Int32.ofInt 2))) then
                      if v6 = 0 then
                        if v6 = 0 then
                          xi_bI (E_J9_min_7cf53 S v8 x112 (xi_wI m111 v1 (Int32.toNatClampNeg (v9 / (Int32.ofInt 2))) ((m111.1 v1 (Int32.toNatClampNeg (v9 / (Int32.ofInt 2)))) - (((v9 - v9 / (Int32.ofInt 2) * (Int32.ofInt 2)) * (Int32.ofInt 2)) - (Int32.ofInt 1))))) fun x116 m115 =>
                          G_X2_best_53 S fb n v0 v1 v2 v3 v6 v7 x116 (v9 + Int32.ofInt 1) m115
                        else
                          G_X2_best_53 S fb n v0 v1 v2 v3 v6 v7 v8 (v9 + Int32.ofInt 1) (xi_wI m111 v1 (Int32.toNatClampNeg (v9 / (Int32.ofInt 2))) ((m111.1 v1 (Int32.toNatClampNeg (v9 / (Int32.ofInt 2)))) - (((v9 - v9 / (Int32.ofInt 2) * (Int32.ofInt 2)) * (Int32.ofInt 2)) - (Int32.ofInt 1))))
                      else
                        xi_bI (E_J9_max_7cf53 S v7 x112 (xi_wI m111 v1 (Int32.toNatClampNeg (v9 / (Int32.ofInt 2))) ((m111.1 v1 (Int32.toNatClampNeg (v9 / (Int32.ofInt 2)))) - (((v9 - v9 / (Int32.ofInt 2) * (Int32.ofInt 2)) * (Int32.ofInt 2)) - (Int32.ofInt 1))))) fun x119 m118 =>
                        if v6 = 0 then
                          xi_bI (E_J9_min_7cf53 S v8 x112 m118) fun x121 m120 =>
                          G_X2_best_53 S fb n v0 v1 v2 v3 v6 x119 x121 (v9 + Int32.ofInt 1) m120
                        else
                          G_X2_best_53 S fb n v0 v1 v2 v3 v6 x119 v8 (v9 + Int32.ofInt 1) m118
                    else none
                  else none
                else none
              else none
            else
              xi_bI (E_X8_mayMove S v1 (v9 / (Int32.ofInt 2)) (((v9 - v9 / (Int32.ofInt 2) * (Int32.ofInt 2)) * (Int32.ofInt 2)) - (Int32.ofInt 1)) m) fun x125 m124 =>
              if x125 = 0 then
                G_X2_best_53 S fb n v0 v1 v2 v3 v6 v7 v8 (v9 + Int32.ofInt 1) m124
              else
                if S.1 v1 = 0 ∧ ¬ ((v9 / (Int32.ofInt 2)) < 0 ∨ S.2.1 v1 ≤ Int32.toNatClampNeg (v9 / (Int32.ofInt 2))) then
                  if S.1 v1 = 0 ∧ ¬ ((v9 / (Int32.ofInt 2)) < 0 ∨ S.2.1 v1 ≤ Int32.toNatClampNeg (v9 / (Int32.ofInt 2))) then
                    xi_bI (fb [.ref v0, .ref v1, .int v2, .int (v3 + (Int32.ofInt 1)), .int v7, .int v8] (xi_wI m124 v1 (Int32.toNatClampNeg (v9 / (Int32.ofInt 2))) ((m124.1 v1 (Int32.toNatClampNeg (v9 / (Int32.ofInt 2)))) + (((v9 - v9 / (Int32.ofInt 2) * (Int32.ofInt 2)) * (Int32.ofInt 2)) - (Int32.ofInt 1))))) fun x129 m128 =>
                    if S.1 v1 = 0 ∧ ¬ ((v9 / (Int32.ofInt 2)) < 0 ∨ S.2.1 v1 ≤ Int32.toNatClampNeg (v9 / (Int32.ofInt 2))) then
                      if S.1 v1 = 0 ∧ ¬ ((v9 / (Int32.ofInt 2)) < 0 ∨ S.2.1 v1 ≤ Int32.toNatClampNeg (v9 / (Int32.ofInt 2))) then
                        if v6 = 0 then
                          if v6 = 0 then
                            xi_bI (E_J9_min_7cf53 S v8 x129 (xi_wI m128 v1 (Int32.toNatClampNeg (v9 / (Int32.ofInt 2))) ((m128.1 v1 (Int32.toNatClampNeg (v9 / (Int32.ofInt 2)))) - (((v9 - v9 / (Int32.ofInt 2) * (Int32.ofInt 2)) * (Int32.ofInt 2)) - (Int32.ofInt 1))))) fun x133 m132 =>
                            G_X2_best_53 S fb n v0 v1 v2 v3 v6 v7 x133 (v9 + Int32.ofInt 1) m132
                          else
                            G_X2_best_53 S fb n v0 v1 v2 v3 v6 v7 v8 (v9 + Int32.ofInt 1) (xi_wI m128 v1 (Int32.toNatClampNeg (v9 / (Int32.ofInt 2))) ((m128.1 v1 (Int32.toNatClampNeg (v9 / (Int32.ofInt 2)))) - (((v9 - v9 / (Int32.ofInt 2) * (Int32.ofInt 2)) * (Int32.ofInt 2)) - (Int32.ofInt 1))))
                        else
                          xi_bI (E_J9_max_7cf53 S v7 x129 (xi_wI m128 v1 (Int32.toNatClampNeg (v9 / (Int32.ofInt 2))) ((m128.1 v1 (Int32.toNatClampNeg (v9 / (Int32.ofInt 2)))) - (((v9 - v9 / (Int32.ofInt 2) * (Int32.ofInt 2)) * (Int32.ofInt 2)) - (Int32.ofInt 1))))) fun x136 m135 =>
                          if v6 = 0 then
                            xi_bI (E_J9_min_7cf53 S v8 x129 m135) fun x138 m137 =>
                            G_X2_best_53 S fb n v0 v1 v2 v3 v6 x136 x138 (v9 + Int32.ofInt 1) m137
                          else
                            G_X2_best_53 S fb n v0 v1 v2 v3 v6 x136 v8 (v9 + Int32.ofInt 1) m135
                      else none
                    else none
                  else none
                else none
set_option maxRecDepth 100000 in
set_option maxHeartbeats 4000000 in
theorem xs_X2_best_53 {S : xi_S} {fb : xi_F} {res : xi_R} : ∀ (n : Nat) (v0 : Nat) (v1 : Nat) (v2 : Int32) (v3 : Int32) (v6 : Int32) (v7 : Int32) (v8 : Int32) (v9 : Int32) (m : xi_M), G_X2_best_53 S fb n v0 v1 v2 v3 v6 v7 v8 v9 m = some res → xi_X S (P_X2_best S fb) (53, [some (.ref v0), some (.ref v1), some (.int v2), some (.int v3), none, none, some (.int v6), some (.int v7), some (.int v8), some (.int v9), none, none, none], [], m) res := by
  intro n
  induction n with
  | zero => intro v0 v1 v2 v3 v6 v7 v8 v9 m h; exact xi_no h
  | succ n ih =>
    intro v0 v1 v2 v3 v6 v7 v8 v9 m h
    unfold G_X2_best_53 at h
    refine xr_iload i_X2_best_53 rfl (q := 55) rfl ?_
    refine xr_bipush i_X2_best_55 (q := 57) rfl ?_
    by_cases c146 : ((Int8.ofInt 8).toInt32) < v9
    · replace h := (if_pos c146).symm.trans h
      refine xr_if_icmp_gt_p i_X2_best_57 c146 (q := 198) t_X2_best_57 (q2 := 60) rfl ?_
      refine xr_iload i_X2_best_198 rfl (q := 200) rfl ?_
      by_cases c1 : v6 = 0
      · replace h := (if_pos c1).symm.trans h
        refine xr_ifCond_eq_p i_X2_best_200 c1 (q := 208) t_X2_best_200 (q2 := 203) rfl ?_
        refine xr_iload i_X2_best_208 rfl (q := 210) rfl ?_
        exact xr_ireturn i_X2_best_210 rfl h
      · replace h := (if_neg c1).symm.trans h
        refine xr_ifCond_eq_n i_X2_best_200 c1 (q := 208) t_X2_best_200 (q2 := 203) rfl ?_
        refine xr_iload i_X2_best_203 rfl (q := 205) rfl ?_
        refine xr_goto i_X2_best_205 (q := 210) t_X2_best_205 ?_
        exact xr_ireturn i_X2_best_210 rfl h
    · replace h := (if_neg c146).symm.trans h
      refine xr_if_icmp_gt_n i_X2_best_57 c146 (q := 198) t_X2_best_57 (q2 := 60) rfl ?_
      refine xr_iload i_X2_best_60 rfl (q := 62) rfl ?_
      refine xr_iload i_X2_best_62 rfl (q := 64) rfl ?_
      by_cases c145 : v8 ≤ v7
      · replace h := (if_pos c145).symm.trans h
        refine xr_if_icmp_ge_p i_X2_best_64 c145 (q := 198) t_X2_best_64 (q2 := 67) rfl ?_
        refine xr_iload i_X2_best_198 rfl (q := 200) rfl ?_
        by_cases c2 : v6 = 0
        · replace h := (if_pos c2).symm.trans h
          refine xr_ifCond_eq_p i_X2_best_200 c2 (q := 208) t_X2_best_200 (q2 := 203) rfl ?_
          refine xr_iload i_X2_best_208 rfl (q := 210) rfl ?_
          exact xr_ireturn i_X2_best_210 rfl h
        · replace h := (if_neg c2).symm.trans h
          refine xr_ifCond_eq_n i_X2_best_200 c2 (q := 208) t_X2_best_200 (q2 := 203) rfl ?_
          refine xr_iload i_X2_best_203 rfl (q := 205) rfl ?_
          refine xr_goto i_X2_best_205 (q := 210) t_X2_best_205 ?_
          exact xr_ireturn i_X2_best_210 rfl h
      · replace h := (if_neg c145).symm.trans h
        refine xr_if_icmp_ge_n i_X2_best_64 c145 (q := 198) t_X2_best_64 (q2 := 67) rfl ?_
        refine xr_iload i_X2_best_67 rfl (q := 69) rfl ?_
        refine xr_bipush i_X2_best_69 (q := 71) rfl ?_
        by_cases c144 : ((Int8.ofInt 8).toInt32) ≤ v9
        · replace h := (if_pos c144).symm.trans h
          refine xr_if_icmp_ge_p i_X2_best_71 c144 (q := 81) t_X2_best_71 (q2 := 74) rfl ?_
          refine xr_iconst i_X2_best_81 (q := 82) rfl ?_
          refine xr_istore i_X2_best_82 rfl (L2 := [some (.ref v0), some (.ref v1), some (.int v2), some (.int v3), none, none, some (.int v6), some (.int v7), some (.int v8), some (.int v9), some (.int (Int32.ofInt 0)), none, none]) rfl (q := 84) rfl ?_
          refine xr_iload i_X2_best_84 rfl (q := 86) rfl ?_
          refine xr_bipush i_X2_best_86 (q := 88) rfl ?_
          by_cases c72 : ((Int8.ofInt 8).toInt32) ≤ v9
          · replace h := (if_pos c72).symm.trans h
            refine xr_if_icmp_ge_p i_X2_best_88 c72 (q := 102) t_X2_best_88 (q2 := 91) rfl ?_
            refine xr_iconst i_X2_best_102 (q := 103) rfl ?_
            refine xr_istore i_X2_best_103 rfl (L2 := [some (.ref v0), some (.ref v1), some (.int v2), some (.int v3), none, none, some (.int v6), some (.int v7), some (.int v8), some (.int v9), some (.int (Int32.ofInt 0)), some (.int (Int32.ofInt 0)), none]) rfl (q := 105) rfl ?_
            refine xr_iload i_X2_best_105 rfl (q := 107) rfl ?_
            by_cases c36 : (Int32.ofInt 0) = 0
            · replace h := (if_pos c36).symm.trans h
              refine xr_ifCond_eq_p i_X2_best_107 c36 (q := 121) t_X2_best_107 (q2 := 110) rfl ?_
              refine xr_aload_n i_X2_best_121 rfl (q := 122) rfl ?_
              refine xr_iload i_X2_best_122 rfl (q := 124) rfl ?_
              refine xr_dup2 i_X2_best_124 (q := 125) rfl ?_
              obtain ⟨c3, h⟩ := xi_if_some h
              refine xr_iaload i_X2_best_125 c3 (q := 126) rfl ?_
              refine xr_iload i_X2_best_126 rfl (q := 128) rfl ?_
              refine xr_iadd i_X2_best_128 (q := 129) rfl ?_
              obtain ⟨c4, h⟩ := xi_if_some h
              refine xr_iastore i_X2_best_129 c4 (q := 130) rfl ?_
              refine xr_aload_n i_X2_best_130 rfl (q := 131) rfl ?_
              refine xr_aload_n i_X2_best_131 rfl (q := 132) rfl ?_
              refine xr_iload_n i_X2_best_132 rfl (q := 133) rfl ?_
              refine xr_iload_n i_X2_best_133 rfl (q := 134) rfl ?_
              refine xr_iconst i_X2_best_134 (q := 135) rfl ?_
              refine xr_iadd i_X2_best_135 (q := 136) rfl ?_
              refine xr_iload i_X2_best_136 rfl (q := 138) rfl ?_
              refine xr_iload i_X2_best_138 rfl (q := 140) rfl ?_
              obtain ⟨x6, m5, em5, h⟩ := xi_bI_some h
              refine xr_SI i_X2_best_140 xcse_X2_30 rfl (As := [.ref v0, .ref v1, .int v2, .int (v3 + (Int32.ofInt 1)), .int v7, .int v8]) rfl (rest := []) rfl ((cc_X2_best_30 S fb _ _ _ _ _ _ _).trans em5) (q := 143) rfl ?_
              refine xr_istore i_X2_best_143 rfl (L2 := [some (.ref v0), some (.ref v1), some (.int v2), some (.int v3), none, none, some (.int v6), some (.int v7), some (.int v8), some (.int v9), some (.int (Int32.ofInt 0)), some (.int (Int32.ofInt 0)), some (.int x6)]) rfl (q := 145) rfl ?_
              refine xr_aload_n i_X2_best_145 rfl (q := 146) rfl ?_
              refine xr_iload i_X2_best_146 rfl (q := 148) rfl ?_
              refine xr_dup2 i_X2_best_148 (q := 149) rfl ?_
              obtain ⟨c7, h⟩ := xi_if_some h
              refine xr_iaload i_X2_best_149 c7 (q := 150) rfl ?_
              refine xr_iload i_X2_best_150 rfl (q := 152) rfl ?_
              refine xr_isub i_X2_best_152 (q := 153) rfl ?_
              obtain ⟨c8, h⟩ := xi_if_some h
              refine xr_iastore i_X2_best_153 c8 (q := 154) rfl ?_
              refine xr_iload i_X2_best_154 rfl (q := 156) rfl ?_
              by_cases c17 : v6 = 0
              · replace h := (if_pos c17).symm.trans h
                refine xr_ifCond_eq_p i_X2_best_156 c17 (q := 169) t_X2_best_156 (q2 := 159) rfl ?_
                refine xr_iload i_X2_best_169 rfl (q := 171) rfl ?_
                refine xr_istore i_X2_best_171 rfl (L2 := [some (.ref v0), some (.ref v1), some (.int v2), some (.int v3), none, none, some (.int v6), some (.int v7), some (.int v8), some (.int v9), some (.int (Int32.ofInt 0)), some (.int (Int32.ofInt 0)), some (.int x6)]) rfl (q := 173) rfl ?_
                refine xr_iload i_X2_best_173 rfl (q := 175) rfl ?_
                by_cases c11 : v6 = 0
                · replace h := (if_pos c11).symm.trans h
                  refine xr_ifCond_eq_p i_X2_best_175 c11 (q := 183) t_X2_best_175 (q2 := 178) rfl ?_
                  refine xr_iload i_X2_best_183 rfl (q := 185) rfl ?_
                  refine xr_iload i_X2_best_185 rfl (q := 187) rfl ?_
                  obtain ⟨x10, m9, em9, h⟩ := xi_bI_some h
                  refine xr_SI i_X2_best_187 xcse_X2_24 rfl (As := [.int v8, .int x6]) rfl (rest := []) rfl ((cc_X2_best_24 S fb _ _ _).trans em9) (q := 190) rfl ?_
                  refine xr_istore i_X2_best_190 rfl (L2 := [some (.ref v0), some (.ref v1), some (.int v2), some (.int v3), none, none, some (.int v6), some (.int v7), some (.int x10), some (.int v9), some (.int (Int32.ofInt 0)), some (.int (Int32.ofInt 0)), some (.int x6)]) rfl (q := 192) rfl ?_
                  refine xr_iinc i_X2_best_192 rfl rfl (L2 := [some (.ref v0), some (.ref v1), some (.int v2), some (.int v3), none, none, some (.int v6), some (.int v7), some (.int x10), some (.int (v9 + Int32.ofInt 1)), some (.int (Int32.ofInt 0)), some (.int (Int32.ofInt 0)), some (.int x6)]) rfl (q := 195) rfl ?_
                  refine xr_goto i_X2_best_195 (q := 53) t_X2_best_195 ?_
                  exact xi_X_le (xi_le_s (xi_le_s (xi_le_s (xi_le_s (xi_le_n (xi_le_n (xi_le_s (xi_le_s (xi_le_s (xi_le_s (xi_le_n (xi_le_n (xi_le_n xi_le_z))))))))))))) (ih _ _ _ _ _ _ _ _ _ h)
                · replace h := (if_neg c11).symm.trans h
                  refine xr_ifCond_eq_n i_X2_best_175 c11 (q := 183) t_X2_best_175 (q2 := 178) rfl ?_
                  refine xr_iload i_X2_best_178 rfl (q := 180) rfl ?_
                  refine xr_goto i_X2_best_180 (q := 190) t_X2_best_180 ?_
                  refine xr_istore i_X2_best_190 rfl (L2 := [some (.ref v0), some (.ref v1), some (.int v2), some (.int v3), none, none, some (.int v6), some (.int v7), some (.int v8), some (.int v9), some (.int (Int32.ofInt 0)), some (.int (Int32.ofInt 0)), some (.int x6)]) rfl (q := 192) rfl ?_
                  refine xr_iinc i_X2_best_192 rfl rfl (L2 := [some (.ref v0), some (.ref v1), some (.int v2), some (.int v3), none, none, some (.int v6), some (.int v7), some (.int v8), some (.int (v9 + Int32.ofInt 1)), some (.int (Int32.ofInt 0)), some (.int (Int32.ofInt 0)), some (.int x6)]) rfl (q := 195) rfl ?_
                  refine xr_goto i_X2_best_195 (q := 53) t_X2_best_195 ?_
                  exact xi_X_le (xi_le_s (xi_le_s (xi_le_s (xi_le_s (xi_le_n (xi_le_n (xi_le_s (xi_le_s (xi_le_s (xi_le_s (xi_le_n (xi_le_n (xi_le_n xi_le_z))))))))))))) (ih _ _ _ _ _ _ _ _ _ h)
              · replace h := (if_neg c17).symm.trans h
                refine xr_ifCond_eq_n i_X2_best_156 c17 (q := 169) t_X2_best_156 (q2 := 159) rfl ?_
                refine xr_iload i_X2_best_159 rfl (q := 161) rfl ?_
                refine xr_iload i_X2_best_161 rfl (q := 163) rfl ?_
                obtain ⟨x13, m12, em12, h⟩ := xi_bI_some h
                refine xr_SI i_X2_best_163 xcse_X2_44 rfl (As := [.int v7, .int x6]) rfl (rest := []) rfl ((cc_X2_best_44 S fb _ _ _).trans em12) (q := 166) rfl ?_
                refine xr_goto i_X2_best_166 (q := 171) t_X2_best_166 ?_
                refine xr_istore i_X2_best_171 rfl (L2 := [some (.ref v0), some (.ref v1), some (.int v2), some (.int v3), none, none, some (.int v6), some (.int x13), some (.int v8), some (.int v9), some (.int (Int32.ofInt 0)), some (.int (Int32.ofInt 0)), some (.int x6)]) rfl (q := 173) rfl ?_
                refine xr_iload i_X2_best_173 rfl (q := 175) rfl ?_
                by_cases c16 : v6 = 0
                · replace h := (if_pos c16).symm.trans h
                  refine xr_ifCond_eq_p i_X2_best_175 c16 (q := 183) t_X2_best_175 (q2 := 178) rfl ?_
                  refine xr_iload i_X2_best_183 rfl (q := 185) rfl ?_
                  refine xr_iload i_X2_best_185 rfl (q := 187) rfl ?_
                  obtain ⟨x15, m14, em14, h⟩ := xi_bI_some h
                  refine xr_SI i_X2_best_187 xcse_X2_24 rfl (As := [.int v8, .int x6]) rfl (rest := []) rfl ((cc_X2_best_24 S fb _ _ _).trans em14) (q := 190) rfl ?_
                  refine xr_istore i_X2_best_190 rfl (L2 := [some (.ref v0), some (.ref v1), some (.int v2), some (.int v3), none, none, some (.int v6), some (.int x13), some (.int x15), some (.int v9), some (.int (Int32.ofInt 0)), some (.int (Int32.ofInt 0)), some (.int x6)]) rfl (q := 192) rfl ?_
                  refine xr_iinc i_X2_best_192 rfl rfl (L2 := [some (.ref v0), some (.ref v1), some (.int v2), some (.int v3), none, none, some (.int v6), some (.int x13), some (.int x15), some (.int (v9 + Int32.ofInt 1)), some (.int (Int32.ofInt 0)), some (.int (Int32.ofInt 0)), some (.int x6)]) rfl (q := 195) rfl ?_
                  refine xr_goto i_X2_best_195 (q := 53) t_X2_best_195 ?_
                  exact xi_X_le (xi_le_s (xi_le_s (xi_le_s (xi_le_s (xi_le_n (xi_le_n (xi_le_s (xi_le_s (xi_le_s (xi_le_s (xi_le_n (xi_le_n (xi_le_n xi_le_z))))))))))))) (ih _ _ _ _ _ _ _ _ _ h)
                · replace h := (if_neg c16).symm.trans h
                  refine xr_ifCond_eq_n i_X2_best_175 c16 (q := 183) t_X2_best_175 (q2 := 178) rfl ?_
                  refine xr_iload i_X2_best_178 rfl (q := 180) rfl ?_
                  refine xr_goto i_X2_best_180 (q := 190) t_X2_best_180 ?_
                  refine xr_istore i_X2_best_190 rfl (L2 := [some (.ref v0), some (.ref v1), some (.int v2), some (.int v3), none, none, some (.int v6), some (.int x13), some (.int v8), some (.int v9), some (.int (Int32.ofInt 0)), some (.int (Int32.ofInt 0)), some (.int x6)]) rfl (q := 192) rfl ?_
                  refine xr_iinc i_X2_best_192 rfl rfl (L2 := [some (.ref v0), some (.ref v1), some (.int v2), some (.int v3), none, none, some (.int v6), some (.int x13), some (.int v8), some (.int (v9 + Int32.ofInt 1)), some (.int (Int32.ofInt 0)), some (.int (Int32.ofInt 0)), some (.int x6)]) rfl (q := 195) rfl ?_
                  refine xr_goto i_X2_best_195 (q := 53) t_X2_best_195 ?_
                  exact xi_X_le (xi_le_s (xi_le_s (xi_le_s (xi_le_s (xi_le_n (xi_le_n (xi_le_s (xi_le_s (xi_le_s (xi_le_s (xi_le_n (xi_le_n (xi_le_n xi_le_z))))))))))))) (ih _ _ _ _ _ _ _ _ _ h)
            · replace h := (if_neg c36).symm.trans h
              refine xr_ifCond_eq_n i_X2_best_107 c36 (q := 121) t_X2_best_107 (q2 := 110) rfl ?_
              refine xr_aload_n i_X2_best_110 rfl (q := 111) rfl ?_
              refine xr_iload i_X2_best_111 rfl (q := 113) rfl ?_
              refine xr_iload i_X2_best_113 rfl (q := 115) rfl ?_
              obtain ⟨x19, m18, em18, h⟩ := xi_bI_some h
              refine xr_SI i_X2_best_115 xcse_X2_40 rfl (As := [.ref v1, .int (Int32.ofInt 0), .int (Int32.ofInt 0)]) rfl (rest := []) rfl ((cc_X2_best_40 S fb _ _ _ _).trans em18) (q := 118) rfl ?_
              by_cases c35 : x19 = 0
              · replace h := (if_pos c35).symm.trans h
                refine xr_ifCond_eq_p i_X2_best_118 c35 (q := 192) t_X2_best_118 (q2 := 121) rfl ?_
                refine xr_iinc i_X2_best_192 rfl rfl (L2 := [some (.ref v0), some (.ref v1), some (.int v2), some (.int v3), none, none, some (.int v6), some (.int v7), some (.int v8), some (.int (v9 + Int32.ofInt 1)), some (.int (Int32.ofInt 0)), some (.int (Int32.ofInt 0)), none]) rfl (q := 195) rfl ?_
                refine xr_goto i_X2_best_195 (q := 53) t_X2_best_195 ?_
                exact xi_X_le (xi_le_s (xi_le_s (xi_le_s (xi_le_s (xi_le_n (xi_le_n (xi_le_s (xi_le_s (xi_le_s (xi_le_s (xi_le_n (xi_le_n (xi_le_n xi_le_z))))))))))))) (ih _ _ _ _ _ _ _ _ _ h)
              · replace h := (if_neg c35).symm.trans h
                refine xr_ifCond_eq_n i_X2_best_118 c35 (q := 192) t_X2_best_118 (q2 := 121) rfl ?_
                refine xr_aload_n i_X2_best_121 rfl (q := 122) rfl ?_
                refine xr_iload i_X2_best_122 rfl (q := 124) rfl ?_
                refine xr_dup2 i_X2_best_124 (q := 125) rfl ?_
                obtain ⟨c20, h⟩ := xi_if_some h
                refine xr_iaload i_X2_best_125 c20 (q := 126) rfl ?_
                refine xr_iload i_X2_best_126 rfl (q := 128) rfl ?_
                refine xr_iadd i_X2_best_128 (q := 129) rfl ?_
                obtain ⟨c21, h⟩ := xi_if_some h
                refine xr_iastore i_X2_best_129 c21 (q := 130) rfl ?_
                refine xr_aload_n i_X2_best_130 rfl (q := 131) rfl ?_
                refine xr_aload_n i_X2_best_131 rfl (q := 132) rfl ?_
                refine xr_iload_n i_X2_best_132 rfl (q := 133) rfl ?_
                refine xr_iload_n i_X2_best_133 rfl (q := 134) rfl ?_
                refine xr_iconst i_X2_best_134 (q := 135) rfl ?_
                refine xr_iadd i_X2_best_135 (q := 136) rfl ?_
                refine xr_iload i_X2_best_136 rfl (q := 138) rfl ?_
                refine xr_iload i_X2_best_138 rfl (q := 140) rfl ?_
                obtain ⟨x23, m22, em22, h⟩ := xi_bI_some h
                refine xr_SI i_X2_best_140 xcse_X2_30 rfl (As := [.ref v0, .ref v1, .int v2, .int (v3 + (Int32.ofInt 1)), .int v7, .int v8]) rfl (rest := []) rfl ((cc_X2_best_30 S fb _ _ _ _ _ _ _).trans em22) (q := 143) rfl ?_
                refine xr_istore i_X2_best_143 rfl (L2 := [some (.ref v0), some (.ref v1), some (.int v2), some (.int v3), none, none, some (.int v6), some (.int v7), some (.int v8), some (.int v9), some (.int (Int32.ofInt 0)), some (.int (Int32.ofInt 0)), some (.int x23)]) rfl (q := 145) rfl ?_
                refine xr_aload_n i_X2_best_145 rfl (q := 146) rfl ?_
                refine xr_iload i_X2_best_146 rfl (q := 148) rfl ?_
                refine xr_dup2 i_X2_best_148 (q := 149) rfl ?_
                obtain ⟨c24, h⟩ := xi_if_some h
                refine xr_iaload i_X2_best_149 c24 (q := 150) rfl ?_
                refine xr_iload i_X2_best_150 rfl (q := 152) rfl ?_
                refine xr_isub i_X2_best_152 (q := 153) rfl ?_
                obtain ⟨c25, h⟩ := xi_if_some h
                refine xr_iastore i_X2_best_153 c25 (q := 154) rfl ?_
                refine xr_iload i_X2_best_154 rfl (q := 156) rfl ?_
                by_cases c34 : v6 = 0
                · replace h := (if_pos c34).symm.trans h
                  refine xr_ifCond_eq_p i_X2_best_156 c34 (q := 169) t_X2_best_156 (q2 := 159) rfl ?_
                  refine xr_iload i_X2_best_169 rfl (q := 171) rfl ?_
                  refine xr_istore i_X2_best_171 rfl (L2 := [some (.ref v0), some (.ref v1), some (.int v2), some (.int v3), none, none, some (.int v6), some (.int v7), some (.int v8), some (.int v9), some (.int (Int32.ofInt 0)), some (.int (Int32.ofInt 0)), some (.int x23)]) rfl (q := 173) rfl ?_
                  refine xr_iload i_X2_best_173 rfl (q := 175) rfl ?_
                  by_cases c28 : v6 = 0
                  · replace h := (if_pos c28).symm.trans h
                    refine xr_ifCond_eq_p i_X2_best_175 c28 (q := 183) t_X2_best_175 (q2 := 178) rfl ?_
                    refine xr_iload i_X2_best_183 rfl (q := 185) rfl ?_
                    refine xr_iload i_X2_best_185 rfl (q := 187) rfl ?_
                    obtain ⟨x27, m26, em26, h⟩ := xi_bI_some h
                    refine xr_SI i_X2_best_187 xcse_X2_24 rfl (As := [.int v8, .int x23]) rfl (rest := []) rfl ((cc_X2_best_24 S fb _ _ _).trans em26) (q := 190) rfl ?_
                    refine xr_istore i_X2_best_190 rfl (L2 := [some (.ref v0), some (.ref v1), some (.int v2), some (.int v3), none, none, some (.int v6), some (.int v7), some (.int x27), some (.int v9), some (.int (Int32.ofInt 0)), some (.int (Int32.ofInt 0)), some (.int x23)]) rfl (q := 192) rfl ?_
                    refine xr_iinc i_X2_best_192 rfl rfl (L2 := [some (.ref v0), some (.ref v1), some (.int v2), some (.int v3), none, none, some (.int v6), some (.int v7), some (.int x27), some (.int (v9 + Int32.ofInt 1)), some (.int (Int32.ofInt 0)), some (.int (Int32.ofInt 0)), some (.int x23)]) rfl (q := 195) rfl ?_
                    refine xr_goto i_X2_best_195 (q := 53) t_X2_best_195 ?_
                    exact xi_X_le (xi_le_s (xi_le_s (xi_le_s (xi_le_s (xi_le_n (xi_le_n (xi_le_s (xi_le_s (xi_le_s (xi_le_s (xi_le_n (xi_le_n (xi_le_n xi_le_z))))))))))))) (ih _ _ _ _ _ _ _ _ _ h)
                  · replace h := (if_neg c28).symm.trans h
                    refine xr_ifCond_eq_n i_X2_best_175 c28 (q := 183) t_X2_best_175 (q2 := 178) rfl ?_
                    refine xr_iload i_X2_best_178 rfl (q := 180) rfl ?_
                    refine xr_goto i_X2_best_180 (q := 190) t_X2_best_180 ?_
                    refine xr_istore i_X2_best_190 rfl (L2 := [some (.ref v0), some (.ref v1), some (.int v2), some (.int v3), none, none, some (.int v6), some (.int v7), some (.int v8), some (.int v9), some (.int (Int32.ofInt 0)), some (.int (Int32.ofInt 0)), some (.int x23)]) rfl (q := 192) rfl ?_
                    refine xr_iinc i_X2_best_192 rfl rfl (L2 := [some (.ref v0), some (.ref v1), some (.int v2), some (.int v3), none, none, some (.int v6), some (.int v7), some (.int v8), some (.int (v9 + Int32.ofInt 1)), some (.int (Int32.ofInt 0)), some (.int (Int32.ofInt 0)), some (.int x23)]) rfl (q := 195) rfl ?_
                    refine xr_goto i_X2_best_195 (q := 53) t_X2_best_195 ?_
                    exact xi_X_le (xi_le_s (xi_le_s (xi_le_s (xi_le_s (xi_le_n (xi_le_n (xi_le_s (xi_le_s (xi_le_s (xi_le_s (xi_le_n (xi_le_n (xi_le_n xi_le_z))))))))))))) (ih _ _ _ _ _ _ _ _ _ h)
                · replace h := (if_neg c34).symm.trans h
                  refine xr_ifCond_eq_n i_X2_best_156 c34 (q := 169) t_X2_best_156 (q2 := 159) rfl ?_
                  refine xr_iload i_X2_best_159 rfl (q := 161) rfl ?_
                  refine xr_iload i_X2_best_161 rfl (q := 163) rfl ?_
                  obtain ⟨x30, m29, em29, h⟩ := xi_bI_some h
                  refine xr_SI i_X2_best_163 xcse_X2_44 rfl (As := [.int v7, .int x23]) rfl (rest := []) rfl ((cc_X2_best_44 S fb _ _ _).trans em29) (q := 166) rfl ?_
                  refine xr_goto i_X2_best_166 (q := 171) t_X2_best_166 ?_
                  refine xr_istore i_X2_best_171 rfl (L2 := [some (.ref v0), some (.ref v1), some (.int v2), some (.int v3), none, none, some (.int v6), some (.int x30), some (.int v8), some (.int v9), some (.int (Int32.ofInt 0)), some (.int (Int32.ofInt 0)), some (.int x23)]) rfl (q := 173) rfl ?_
                  refine xr_iload i_X2_best_173 rfl (q := 175) rfl ?_
                  by_cases c33 : v6 = 0
                  · replace h := (if_pos c33).symm.trans h
                    refine xr_ifCond_eq_p i_X2_best_175 c33 (q := 183) t_X2_best_175 (q2 := 178) rfl ?_
                    refine xr_iload i_X2_best_183 rfl (q := 185) rfl ?_
                    refine xr_iload i_X2_best_185 rfl (q := 187) rfl ?_
                    obtain ⟨x32, m31, em31, h⟩ := xi_bI_some h
                    refine xr_SI i_X2_best_187 xcse_X2_24 rfl (As := [.int v8, .int x23]) rfl (rest := []) rfl ((cc_X2_best_24 S fb _ _ _).trans em31) (q := 190) rfl ?_
                    refine xr_istore i_X2_best_190 rfl (L2 := [some (.ref v0), some (.ref v1), some (.int v2), some (.int v3), none, none, some (.int v6), some (.int x30), some (.int x32), some (.int v9), some (.int (Int32.ofInt 0)), some (.int (Int32.ofInt 0)), some (.int x23)]) rfl (q := 192) rfl ?_
                    refine xr_iinc i_X2_best_192 rfl rfl (L2 := [some (.ref v0), some (.ref v1), some (.int v2), some (.int v3), none, none, some (.int v6), some (.int x30), some (.int x32), some (.int (v9 + Int32.ofInt 1)), some (.int (Int32.ofInt 0)), some (.int (Int32.ofInt 0)), some (.int x23)]) rfl (q := 195) rfl ?_
                    refine xr_goto i_X2_best_195 (q := 53) t_X2_best_195 ?_
                    exact xi_X_le (xi_le_s (xi_le_s (xi_le_s (xi_le_s (xi_le_n (xi_le_n (xi_le_s (xi_le_s (xi_le_s (xi_le_s (xi_le_n (xi_le_n (xi_le_n xi_le_z))))))))))))) (ih _ _ _ _ _ _ _ _ _ h)
                  · replace h := (if_neg c33).symm.trans h
                    refine xr_ifCond_eq_n i_X2_best_175 c33 (q := 183) t_X2_best_175 (q2 := 178) rfl ?_
                    refine xr_iload i_X2_best_178 rfl (q := 180) rfl ?_
                    refine xr_goto i_X2_best_180 (q := 190) t_X2_best_180 ?_
                    refine xr_istore i_X2_best_190 rfl (L2 := [some (.ref v0), some (.ref v1), some (.int v2), some (.int v3), none, none, some (.int v6), some (.int x30), some (.int v8), some (.int v9), some (.int (Int32.ofInt 0)), some (.int (Int32.ofInt 0)), some (.int x23)]) rfl (q := 192) rfl ?_
                    refine xr_iinc i_X2_best_192 rfl rfl (L2 := [some (.ref v0), some (.ref v1), some (.int v2), some (.int v3), none, none, some (.int v6), some (.int x30), some (.int v8), some (.int (v9 + Int32.ofInt 1)), some (.int (Int32.ofInt 0)), some (.int (Int32.ofInt 0)), some (.int x23)]) rfl (q := 195) rfl ?_
                    refine xr_goto i_X2_best_195 (q := 53) t_X2_best_195 ?_
                    exact xi_X_le (xi_le_s (xi_le_s (xi_le_s (xi_le_s (xi_le_n (xi_le_n (xi_le_s (xi_le_s (xi_le_s (xi_le_s (xi_le_n (xi_le_n (xi_le_n xi_le_z))))))))))))) (ih _ _ _ _ _ _ _ _ _ h)
          · replace h := (if_neg c72).symm.trans h
            refine xr_if_icmp_ge_n i_X2_best_88 c72 (q := 102) t_X2_best_88 (q2 := 91) rfl ?_
            refine xr_iload i_X2_best_91 rfl (q := 93) rfl ?_
            refine xr_iconst i_X2_best_93 (q := 94) rfl ?_
            obtain ⟨c37, h⟩ := xi_ifn_some h
            refine xr_irem i_X2_best_94 c37 (q := 95) rfl ?_
            refine xr_iconst i_X2_best_95 (q := 96) rfl ?_
            refine xr_imul i_X2_best_96 (q := 97) rfl ?_
            refine xr_iconst i_X2_best_97 (q := 98) rfl ?_
            refine xr_isub i_X2_best_98 (q := 99) rfl ?_
            refine xr_goto i_X2_best_99 (q := 103) t_X2_best_99 ?_
            refine xr_istore i_X2_best_103 rfl (L2 := [some (.ref v0), some (.ref v1), some (.int v2), some (.int v3), none, none, some (.int v6), some (.int v7), some (.int v8), some (.int v9), some (.int (Int32.ofInt 0)), some (.int (((v9 - v9 / (Int32.ofInt 2) * (Int32.ofInt 2)) * (Int32.ofInt 2)) - (Int32.ofInt 1))), none]) rfl (q := 105) rfl ?_
            refine xr_iload i_X2_best_105 rfl (q := 107) rfl ?_
            by_cases c71 : (((v9 - v9 / (Int32.ofInt 2) * (Int32.ofInt 2)) * (Int32.ofInt 2)) - (Int32.ofInt 1)) = 0
            · replace h := (if_pos c71).symm.trans h
              refine xr_ifCond_eq_p i_X2_best_107 c71 (q := 121) t_X2_best_107 (q2 := 110) rfl ?_
              refine xr_aload_n i_X2_best_121 rfl (q := 122) rfl ?_
              refine xr_iload i_X2_best_122 rfl (q := 124) rfl ?_
              refine xr_dup2 i_X2_best_124 (q := 125) rfl ?_
              obtain ⟨c38, h⟩ := xi_if_some h
              refine xr_iaload i_X2_best_125 c38 (q := 126) rfl ?_
              refine xr_iload i_X2_best_126 rfl (q := 128) rfl ?_
              refine xr_iadd i_X2_best_128 (q := 129) rfl ?_
              obtain ⟨c39, h⟩ := xi_if_some h
              refine xr_iastore i_X2_best_129 c39 (q := 130) rfl ?_
              refine xr_aload_n i_X2_best_130 rfl (q := 131) rfl ?_
              refine xr_aload_n i_X2_best_131 rfl (q := 132) rfl ?_
              refine xr_iload_n i_X2_best_132 rfl (q := 133) rfl ?_
              refine xr_iload_n i_X2_best_133 rfl (q := 134) rfl ?_
              refine xr_iconst i_X2_best_134 (q := 135) rfl ?_
              refine xr_iadd i_X2_best_135 (q := 136) rfl ?_
              refine xr_iload i_X2_best_136 rfl (q := 138) rfl ?_
              refine xr_iload i_X2_best_138 rfl (q := 140) rfl ?_
              obtain ⟨x41, m40, em40, h⟩ := xi_bI_some h
              refine xr_SI i_X2_best_140 xcse_X2_30 rfl (As := [.ref v0, .ref v1, .int v2, .int (v3 + (Int32.ofInt 1)), .int v7, .int v8]) rfl (rest := []) rfl ((cc_X2_best_30 S fb _ _ _ _ _ _ _).trans em40) (q := 143) rfl ?_
              refine xr_istore i_X2_best_143 rfl (L2 := [some (.ref v0), some (.ref v1), some (.int v2), some (.int v3), none, none, some (.int v6), some (.int v7), some (.int v8), some (.int v9), some (.int (Int32.ofInt 0)), some (.int (((v9 - v9 / (Int32.ofInt 2) * (Int32.ofInt 2)) * (Int32.ofInt 2)) - (Int32.ofInt 1))), some (.int x41)]) rfl (q := 145) rfl ?_
              refine xr_aload_n i_X2_best_145 rfl (q := 146) rfl ?_
              refine xr_iload i_X2_best_146 rfl (q := 148) rfl ?_
              refine xr_dup2 i_X2_best_148 (q := 149) rfl ?_
              obtain ⟨c42, h⟩ := xi_if_some h
              refine xr_iaload i_X2_best_149 c42 (q := 150) rfl ?_
              refine xr_iload i_X2_best_150 rfl (q := 152) rfl ?_
              refine xr_isub i_X2_best_152 (q := 153) rfl ?_
              obtain ⟨c43, h⟩ := xi_if_some h
              refine xr_iastore i_X2_best_153 c43 (q := 154) rfl ?_
              refine xr_iload i_X2_best_154 rfl (q := 156) rfl ?_
              by_cases c52 : v6 = 0
              · replace h := (if_pos c52).symm.trans h
                refine xr_ifCond_eq_p i_X2_best_156 c52 (q := 169) t_X2_best_156 (q2 := 159) rfl ?_
                refine xr_iload i_X2_best_169 rfl (q := 171) rfl ?_
                refine xr_istore i_X2_best_171 rfl (L2 := [some (.ref v0), some (.ref v1), some (.int v2), some (.int v3), none, none, some (.int v6), some (.int v7), some (.int v8), some (.int v9), some (.int (Int32.ofInt 0)), some (.int (((v9 - v9 / (Int32.ofInt 2) * (Int32.ofInt 2)) * (Int32.ofInt 2)) - (Int32.ofInt 1))), some (.int x41)]) rfl (q := 173) rfl ?_
                refine xr_iload i_X2_best_173 rfl (q := 175) rfl ?_
                by_cases c46 : v6 = 0
                · replace h := (if_pos c46).symm.trans h
                  refine xr_ifCond_eq_p i_X2_best_175 c46 (q := 183) t_X2_best_175 (q2 := 178) rfl ?_
                  refine xr_iload i_X2_best_183 rfl (q := 185) rfl ?_
                  refine xr_iload i_X2_best_185 rfl (q := 187) rfl ?_
                  obtain ⟨x45, m44, em44, h⟩ := xi_bI_some h
                  refine xr_SI i_X2_best_187 xcse_X2_24 rfl (As := [.int v8, .int x41]) rfl (rest := []) rfl ((cc_X2_best_24 S fb _ _ _).trans em44) (q := 190) rfl ?_
                  refine xr_istore i_X2_best_190 rfl (L2 := [some (.ref v0), some (.ref v1), some (.int v2), some (.int v3), none, none, some (.int v6), some (.int v7), some (.int x45), some (.int v9), some (.int (Int32.ofInt 0)), some (.int (((v9 - v9 / (Int32.ofInt 2) * (Int32.ofInt 2)) * (Int32.ofInt 2)) - (Int32.ofInt 1))), some (.int x41)]) rfl (q := 192) rfl ?_
                  refine xr_iinc i_X2_best_192 rfl rfl (L2 := [some (.ref v0), some (.ref v1), some (.int v2), some (.int v3), none, none, some (.int v6), some (.int v7), some (.int x45), some (.int (v9 + Int32.ofInt 1)), some (.int (Int32.ofInt 0)), some (.int (((v9 - v9 / (Int32.ofInt 2) * (Int32.ofInt 2)) * (Int32.ofInt 2)) - (Int32.ofInt 1))), some (.int x41)]) rfl (q := 195) rfl ?_
                  refine xr_goto i_X2_best_195 (q := 53) t_X2_best_195 ?_
                  exact xi_X_le (xi_le_s (xi_le_s (xi_le_s (xi_le_s (xi_le_n (xi_le_n (xi_le_s (xi_le_s (xi_le_s (xi_le_s (xi_le_n (xi_le_n (xi_le_n xi_le_z))))))))))))) (ih _ _ _ _ _ _ _ _ _ h)
                · replace h := (if_neg c46).symm.trans h
                  refine xr_ifCond_eq_n i_X2_best_175 c46 (q := 183) t_X2_best_175 (q2 := 178) rfl ?_
                  refine xr_iload i_X2_best_178 rfl (q := 180) rfl ?_
                  refine xr_goto i_X2_best_180 (q := 190) t_X2_best_180 ?_
                  refine xr_istore i_X2_best_190 rfl (L2 := [some (.ref v0), some (.ref v1), some (.int v2), some (.int v3), none, none, some (.int v6), some (.int v7), some (.int v8), some (.int v9), some (.int (Int32.ofInt 0)), some (.int (((v9 - v9 / (Int32.ofInt 2) * (Int32.ofInt 2)) * (Int32.ofInt 2)) - (Int32.ofInt 1))), some (.int x41)]) rfl (q := 192) rfl ?_
                  refine xr_iinc i_X2_best_192 rfl rfl (L2 := [some (.ref v0), some (.ref v1), some (.int v2), some (.int v3), none, none, some (.int v6), some (.int v7), some (.int v8), some (.int (v9 + Int32.ofInt 1)), some (.int (Int32.ofInt 0)), some (.int (((v9 - v9 / (Int32.ofInt 2) * (Int32.ofInt 2)) * (Int32.ofInt 2)) - (Int32.ofInt 1))), some (.int x41)]) rfl (q := 195) rfl ?_
                  refine xr_goto i_X2_best_195 (q := 53) t_X2_best_195 ?_
                  exact xi_X_le (xi_le_s (xi_le_s (xi_le_s (xi_le_s (xi_le_n (xi_le_n (xi_le_s (xi_le_s (xi_le_s (xi_le_s (xi_le_n (xi_le_n (xi_le_n xi_le_z))))))))))))) (ih _ _ _ _ _ _ _ _ _ h)
              · replace h := (if_neg c52).symm.trans h
                refine xr_ifCond_eq_n i_X2_best_156 c52 (q := 169) t_X2_best_156 (q2 := 159) rfl ?_
                refine xr_iload i_X2_best_159 rfl (q := 161) rfl ?_
                refine xr_iload i_X2_best_161 rfl (q := 163) rfl ?_
                obtain ⟨x48, m47, em47, h⟩ := xi_bI_some h
                refine xr_SI i_X2_best_163 xcse_X2_44 rfl (As := [.int v7, .int x41]) rfl (rest := []) rfl ((cc_X2_best_44 S fb _ _ _).trans em47) (q := 166) rfl ?_
                refine xr_goto i_X2_best_166 (q := 171) t_X2_best_166 ?_
                refine xr_istore i_X2_best_171 rfl (L2 := [some (.ref v0), some (.ref v1), some (.int v2), some (.int v3), none, none, some (.int v6), some (.int x48), some (.int v8), some (.int v9), some (.int (Int32.ofInt 0)), some (.int (((v9 - v9 / (Int32.ofInt 2) * (Int32.ofInt 2)) * (Int32.ofInt 2)) - (Int32.ofInt 1))), some (.int x41)]) rfl (q := 173) rfl ?_
                refine xr_iload i_X2_best_173 rfl (q := 175) rfl ?_
                by_cases c51 : v6 = 0
                · replace h := (if_pos c51).symm.trans h
                  refine xr_ifCond_eq_p i_X2_best_175 c51 (q := 183) t_X2_best_175 (q2 := 178) rfl ?_
                  refine xr_iload i_X2_best_183 rfl (q := 185) rfl ?_
                  refine xr_iload i_X2_best_185 rfl (q := 187) rfl ?_
                  obtain ⟨x50, m49, em49, h⟩ := xi_bI_some h
                  refine xr_SI i_X2_best_187 xcse_X2_24 rfl (As := [.int v8, .int x41]) rfl (rest := []) rfl ((cc_X2_best_24 S fb _ _ _).trans em49) (q := 190) rfl ?_
                  refine xr_istore i_X2_best_190 rfl (L2 := [some (.ref v0), some (.ref v1), some (.int v2), some (.int v3), none, none, some (.int v6), some (.int x48), some (.int x50), some (.int v9), some (.int (Int32.ofInt 0)), some (.int (((v9 - v9 / (Int32.ofInt 2) * (Int32.ofInt 2)) * (Int32.ofInt 2)) - (Int32.ofInt 1))), some (.int x41)]) rfl (q := 192) rfl ?_
                  refine xr_iinc i_X2_best_192 rfl rfl (L2 := [some (.ref v0), some (.ref v1), some (.int v2), some (.int v3), none, none, some (.int v6), some (.int x48), some (.int x50), some (.int (v9 + Int32.ofInt 1)), some (.int (Int32.ofInt 0)), some (.int (((v9 - v9 / (Int32.ofInt 2) * (Int32.ofInt 2)) * (Int32.ofInt 2)) - (Int32.ofInt 1))), some (.int x41)]) rfl (q := 195) rfl ?_
                  refine xr_goto i_X2_best_195 (q := 53) t_X2_best_195 ?_
                  exact xi_X_le (xi_le_s (xi_le_s (xi_le_s (xi_le_s (xi_le_n (xi_le_n (xi_le_s (xi_le_s (xi_le_s (xi_le_s (xi_le_n (xi_le_n (xi_le_n xi_le_z))))))))))))) (ih _ _ _ _ _ _ _ _ _ h)
                · replace h := (if_neg c51).symm.trans h
                  refine xr_ifCond_eq_n i_X2_best_175 c51 (q := 183) t_X2_best_175 (q2 := 178) rfl ?_
                  refine xr_iload i_X2_best_178 rfl (q := 180) rfl ?_
                  refine xr_goto i_X2_best_180 (q := 190) t_X2_best_180 ?_
                  refine xr_istore i_X2_best_190 rfl (L2 := [some (.ref v0), some (.ref v1), some (.int v2), some (.int v3), none, none, some (.int v6), some (.int x48), some (.int v8), some (.int v9), some (.int (Int32.ofInt 0)), some (.int (((v9 - v9 / (Int32.ofInt 2) * (Int32.ofInt 2)) * (Int32.ofInt 2)) - (Int32.ofInt 1))), some (.int x41)]) rfl (q := 192) rfl ?_
                  refine xr_iinc i_X2_best_192 rfl rfl (L2 := [some (.ref v0), some (.ref v1), some (.int v2), some (.int v3), none, none, some (.int v6), some (.int x48), some (.int v8), some (.int (v9 + Int32.ofInt 1)), some (.int (Int32.ofInt 0)), some (.int (((v9 - v9 / (Int32.ofInt 2) * (Int32.ofInt 2)) * (Int32.ofInt 2)) - (Int32.ofInt 1))), some (.int x41)]) rfl (q := 195) rfl ?_
                  refine xr_goto i_X2_best_195 (q := 53) t_X2_best_195 ?_
                  exact xi_X_le (xi_le_s (xi_le_s (xi_le_s (xi_le_s (xi_le_n (xi_le_n (xi_le_s (xi_le_s (xi_le_s (xi_le_s (xi_le_n (xi_le_n (xi_le_n xi_le_z))))))))))))) (ih _ _ _ _ _ _ _ _ _ h)
            · replace h := (if_neg c71).symm.trans h
              refine xr_ifCond_eq_n i_X2_best_107 c71 (q := 121) t_X2_best_107 (q2 := 110) rfl ?_
              refine xr_aload_n i_X2_best_110 rfl (q := 111) rfl ?_
              refine xr_iload i_X2_best_111 rfl (q := 113) rfl ?_
              refine xr_iload i_X2_best_113 rfl (q := 115) rfl ?_
              obtain ⟨x54, m53, em53, h⟩ := xi_bI_some h
              refine xr_SI i_X2_best_115 xcse_X2_40 rfl (As := [.ref v1, .int (Int32.ofInt 0), .int (((v9 - v9 / (Int32.ofInt 2) * (Int32.ofInt 2)) * (Int32.ofInt 2)) - (Int32.ofInt 1))]) rfl (rest := []) rfl ((cc_X2_best_40 S fb _ _ _ _).trans em53) (q := 118) rfl ?_
              by_cases c70 : x54 = 0
              · replace h := (if_pos c70).symm.trans h
                refine xr_ifCond_eq_p i_X2_best_118 c70 (q := 192) t_X2_best_118 (q2 := 121) rfl ?_
                refine xr_iinc i_X2_best_192 rfl rfl (L2 := [some (.ref v0), some (.ref v1), some (.int v2), some (.int v3), none, none, some (.int v6), some (.int v7), some (.int v8), some (.int (v9 + Int32.ofInt 1)), some (.int (Int32.ofInt 0)), some (.int (((v9 - v9 / (Int32.ofInt 2) * (Int32.ofInt 2)) * (Int32.ofInt 2)) - (Int32.ofInt 1))), none]) rfl (q := 195) rfl ?_
                refine xr_goto i_X2_best_195 (q := 53) t_X2_best_195 ?_
                exact xi_X_le (xi_le_s (xi_le_s (xi_le_s (xi_le_s (xi_le_n (xi_le_n (xi_le_s (xi_le_s (xi_le_s (xi_le_s (xi_le_n (xi_le_n (xi_le_n xi_le_z))))))))))))) (ih _ _ _ _ _ _ _ _ _ h)
              · replace h := (if_neg c70).symm.trans h
                refine xr_ifCond_eq_n i_X2_best_118 c70 (q := 192) t_X2_best_118 (q2 := 121) rfl ?_
                refine xr_aload_n i_X2_best_121 rfl (q := 122) rfl ?_
                refine xr_iload i_X2_best_122 rfl (q := 124) rfl ?_
                refine xr_dup2 i_X2_best_124 (q := 125) rfl ?_
                obtain ⟨c55, h⟩ := xi_if_some h
                refine xr_iaload i_X2_best_125 c55 (q := 126) rfl ?_
                refine xr_iload i_X2_best_126 rfl (q := 128) rfl ?_
                refine xr_iadd i_X2_best_128 (q := 129) rfl ?_
                obtain ⟨c56, h⟩ := xi_if_some h
                refine xr_iastore i_X2_best_129 c56 (q := 130) rfl ?_
                refine xr_aload_n i_X2_best_130 rfl (q := 131) rfl ?_
                refine xr_aload_n i_X2_best_131 rfl (q := 132) rfl ?_
                refine xr_iload_n i_X2_best_132 rfl (q := 133) rfl ?_
                refine xr_iload_n i_X2_best_133 rfl (q := 134) rfl ?_
                refine xr_iconst i_X2_best_134 (q := 135) rfl ?_
                refine xr_iadd i_X2_best_135 (q := 136) rfl ?_
                refine xr_iload i_X2_best_136 rfl (q := 138) rfl ?_
                refine xr_iload i_X2_best_138 rfl (q := 140) rfl ?_
                obtain ⟨x58, m57, em57, h⟩ := xi_bI_some h
                refine xr_SI i_X2_best_140 xcse_X2_30 rfl (As := [.ref v0, .ref v1, .int v2, .int (v3 + (Int32.ofInt 1)), .int v7, .int v8]) rfl (rest := []) rfl ((cc_X2_best_30 S fb _ _ _ _ _ _ _).trans em57) (q := 143) rfl ?_
                refine xr_istore i_X2_best_143 rfl (L2 := [some (.ref v0), some (.ref v1), some (.int v2), some (.int v3), none, none, some (.int v6), some (.int v7), some (.int v8), some (.int v9), some (.int (Int32.ofInt 0)), some (.int (((v9 - v9 / (Int32.ofInt 2) * (Int32.ofInt 2)) * (Int32.ofInt 2)) - (Int32.ofInt 1))), some (.int x58)]) rfl (q := 145) rfl ?_
                refine xr_aload_n i_X2_best_145 rfl (q := 146) rfl ?_
                refine xr_iload i_X2_best_146 rfl (q := 148) rfl ?_
                refine xr_dup2 i_X2_best_148 (q := 149) rfl ?_
                obtain ⟨c59, h⟩ := xi_if_some h
                refine xr_iaload i_X2_best_149 c59 (q := 150) rfl ?_
                refine xr_iload i_X2_best_150 rfl (q := 152) rfl ?_
                refine xr_isub i_X2_best_152 (q := 153) rfl ?_
                obtain ⟨c60, h⟩ := xi_if_some h
                refine xr_iastore i_X2_best_153 c60 (q := 154) rfl ?_
                refine xr_iload i_X2_best_154 rfl (q := 156) rfl ?_
                by_cases c69 : v6 = 0
                · replace h := (if_pos c69).symm.trans h
                  refine xr_ifCond_eq_p i_X2_best_156 c69 (q := 169) t_X2_best_156 (q2 := 159) rfl ?_
                  refine xr_iload i_X2_best_169 rfl (q := 171) rfl ?_
                  refine xr_istore i_X2_best_171 rfl (L2 := [some (.ref v0), some (.ref v1), some (.int v2), some (.int v3), none, none, some (.int v6), some (.int v7), some (.int v8), some (.int v9), some (.int (Int32.ofInt 0)), some (.int (((v9 - v9 / (Int32.ofInt 2) * (Int32.ofInt 2)) * (Int32.ofInt 2)) - (Int32.ofInt 1))), some (.int x58)]) rfl (q := 173) rfl ?_
                  refine xr_iload i_X2_best_173 rfl (q := 175) rfl ?_
                  by_cases c63 : v6 = 0
                  · replace h := (if_pos c63).symm.trans h
                    refine xr_ifCond_eq_p i_X2_best_175 c63 (q := 183) t_X2_best_175 (q2 := 178) rfl ?_
                    refine xr_iload i_X2_best_183 rfl (q := 185) rfl ?_
                    refine xr_iload i_X2_best_185 rfl (q := 187) rfl ?_
                    obtain ⟨x62, m61, em61, h⟩ := xi_bI_some h
                    refine xr_SI i_X2_best_187 xcse_X2_24 rfl (As := [.int v8, .int x58]) rfl (rest := []) rfl ((cc_X2_best_24 S fb _ _ _).trans em61) (q := 190) rfl ?_
                    refine xr_istore i_X2_best_190 rfl (L2 := [some (.ref v0), some (.ref v1), some (.int v2), some (.int v3), none, none, some (.int v6), some (.int v7), some (.int x62), some (.int v9), some (.int (Int32.ofInt 0)), some (.int (((v9 - v9 / (Int32.ofInt 2) * (Int32.ofInt 2)) * (Int32.ofInt 2)) - (Int32.ofInt 1))), some (.int x58)]) rfl (q := 192) rfl ?_
                    refine xr_iinc i_X2_best_192 rfl rfl (L2 := [some (.ref v0), some (.ref v1), some (.int v2), some (.int v3), none, none, some (.int v6), some (.int v7), some (.int x62), some (.int (v9 + Int32.ofInt 1)), some (.int (Int32.ofInt 0)), some (.int (((v9 - v9 / (Int32.ofInt 2) * (Int32.ofInt 2)) * (Int32.ofInt 2)) - (Int32.ofInt 1))), some (.int x58)]) rfl (q := 195) rfl ?_
                    refine xr_goto i_X2_best_195 (q := 53) t_X2_best_195 ?_
                    exact xi_X_le (xi_le_s (xi_le_s (xi_le_s (xi_le_s (xi_le_n (xi_le_n (xi_le_s (xi_le_s (xi_le_s (xi_le_s (xi_le_n (xi_le_n (xi_le_n xi_le_z))))))))))))) (ih _ _ _ _ _ _ _ _ _ h)
                  · replace h := (if_neg c63).symm.trans h
                    refine xr_ifCond_eq_n i_X2_best_175 c63 (q := 183) t_X2_best_175 (q2 := 178) rfl ?_
                    refine xr_iload i_X2_best_178 rfl (q := 180) rfl ?_
                    refine xr_goto i_X2_best_180 (q := 190) t_X2_best_180 ?_
                    refine xr_istore i_X2_best_190 rfl (L2 := [some (.ref v0), some (.ref v1), some (.int v2), some (.int v3), none, none, some (.int v6), some (.int v7), some (.int v8), some (.int v9), some (.int (Int32.ofInt 0)), some (.int (((v9 - v9 / (Int32.ofInt 2) * (Int32.ofInt 2)) * (Int32.ofInt 2)) - (Int32.ofInt 1))), some (.int x58)]) rfl (q := 192) rfl ?_
                    refine xr_iinc i_X2_best_192 rfl rfl (L2 := [some (.ref v0), some (.ref v1), some (.int v2), some (.int v3), none, none, some (.int v6), some (.int v7), some (.int v8), some (.int (v9 + Int32.ofInt 1)), some (.int (Int32.ofInt 0)), some (.int (((v9 - v9 / (Int32.ofInt 2) * (Int32.ofInt 2)) * (Int32.ofInt 2)) - (Int32.ofInt 1))), some (.int x58)]) rfl (q := 195) rfl ?_
                    refine xr_goto i_X2_best_195 (q := 53) t_X2_best_195 ?_
                    exact xi_X_le (xi_le_s (xi_le_s (xi_le_s (xi_le_s (xi_le_n (xi_le_n (xi_le_s (xi_le_s (xi_le_s (xi_le_s (xi_le_n (xi_le_n (xi_le_n xi_le_z))))))))))))) (ih _ _ _ _ _ _ _ _ _ h)
                · replace h := (if_neg c69).symm.trans h
                  refine xr_ifCond_eq_n i_X2_best_156 c69 (q := 169) t_X2_best_156 (q2 := 159) rfl ?_
                  refine xr_iload i_X2_best_159 rfl (q := 161) rfl ?_
                  refine xr_iload i_X2_best_161 rfl (q := 163) rfl ?_
                  obtain ⟨x65, m64, em64, h⟩ := xi_bI_some h
                  refine xr_SI i_X2_best_163 xcse_X2_44 rfl (As := [.int v7, .int x58]) rfl (rest := []) rfl ((cc_X2_best_44 S fb _ _ _).trans em64) (q := 166) rfl ?_
                  refine xr_goto i_X2_best_166 (q := 171) t_X2_best_166 ?_
                  refine xr_istore i_X2_best_171 rfl (L2 := [some (.ref v0), some (.ref v1), some (.int v2), some (.int v3), none, none, some (.int v6), some (.int x65), some (.int v8), some (.int v9), some (.int (Int32.ofInt 0)), some (.int (((v9 - v9 / (Int32.ofInt 2) * (Int32.ofInt 2)) * (Int32.ofInt 2)) - (Int32.ofInt 1))), some (.int x58)]) rfl (q := 173) rfl ?_
                  refine xr_iload i_X2_best_173 rfl (q := 175) rfl ?_
                  by_cases c68 : v6 = 0
                  · replace h := (if_pos c68).symm.trans h
                    refine xr_ifCond_eq_p i_X2_best_175 c68 (q := 183) t_X2_best_175 (q2 := 178) rfl ?_
                    refine xr_iload i_X2_best_183 rfl (q := 185) rfl ?_
                    refine xr_iload i_X2_best_185 rfl (q := 187) rfl ?_
                    obtain ⟨x67, m66, em66, h⟩ := xi_bI_some h
                    refine xr_SI i_X2_best_187 xcse_X2_24 rfl (As := [.int v8, .int x58]) rfl (rest := []) rfl ((cc_X2_best_24 S fb _ _ _).trans em66) (q := 190) rfl ?_
                    refine xr_istore i_X2_best_190 rfl (L2 := [some (.ref v0), some (.ref v1), some (.int v2), some (.int v3), none, none, some (.int v6), some (.int x65), some (.int x67), some (.int v9), some (.int (Int32.ofInt 0)), some (.int (((v9 - v9 / (Int32.ofInt 2) * (Int32.ofInt 2)) * (Int32.ofInt 2)) - (Int32.ofInt 1))), some (.int x58)]) rfl (q := 192) rfl ?_
                    refine xr_iinc i_X2_best_192 rfl rfl (L2 := [some (.ref v0), some (.ref v1), some (.int v2), some (.int v3), none, none, some (.int v6), some (.int x65), some (.int x67), some (.int (v9 + Int32.ofInt 1)), some (.int (Int32.ofInt 0)), some (.int (((v9 - v9 / (Int32.ofInt 2) * (Int32.ofInt 2)) * (Int32.ofInt 2)) - (Int32.ofInt 1))), some (.int x58)]) rfl (q := 195) rfl ?_
                    refine xr_goto i_X2_best_195 (q := 53) t_X2_best_195 ?_
                    exact xi_X_le (xi_le_s (xi_le_s (xi_le_s (xi_le_s (xi_le_n (xi_le_n (xi_le_s (xi_le_s (xi_le_s (xi_le_s (xi_le_n (xi_le_n (xi_le_n xi_le_z))))))))))))) (ih _ _ _ _ _ _ _ _ _ h)
                  · replace h := (if_neg c68).symm.trans h
                    refine xr_ifCond_eq_n i_X2_best_175 c68 (q := 183) t_X2_best_175 (q2 := 178) rfl ?_
                    refine xr_iload i_X2_best_178 rfl (q := 180) rfl ?_
                    refine xr_goto i_X2_best_180 (q := 190) t_X2_best_180 ?_
                    refine xr_istore i_X2_best_190 rfl (L2 := [some (.ref v0), some (.ref v1), some (.int v2), some (.int v3), none, none, some (.int v6), some (.int x65), some (.int v8), some (.int v9), some (.int (Int32.ofInt 0)), some (.int (((v9 - v9 / (Int32.ofInt 2) * (Int32.ofInt 2)) * (Int32.ofInt 2)) - (Int32.ofInt 1))), some (.int x58)]) rfl (q := 192) rfl ?_
                    refine xr_iinc i_X2_best_192 rfl rfl (L2 := [some (.ref v0), some (.ref v1), some (.int v2), some (.int v3), none, none, some (.int v6), some (.int x65), some (.int v8), some (.int (v9 + Int32.ofInt 1)), some (.int (Int32.ofInt 0)), some (.int (((v9 - v9 / (Int32.ofInt 2) * (Int32.ofInt 2)) * (Int32.ofInt 2)) - (Int32.ofInt 1))), some (.int x58)]) rfl (q := 195) rfl ?_
                    refine xr_goto i_X2_best_195 (q := 53) t_X2_best_195 ?_
                    exact xi_X_le (xi_le_s (xi_le_s (xi_le_s (xi_le_s (xi_le_n (xi_le_n (xi_le_s (xi_le_s (xi_le_s (xi_le_s (xi_le_n (xi_le_n (xi_le_n xi_le_z))))))))))))) (ih _ _ _ _ _ _ _ _ _ h)
        · replace h := (if_neg c144).symm.trans h
          refine xr_if_icmp_ge_n i_X2_best_71 c144 (q := 81) t_X2_best_71 (q2 := 74) rfl ?_
          refine xr_iload i_X2_best_74 rfl (q := 76) rfl ?_
          refine xr_iconst i_X2_best_76 (q := 77) rfl ?_
          obtain ⟨c73, h⟩ := xi_ifn_some h
          refine xr_idiv i_X2_best_77 c73 (q := 78) rfl ?_
          refine xr_goto i_X2_best_78 (q := 82) t_X2_best_78 ?_
          refine xr_istore i_X2_best_82 rfl (L2 := [some (.ref v0), some (.ref v1), some (.int v2), some (.int v3), none, none, some (.int v6), some (.int v7), some (.int v8), some (.int v9), some (.int (v9 / (Int32.ofInt 2))), none, none]) rfl (q := 84) rfl ?_
          refine xr_iload i_X2_best_84 rfl (q := 86) rfl ?_
          refine xr_bipush i_X2_best_86 (q := 88) rfl ?_
          by_cases c143 : ((Int8.ofInt 8).toInt32) ≤ v9
          · replace h := (if_pos c143).symm.trans h
            refine xr_if_icmp_ge_p i_X2_best_88 c143 (q := 102) t_X2_best_88 (q2 := 91) rfl ?_
            refine xr_iconst i_X2_best_102 (q := 103) rfl ?_
            refine xr_istore i_X2_best_103 rfl (L2 := [some (.ref v0), some (.ref v1), some (.int v2), some (.int v3), none, none, some (.int v6), some (.int v7), some (.int v8), some (.int v9), some (.int (v9 / (Int32.ofInt 2))), some (.int (Int32.ofInt 0)), none]) rfl (q := 105) rfl ?_
            refine xr_iload i_X2_best_105 rfl (q := 107) rfl ?_
            by_cases c107 : (Int32.ofInt 0) = 0
            · replace h := (if_pos c107).symm.trans h
              refine xr_ifCond_eq_p i_X2_best_107 c107 (q := 121) t_X2_best_107 (q2 := 110) rfl ?_
              refine xr_aload_n i_X2_best_121 rfl (q := 122) rfl ?_
              refine xr_iload i_X2_best_122 rfl (q := 124) rfl ?_
              refine xr_dup2 i_X2_best_124 (q := 125) rfl ?_
              obtain ⟨c74, h⟩ := xi_if_some h
              refine xr_iaload i_X2_best_125 c74 (q := 126) rfl ?_
              refine xr_iload i_X2_best_126 rfl (q := 128) rfl ?_
              refine xr_iadd i_X2_best_128 (q := 129) rfl ?_
              obtain ⟨c75, h⟩ := xi_if_some h
              refine xr_iastore i_X2_best_129 c75 (q := 130) rfl ?_
              refine xr_aload_n i_X2_best_130 rfl (q := 131) rfl ?_
              refine xr_aload_n i_X2_best_131 rfl (q := 132) rfl ?_
              refine xr_iload_n i_X2_best_132 rfl (q := 133) rfl ?_
              refine xr_iload_n i_X2_best_133 rfl (q := 134) rfl ?_
              refine xr_iconst i_X2_best_134 (q := 135) rfl ?_
              refine xr_iadd i_X2_best_135 (q := 136) rfl ?_
              refine xr_iload i_X2_best_136 rfl (q := 138) rfl ?_
              refine xr_iload i_X2_best_138 rfl (q := 140) rfl ?_
              obtain ⟨x77, m76, em76, h⟩ := xi_bI_some h
              refine xr_SI i_X2_best_140 xcse_X2_30 rfl (As := [.ref v0, .ref v1, .int v2, .int (v3 + (Int32.ofInt 1)), .int v7, .int v8]) rfl (rest := []) rfl ((cc_X2_best_30 S fb _ _ _ _ _ _ _).trans em76) (q := 143) rfl ?_
              refine xr_istore i_X2_best_143 rfl (L2 := [some (.ref v0), some (.ref v1), some (.int v2), some (.int v3), none, none, some (.int v6), some (.int v7), some (.int v8), some (.int v9), some (.int (v9 / (Int32.ofInt 2))), some (.int (Int32.ofInt 0)), some (.int x77)]) rfl (q := 145) rfl ?_
              refine xr_aload_n i_X2_best_145 rfl (q := 146) rfl ?_
              refine xr_iload i_X2_best_146 rfl (q := 148) rfl ?_
              refine xr_dup2 i_X2_best_148 (q := 149) rfl ?_
              obtain ⟨c78, h⟩ := xi_if_some h
              refine xr_iaload i_X2_best_149 c78 (q := 150) rfl ?_
              refine xr_iload i_X2_best_150 rfl (q := 152) rfl ?_
              refine xr_isub i_X2_best_152 (q := 153) rfl ?_
              obtain ⟨c79, h⟩ := xi_if_some h
              refine xr_iastore i_X2_best_153 c79 (q := 154) rfl ?_
              refine xr_iload i_X2_best_154 rfl (q := 156) rfl ?_
              by_cases c88 : v6 = 0
              · replace h := (if_pos c88).symm.trans h
                refine xr_ifCond_eq_p i_X2_best_156 c88 (q := 169) t_X2_best_156 (q2 := 159) rfl ?_
                refine xr_iload i_X2_best_169 rfl (q := 171) rfl ?_
                refine xr_istore i_X2_best_171 rfl (L2 := [some (.ref v0), some (.ref v1), some (.int v2), some (.int v3), none, none, some (.int v6), some (.int v7), some (.int v8), some (.int v9), some (.int (v9 / (Int32.ofInt 2))), some (.int (Int32.ofInt 0)), some (.int x77)]) rfl (q := 173) rfl ?_
                refine xr_iload i_X2_best_173 rfl (q := 175) rfl ?_
                by_cases c82 : v6 = 0
                · replace h := (if_pos c82).symm.trans h
                  refine xr_ifCond_eq_p i_X2_best_175 c82 (q := 183) t_X2_best_175 (q2 := 178) rfl ?_
                  refine xr_iload i_X2_best_183 rfl (q := 185) rfl ?_
                  refine xr_iload i_X2_best_185 rfl (q := 187) rfl ?_
                  obtain ⟨x81, m80, em80, h⟩ := xi_bI_some h
                  refine xr_SI i_X2_best_187 xcse_X2_24 rfl (As := [.int v8, .int x77]) rfl (rest := []) rfl ((cc_X2_best_24 S fb _ _ _).trans em80) (q := 190) rfl ?_
                  refine xr_istore i_X2_best_190 rfl (L2 := [some (.ref v0), some (.ref v1), some (.int v2), some (.int v3), none, none, some (.int v6), some (.int v7), some (.int x81), some (.int v9), some (.int (v9 / (Int32.ofInt 2))), some (.int (Int32.ofInt 0)), some (.int x77)]) rfl (q := 192) rfl ?_
                  refine xr_iinc i_X2_best_192 rfl rfl (L2 := [some (.ref v0), some (.ref v1), some (.int v2), some (.int v3), none, none, some (.int v6), some (.int v7), some (.int x81), some (.int (v9 + Int32.ofInt 1)), some (.int (v9 / (Int32.ofInt 2))), some (.int (Int32.ofInt 0)), some (.int x77)]) rfl (q := 195) rfl ?_
                  refine xr_goto i_X2_best_195 (q := 53) t_X2_best_195 ?_
                  exact xi_X_le (xi_le_s (xi_le_s (xi_le_s (xi_le_s (xi_le_n (xi_le_n (xi_le_s (xi_le_s (xi_le_s (xi_le_s (xi_le_n (xi_le_n (xi_le_n xi_le_z))))))))))))) (ih _ _ _ _ _ _ _ _ _ h)
                · replace h := (if_neg c82).symm.trans h
                  refine xr_ifCond_eq_n i_X2_best_175 c82 (q := 183) t_X2_best_175 (q2 := 178) rfl ?_
                  refine xr_iload i_X2_best_178 rfl (q := 180) rfl ?_
                  refine xr_goto i_X2_best_180 (q := 190) t_X2_best_180 ?_
                  refine xr_istore i_X2_best_190 rfl (L2 := [some (.ref v0), some (.ref v1), some (.int v2), some (.int v3), none, none, some (.int v6), some (.int v7), some (.int v8), some (.int v9), some (.int (v9 / (Int32.ofInt 2))), some (.int (Int32.ofInt 0)), some (.int x77)]) rfl (q := 192) rfl ?_
                  refine xr_iinc i_X2_best_192 rfl rfl (L2 := [some (.ref v0), some (.ref v1), some (.int v2), some (.int v3), none, none, some (.int v6), some (.int v7), some (.int v8), some (.int (v9 + Int32.ofInt 1)), some (.int (v9 / (Int32.ofInt 2))), some (.int (Int32.ofInt 0)), some (.int x77)]) rfl (q := 195) rfl ?_
                  refine xr_goto i_X2_best_195 (q := 53) t_X2_best_195 ?_
                  exact xi_X_le (xi_le_s (xi_le_s (xi_le_s (xi_le_s (xi_le_n (xi_le_n (xi_le_s (xi_le_s (xi_le_s (xi_le_s (xi_le_n (xi_le_n (xi_le_n xi_le_z))))))))))))) (ih _ _ _ _ _ _ _ _ _ h)
              · replace h := (if_neg c88).symm.trans h
                refine xr_ifCond_eq_n i_X2_best_156 c88 (q := 169) t_X2_best_156 (q2 := 159) rfl ?_
                refine xr_iload i_X2_best_159 rfl (q := 161) rfl ?_
                refine xr_iload i_X2_best_161 rfl (q := 163) rfl ?_
                obtain ⟨x84, m83, em83, h⟩ := xi_bI_some h
                refine xr_SI i_X2_best_163 xcse_X2_44 rfl (As := [.int v7, .int x77]) rfl (rest := []) rfl ((cc_X2_best_44 S fb _ _ _).trans em83) (q := 166) rfl ?_
                refine xr_goto i_X2_best_166 (q := 171) t_X2_best_166 ?_
                refine xr_istore i_X2_best_171 rfl (L2 := [some (.ref v0), some (.ref v1), some (.int v2), some (.int v3), none, none, some (.int v6), some (.int x84), some (.int v8), some (.int v9), some (.int (v9 / (Int32.ofInt 2))), some (.int (Int32.ofInt 0)), some (.int x77)]) rfl (q := 173) rfl ?_
                refine xr_iload i_X2_best_173 rfl (q := 175) rfl ?_
                by_cases c87 : v6 = 0
                · replace h := (if_pos c87).symm.trans h
                  refine xr_ifCond_eq_p i_X2_best_175 c87 (q := 183) t_X2_best_175 (q2 := 178) rfl ?_
                  refine xr_iload i_X2_best_183 rfl (q := 185) rfl ?_
                  refine xr_iload i_X2_best_185 rfl (q := 187) rfl ?_
                  obtain ⟨x86, m85, em85, h⟩ := xi_bI_some h
                  refine xr_SI i_X2_best_187 xcse_X2_24 rfl (As := [.int v8, .int x77]) rfl (rest := []) rfl ((cc_X2_best_24 S fb _ _ _).trans em85) (q := 190) rfl ?_
                  refine xr_istore i_X2_best_190 rfl (L2 := [some (.ref v0), some (.ref v1), some (.int v2), some (.int v3), none, none, some (.int v6), some (.int x84), some (.int x86), some (.int v9), some (.int (v9 / (Int32.ofInt 2))), some (.int (Int32.ofInt 0)), some (.int x77)]) rfl (q := 192) rfl ?_
                  refine xr_iinc i_X2_best_192 rfl rfl (L2 := [some (.ref v0), some (.ref v1), some (.int v2), some (.int v3), none, none, some (.int v6), some (.int x84), some (.int x86), some (.int (v9 + Int32.ofInt 1)), some (.int (v9 / (Int32.ofInt 2))), some (.int (Int32.ofInt 0)), some (.int x77)]) rfl (q := 195) rfl ?_
                  refine xr_goto i_X2_best_195 (q := 53) t_X2_best_195 ?_
                  exact xi_X_le (xi_le_s (xi_le_s (xi_le_s (xi_le_s (xi_le_n (xi_le_n (xi_le_s (xi_le_s (xi_le_s (xi_le_s (xi_le_n (xi_le_n (xi_le_n xi_le_z))))))))))))) (ih _ _ _ _ _ _ _ _ _ h)
                · replace h := (if_neg c87).symm.trans h
                  refine xr_ifCond_eq_n i_X2_best_175 c87 (q := 183) t_X2_best_175 (q2 := 178) rfl ?_
                  refine xr_iload i_X2_best_178 rfl (q := 180) rfl ?_
                  refine xr_goto i_X2_best_180 (q := 190) t_X2_best_180 ?_
                  refine xr_istore i_X2_best_190 rfl (L2 := [some (.ref v0), some (.ref v1), some (.int v2), some (.int v3), none, none, some (.int v6), some (.int x84), some (.int v8), some (.int v9), some (.int (v9 / (Int32.ofInt 2))), some (.int (Int32.ofInt 0)), some (.int x77)]) rfl (q := 192) rfl ?_
                  refine xr_iinc i_X2_best_192 rfl rfl (L2 := [some (.ref v0), some (.ref v1), some (.int v2), some (.int v3), none, none, some (.int v6), some (.int x84), some (.int v8), some (.int (v9 + Int32.ofInt 1)), some (.int (v9 / (Int32.ofInt 2))), some (.int (Int32.ofInt 0)), some (.int x77)]) rfl (q := 195) rfl ?_
                  refine xr_goto i_X2_best_195 (q := 53) t_X2_best_195 ?_
                  exact xi_X_le (xi_le_s (xi_le_s (xi_le_s (xi_le_s (xi_le_n (xi_le_n (xi_le_s (xi_le_s (xi_le_s (xi_le_s (xi_le_n (xi_le_n (xi_le_n xi_le_z))))))))))))) (ih _ _ _ _ _ _ _ _ _ h)
            · replace h := (if_neg c107).symm.trans h
              refine xr_ifCond_eq_n i_X2_best_107 c107 (q := 121) t_X2_best_107 (q2 := 110) rfl ?_
              refine xr_aload_n i_X2_best_110 rfl (q := 111) rfl ?_
              refine xr_iload i_X2_best_111 rfl (q := 113) rfl ?_
              refine xr_iload i_X2_best_113 rfl (q := 115) rfl ?_
              obtain ⟨x90, m89, em89, h⟩ := xi_bI_some h
              refine xr_SI i_X2_best_115 xcse_X2_40 rfl (As := [.ref v1, .int (v9 / (Int32.ofInt 2)), .int (Int32.ofInt 0)]) rfl (rest := []) rfl ((cc_X2_best_40 S fb _ _ _ _).trans em89) (q := 118) rfl ?_
              by_cases c106 : x90 = 0
              · replace h := (if_pos c106).symm.trans h
                refine xr_ifCond_eq_p i_X2_best_118 c106 (q := 192) t_X2_best_118 (q2 := 121) rfl ?_
                refine xr_iinc i_X2_best_192 rfl rfl (L2 := [some (.ref v0), some (.ref v1), some (.int v2), some (.int v3), none, none, some (.int v6), some (.int v7), some (.int v8), some (.int (v9 + Int32.ofInt 1)), some (.int (v9 / (Int32.ofInt 2))), some (.int (Int32.ofInt 0)), none]) rfl (q := 195) rfl ?_
                refine xr_goto i_X2_best_195 (q := 53) t_X2_best_195 ?_
                exact xi_X_le (xi_le_s (xi_le_s (xi_le_s (xi_le_s (xi_le_n (xi_le_n (xi_le_s (xi_le_s (xi_le_s (xi_le_s (xi_le_n (xi_le_n (xi_le_n xi_le_z))))))))))))) (ih _ _ _ _ _ _ _ _ _ h)
              · replace h := (if_neg c106).symm.trans h
                refine xr_ifCond_eq_n i_X2_best_118 c106 (q := 192) t_X2_best_118 (q2 := 121) rfl ?_
                refine xr_aload_n i_X2_best_121 rfl (q := 122) rfl ?_
                refine xr_iload i_X2_best_122 rfl (q := 124) rfl ?_
                refine xr_dup2 i_X2_best_124 (q := 125) rfl ?_
                obtain ⟨c91, h⟩ := xi_if_some h
                refine xr_iaload i_X2_best_125 c91 (q := 126) rfl ?_
                refine xr_iload i_X2_best_126 rfl (q := 128) rfl ?_
                refine xr_iadd i_X2_best_128 (q := 129) rfl ?_
                obtain ⟨c92, h⟩ := xi_if_some h
                refine xr_iastore i_X2_best_129 c92 (q := 130) rfl ?_
                refine xr_aload_n i_X2_best_130 rfl (q := 131) rfl ?_
                refine xr_aload_n i_X2_best_131 rfl (q := 132) rfl ?_
                refine xr_iload_n i_X2_best_132 rfl (q := 133) rfl ?_
                refine xr_iload_n i_X2_best_133 rfl (q := 134) rfl ?_
                refine xr_iconst i_X2_best_134 (q := 135) rfl ?_
                refine xr_iadd i_X2_best_135 (q := 136) rfl ?_
                refine xr_iload i_X2_best_136 rfl (q := 138) rfl ?_
                refine xr_iload i_X2_best_138 rfl (q := 140) rfl ?_
                obtain ⟨x94, m93, em93, h⟩ := xi_bI_some h
                refine xr_SI i_X2_best_140 xcse_X2_30 rfl (As := [.ref v0, .ref v1, .int v2, .int (v3 + (Int32.ofInt 1)), .int v7, .int v8]) rfl (rest := []) rfl ((cc_X2_best_30 S fb _ _ _ _ _ _ _).trans em93) (q := 143) rfl ?_
                refine xr_istore i_X2_best_143 rfl (L2 := [some (.ref v0), some (.ref v1), some (.int v2), some (.int v3), none, none, some (.int v6), some (.int v7), some (.int v8), some (.int v9), some (.int (v9 / (Int32.ofInt 2))), some (.int (Int32.ofInt 0)), some (.int x94)]) rfl (q := 145) rfl ?_
                refine xr_aload_n i_X2_best_145 rfl (q := 146) rfl ?_
                refine xr_iload i_X2_best_146 rfl (q := 148) rfl ?_
                refine xr_dup2 i_X2_best_148 (q := 149) rfl ?_
                obtain ⟨c95, h⟩ := xi_if_some h
                refine xr_iaload i_X2_best_149 c95 (q := 150) rfl ?_
                refine xr_iload i_X2_best_150 rfl (q := 152) rfl ?_
                refine xr_isub i_X2_best_152 (q := 153) rfl ?_
                obtain ⟨c96, h⟩ := xi_if_some h
                refine xr_iastore i_X2_best_153 c96 (q := 154) rfl ?_
                refine xr_iload i_X2_best_154 rfl (q := 156) rfl ?_
                by_cases c105 : v6 = 0
                · replace h := (if_pos c105).symm.trans h
                  refine xr_ifCond_eq_p i_X2_best_156 c105 (q := 169) t_X2_best_156 (q2 := 159) rfl ?_
                  refine xr_iload i_X2_best_169 rfl (q := 171) rfl ?_
                  refine xr_istore i_X2_best_171 rfl (L2 := [some (.ref v0), some (.ref v1), some (.int v2), some (.int v3), none, none, some (.int v6), some (.int v7), some (.int v8), some (.int v9), some (.int (v9 / (Int32.ofInt 2))), some (.int (Int32.ofInt 0)), some (.int x94)]) rfl (q := 173) rfl ?_
                  refine xr_iload i_X2_best_173 rfl (q := 175) rfl ?_
                  by_cases c99 : v6 = 0
                  · replace h := (if_pos c99).symm.trans h
                    refine xr_ifCond_eq_p i_X2_best_175 c99 (q := 183) t_X2_best_175 (q2 := 178) rfl ?_
                    refine xr_iload i_X2_best_183 rfl (q := 185) rfl ?_
                    refine xr_iload i_X2_best_185 rfl (q := 187) rfl ?_
                    obtain ⟨x98, m97, em97, h⟩ := xi_bI_some h
                    refine xr_SI i_X2_best_187 xcse_X2_24 rfl (As := [.int v8, .int x94]) rfl (rest := []) rfl ((cc_X2_best_24 S fb _ _ _).trans em97) (q := 190) rfl ?_
                    refine xr_istore i_X2_best_190 rfl (L2 := [some (.ref v0), some (.ref v1), some (.int v2), some (.int v3), none, none, some (.int v6), some (.int v7), some (.int x98), some (.int v9), some (.int (v9 / (Int32.ofInt 2))), some (.int (Int32.ofInt 0)), some (.int x94)]) rfl (q := 192) rfl ?_
                    refine xr_iinc i_X2_best_192 rfl rfl (L2 := [some (.ref v0), some (.ref v1), some (.int v2), some (.int v3), none, none, some (.int v6), some (.int v7), some (.int x98), some (.int (v9 + Int32.ofInt 1)), some (.int (v9 / (Int32.ofInt 2))), some (.int (Int32.ofInt 0)), some (.int x94)]) rfl (q := 195) rfl ?_
                    refine xr_goto i_X2_best_195 (q := 53) t_X2_best_195 ?_
                    exact xi_X_le (xi_le_s (xi_le_s (xi_le_s (xi_le_s (xi_le_n (xi_le_n (xi_le_s (xi_le_s (xi_le_s (xi_le_s (xi_le_n (xi_le_n (xi_le_n xi_le_z))))))))))))) (ih _ _ _ _ _ _ _ _ _ h)
                  · replace h := (if_neg c99).symm.trans h
                    refine xr_ifCond_eq_n i_X2_best_175 c99 (q := 183) t_X2_best_175 (q2 := 178) rfl ?_
                    refine xr_iload i_X2_best_178 rfl (q := 180) rfl ?_
                    refine xr_goto i_X2_best_180 (q := 190) t_X2_best_180 ?_
                    refine xr_istore i_X2_best_190 rfl (L2 := [some (.ref v0), some (.ref v1), some (.int v2), some (.int v3), none, none, some (.int v6), some (.int v7), some (.int v8), some (.int v9), some (.int (v9 / (Int32.ofInt 2))), some (.int (Int32.ofInt 0)), some (.int x94)]) rfl (q := 192) rfl ?_
                    refine xr_iinc i_X2_best_192 rfl rfl (L2 := [some (.ref v0), some (.ref v1), some (.int v2), some (.int v3), none, none, some (.int v6), some (.int v7), some (.int v8), some (.int (v9 + Int32.ofInt 1)), some (.int (v9 / (Int32.ofInt 2))), some (.int (Int32.ofInt 0)), some (.int x94)]) rfl (q := 195) rfl ?_
                    refine xr_goto i_X2_best_195 (q := 53) t_X2_best_195 ?_
                    exact xi_X_le (xi_le_s (xi_le_s (xi_le_s (xi_le_s (xi_le_n (xi_le_n (xi_le_s (xi_le_s (xi_le_s (xi_le_s (xi_le_n (xi_le_n (xi_le_n xi_le_z))))))))))))) (ih _ _ _ _ _ _ _ _ _ h)
                · replace h := (if_neg c105).symm.trans h
                  refine xr_ifCond_eq_n i_X2_best_156 c105 (q := 169) t_X2_best_156 (q2 := 159) rfl ?_
                  refine xr_iload i_X2_best_159 rfl (q := 161) rfl ?_
                  refine xr_iload i_X2_best_161 rfl (q := 163) rfl ?_
                  obtain ⟨x101, m100, em100, h⟩ := xi_bI_some h
                  refine xr_SI i_X2_best_163 xcse_X2_44 rfl (As := [.int v7, .int x94]) rfl (rest := []) rfl ((cc_X2_best_44 S fb _ _ _).trans em100) (q := 166) rfl ?_
                  refine xr_goto i_X2_best_166 (q := 171) t_X2_best_166 ?_
                  refine xr_istore i_X2_best_171 rfl (L2 := [some (.ref v0), some (.ref v1), some (.int v2), some (.int v3), none, none, some (.int v6), some (.int x101), some (.int v8), some (.int v9), some (.int (v9 / (Int32.ofInt 2))), some (.int (Int32.ofInt 0)), some (.int x94)]) rfl (q := 173) rfl ?_
                  refine xr_iload i_X2_best_173 rfl (q := 175) rfl ?_
                  by_cases c104 : v6 = 0
                  · replace h := (if_pos c104).symm.trans h
                    refine xr_ifCond_eq_p i_X2_best_175 c104 (q := 183) t_X2_best_175 (q2 := 178) rfl ?_
                    refine xr_iload i_X2_best_183 rfl (q := 185) rfl ?_
                    refine xr_iload i_X2_best_185 rfl (q := 187) rfl ?_
                    obtain ⟨x103, m102, em102, h⟩ := xi_bI_some h
                    refine xr_SI i_X2_best_187 xcse_X2_24 rfl (As := [.int v8, .int x94]) rfl (rest := []) rfl ((cc_X2_best_24 S fb _ _ _).trans em102) (q := 190) rfl ?_
                    refine xr_istore i_X2_best_190 rfl (L2 := [some (.ref v0), some (.ref v1), some (.int v2), some (.int v3), none, none, some (.int v6), some (.int x101), some (.int x103), some (.int v9), some (.int (v9 / (Int32.ofInt 2))), some (.int (Int32.ofInt 0)), some (.int x94)]) rfl (q := 192) rfl ?_
                    refine xr_iinc i_X2_best_192 rfl rfl (L2 := [some (.ref v0), some (.ref v1), some (.int v2), some (.int v3), none, none, some (.int v6), some (.int x101), some (.int x103), some (.int (v9 + Int32.ofInt 1)), some (.int (v9 / (Int32.ofInt 2))), some (.int (Int32.ofInt 0)), some (.int x94)]) rfl (q := 195) rfl ?_
                    refine xr_goto i_X2_best_195 (q := 53) t_X2_best_195 ?_
                    exact xi_X_le (xi_le_s (xi_le_s (xi_le_s (xi_le_s (xi_le_n (xi_le_n (xi_le_s (xi_le_s (xi_le_s (xi_le_s (xi_le_n (xi_le_n (xi_le_n xi_le_z))))))))))))) (ih _ _ _ _ _ _ _ _ _ h)
                  · replace h := (if_neg c104).symm.trans h
                    refine xr_ifCond_eq_n i_X2_best_175 c104 (q := 183) t_X2_best_175 (q2 := 178) rfl ?_
                    refine xr_iload i_X2_best_178 rfl (q := 180) rfl ?_
                    refine xr_goto i_X2_best_180 (q := 190) t_X2_best_180 ?_
                    refine xr_istore i_X2_best_190 rfl (L2 := [some (.ref v0), some (.ref v1), some (.int v2), some (.int v3), none, none, some (.int v6), some (.int x101), some (.int v8), some (.int v9), some (.int (v9 / (Int32.ofInt 2))), some (.int (Int32.ofInt 0)), some (.int x94)]) rfl (q := 192) rfl ?_
                    refine xr_iinc i_X2_best_192 rfl rfl (L2 := [some (.ref v0), some (.ref v1), some (.int v2), some (.int v3), none, none, some (.int v6), some (.int x101), some (.int v8), some (.int (v9 + Int32.ofInt 1)), some (.int (v9 / (Int32.ofInt 2))), some (.int (Int32.ofInt 0)), some (.int x94)]) rfl (q := 195) rfl ?_
                    refine xr_goto i_X2_best_195 (q := 53) t_X2_best_195 ?_
                    exact xi_X_le (xi_le_s (xi_le_s (xi_le_s (xi_le_s (xi_le_n (xi_le_n (xi_le_s (xi_le_s (xi_le_s (xi_le_s (xi_le_n (xi_le_n (xi_le_n xi_le_z))))))))))))) (ih _ _ _ _ _ _ _ _ _ h)
          · replace h := (if_neg c143).symm.trans h
            refine xr_if_icmp_ge_n i_X2_best_88 c143 (q := 102) t_X2_best_88 (q2 := 91) rfl ?_
            refine xr_iload i_X2_best_91 rfl (q := 93) rfl ?_
            refine xr_iconst i_X2_best_93 (q := 94) rfl ?_
            obtain ⟨c108, h⟩ := xi_ifn_some h
            refine xr_irem i_X2_best_94 c108 (q := 95) rfl ?_
            refine xr_iconst i_X2_best_95 (q := 96) rfl ?_
            refine xr_imul i_X2_best_96 (q := 97) rfl ?_
            refine xr_iconst i_X2_best_97 (q := 98) rfl ?_
            refine xr_isub i_X2_best_98 (q := 99) rfl ?_
            refine xr_goto i_X2_best_99 (q := 103) t_X2_best_99 ?_
            refine xr_istore i_X2_best_103 rfl (L2 := [some (.ref v0), some (.ref v1), some (.int v2), some (.int v3), none, none, some (.int v6), some (.int v7), some (.int v8), some (.int v9), some (.int (v9 / (Int32.ofInt 2))), some (.int (((v9 - v9 / (Int32.ofInt 2) * (Int32.ofInt 2)) * (Int32.ofInt 2)) - (Int32.ofInt 1))), none]) rfl (q := 105) rfl ?_
            refine xr_iload i_X2_best_105 rfl (q := 107) rfl ?_
            by_cases c142 : (((v9 - v9 / (Int32.ofInt 2) * (Int32.ofInt 2)) * (Int32.ofInt 2)) - (Int32.ofInt 1)) = 0
            · replace h := (if_pos c142).symm.trans h
              refine xr_ifCond_eq_p i_X2_best_107 c142 (q := 121) t_X2_best_107 (q2 := 110) rfl ?_
              refine xr_aload_n i_X2_best_121 rfl (q := 122) rfl ?_
              refine xr_iload i_X2_best_122 rfl (q := 124) rfl ?_
              refine xr_dup2 i_X2_best_124 (q := 125) rfl ?_
              obtain ⟨c109, h⟩ := xi_if_some h
              refine xr_iaload i_X2_best_125 c109 (q := 126) rfl ?_
              refine xr_iload i_X2_best_126 rfl (q := 128) rfl ?_
              refine xr_iadd i_X2_best_128 (q := 129) rfl ?_
              obtain ⟨c110, h⟩ := xi_if_some h
              refine xr_iastore i_X2_best_129 c110 (q := 130) rfl ?_
              refine xr_aload_n i_X2_best_130 rfl (q := 131) rfl ?_
              refine xr_aload_n i_X2_best_131 rfl (q := 132) rfl ?_
              refine xr_iload_n i_X2_best_132 rfl (q := 133) rfl ?_
              refine xr_iload_n i_X2_best_133 rfl (q := 134) rfl ?_
              refine xr_iconst i_X2_best_134 (q := 135) rfl ?_
              refine xr_iadd i_X2_best_135 (q := 136) rfl ?_
              refine xr_iload i_X2_best_136 rfl (q := 138) rfl ?_
              refine xr_iload i_X2_best_138 rfl (q := 140) rfl ?_
              obtain ⟨x112, m111, em111, h⟩ := xi_bI_some h
              refine xr_SI i_X2_best_140 xcse_X2_30 rfl (As := [.ref v0, .ref v1, .int v2, .int (v3 + (Int32.ofInt 1)), .int v7, .int v8]) rfl (rest := []) rfl ((cc_X2_best_30 S fb _ _ _ _ _ _ _).trans em111) (q := 143) rfl ?_
              refine xr_istore i_X2_best_143 rfl (L2 := [some (.ref v0), some (.ref v1), some (.int v2), some (.int v3), none, none, some (.int v6), some (.int v7), some (.int v8), some (.int v9), some (.int (v9 / (Int32.ofInt 2))), some (.int (((v9 - v9 / (Int32.ofInt 2) * (Int32.ofInt 2)) * (Int32.ofInt 2)) - (Int32.ofInt 1))), some (.int x112)]) rfl (q := 145) rfl ?_
              refine xr_aload_n i_X2_best_145 rfl (q := 146) rfl ?_
              refine xr_iload i_X2_best_146 rfl (q := 148) rfl ?_
              refine xr_dup2 i_X2_best_148 (q := 149) rfl ?_
              obtain ⟨c113, h⟩ := xi_if_some h
              refine xr_iaload i_X2_best_149 c113 (q := 150) rfl ?_
              refine xr_iload i_X2_best_150 rfl (q := 152) rfl ?_
              refine xr_isub i_X2_best_152 (q := 153) rfl ?_
              obtain ⟨c114, h⟩ := xi_if_some h
              refine xr_iastore i_X2_best_153 c114 (q := 154) rfl ?_
              refine xr_iload i_X2_best_154 rfl (q := 156) rfl ?_
              by_cases c123 : v6 = 0
              · replace h := (if_pos c123).symm.trans h
                refine xr_ifCond_eq_p i_X2_best_156 c123 (q := 169) t_X2_best_156 (q2 := 159) rfl ?_
                refine xr_iload i_X2_best_169 rfl (q := 171) rfl ?_
                refine xr_istore i_X2_best_171 rfl (L2 := [some (.ref v0), some (.ref v1), some (.int v2), some (.int v3), none, none, some (.int v6), some (.int v7), some (.int v8), some (.int v9), some (.int (v9 / (Int32.ofInt 2))), some (.int (((v9 - v9 / (Int32.ofInt 2) * (Int32.ofInt 2)) * (Int32.ofInt 2)) - (Int32.ofInt 1))), some (.int x112)]) rfl (q := 173) rfl ?_
                refine xr_iload i_X2_best_173 rfl (q := 175) rfl ?_
                by_cases c117 : v6 = 0
                · replace h := (if_pos c117).symm.trans h
                  refine xr_ifCond_eq_p i_X2_best_175 c117 (q := 183) t_X2_best_175 (q2 := 178) rfl ?_
                  refine xr_iload i_X2_best_183 rfl (q := 185) rfl ?_
                  refine xr_iload i_X2_best_185 rfl (q := 187) rfl ?_
                  obtain ⟨x116, m115, em115, h⟩ := xi_bI_some h
                  refine xr_SI i_X2_best_187 xcse_X2_24 rfl (As := [.int v8, .int x112]) rfl (rest := []) rfl ((cc_X2_best_24 S fb _ _ _).trans em115) (q := 190) rfl ?_
                  refine xr_istore i_X2_best_190 rfl (L2 := [some (.ref v0), some (.ref v1), some (.int v2), some (.int v3), none, none, some (.int v6), some (.int v7), some (.int x116), some (.int v9), some (.int (v9 / (Int32.ofInt 2))), some (.int (((v9 - v9 / (Int32.ofInt 2) * (Int32.ofInt 2)) * (Int32.ofInt 2)) - (Int32.ofInt 1))), some (.int x112)]) rfl (q := 192) rfl ?_
                  refine xr_iinc i_X2_best_192 rfl rfl (L2 := [some (.ref v0), some (.ref v1), some (.int v2), some (.int v3), none, none, some (.int v6), some (.int v7), some (.int x116), some (.int (v9 + Int32.ofInt 1)), some (.int (v9 / (Int32.ofInt 2))), some (.int (((v9 - v9 / (Int32.ofInt 2) * (Int32.ofInt 2)) * (Int32.ofInt 2)) - (Int32.ofInt 1))), some (.int x112)]) rfl (q := 195) rfl ?_
                  refine xr_goto i_X2_best_195 (q := 53) t_X2_best_195 ?_
                  exact xi_X_le (xi_le_s (xi_le_s (xi_le_s (xi_le_s (xi_le_n (xi_le_n (xi_le_s (xi_le_s (xi_le_s (xi_le_s (xi_le_n (xi_le_n (xi_le_n xi_le_z))))))))))))) (ih _ _ _ _ _ _ _ _ _ h)
                · replace h := (if_neg c117).symm.trans h
                  refine xr_ifCond_eq_n i_X2_best_175 c117 (q := 183) t_X2_best_175 (q2 := 178) rfl ?_
                  refine xr_iload i_X2_best_178 rfl (q := 180) rfl ?_
                  refine xr_goto i_X2_best_180 (q := 190) t_X2_best_180 ?_
                  refine xr_istore i_X2_best_190 rfl (L2 := [some (.ref v0), some (.ref v1), some (.int v2), some (.int v3), none, none, some (.int v6), some (.int v7), some (.int v8), some (.int v9), some (.int (v9 / (Int32.ofInt 2))), some (.int (((v9 - v9 / (Int32.ofInt 2) * (Int32.ofInt 2)) * (Int32.ofInt 2)) - (Int32.ofInt 1))), some (.int x112)]) rfl (q := 192) rfl ?_
                  refine xr_iinc i_X2_best_192 rfl rfl (L2 := [some (.ref v0), some (.ref v1), some (.int v2), some (.int v3), none, none, some (.int v6), some (.int v7), some (.int v8), some (.int (v9 + Int32.ofInt 1)), some (.int (v9 / (Int32.ofInt 2))), some (.int (((v9 - v9 / (Int32.ofInt 2) * (Int32.ofInt 2)) * (Int32.ofInt 2)) - (Int32.ofInt 1))), some (.int x112)]) rfl (q := 195) rfl ?_
                  refine xr_goto i_X2_best_195 (q := 53) t_X2_best_195 ?_
                  exact xi_X_le (xi_le_s (xi_le_s (xi_le_s (xi_le_s (xi_le_n (xi_le_n (xi_le_s (xi_le_s (xi_le_s (xi_le_s (xi_le_n (xi_le_n (xi_le_n xi_le_z))))))))))))) (ih _ _ _ _ _ _ _ _ _ h)
              · replace h := (if_neg c123).symm.trans h
                refine xr_ifCond_eq_n i_X2_best_156 c123 (q := 169) t_X2_best_156 (q2 := 159) rfl ?_
                refine xr_iload i_X2_best_159 rfl (q := 161) rfl ?_
                refine xr_iload i_X2_best_161 rfl (q := 163) rfl ?_
                obtain ⟨x119, m118, em118, h⟩ := xi_bI_some h
                refine xr_SI i_X2_best_163 xcse_X2_44 rfl (As := [.int v7, .int x112]) rfl (rest := []) rfl ((cc_X2_best_44 S fb _ _ _).trans em118) (q := 166) rfl ?_
                refine xr_goto i_X2_best_166 (q := 171) t_X2_best_166 ?_
                refine xr_istore i_X2_best_171 rfl (L2 := [some (.ref v0), some (.ref v1), some (.int v2), some (.int v3), none, none, some (.int v6), some (.int x119), some (.int v8), some (.int v9), some (.int (v9 / (Int32.ofInt 2))), some (.int (((v9 - v9 / (Int32.ofInt 2) * (Int32.ofInt 2)) * (Int32.ofInt 2)) - (Int32.ofInt 1))), some (.int x112)]) rfl (q := 173) rfl ?_
                refine xr_iload i_X2_best_173 rfl (q := 175) rfl ?_
                by_cases c122 : v6 = 0
                · replace h := (if_pos c122).symm.trans h
                  refine xr_ifCond_eq_p i_X2_best_175 c122 (q := 183) t_X2_best_175 (q2 := 178) rfl ?_
                  refine xr_iload i_X2_best_183 rfl (q := 185) rfl ?_
                  refine xr_iload i_X2_best_185 rfl (q := 187) rfl ?_
                  obtain ⟨x121, m120, em120, h⟩ := xi_bI_some h
                  refine xr_SI i_X2_best_187 xcse_X2_24 rfl (As := [.int v8, .int x112]) rfl (rest := []) rfl ((cc_X2_best_24 S fb _ _ _).trans em120) (q := 190) rfl ?_
                  refine xr_istore i_X2_best_190 rfl (L2 := [some (.ref v0), some (.ref v1), some (.int v2), some (.int v3), none, none, some (.int v6), some (.int x119), some (.int x121), some (.int v9), some (.int (v9 / (Int32.ofInt 2))), some (.int (((v9 - v9 / (Int32.ofInt 2) * (Int32.ofInt 2)) * (Int32.ofInt 2)) - (Int32.ofInt 1))), some (.int x112)]) rfl (q := 192) rfl ?_
                  refine xr_iinc i_X2_best_192 rfl rfl (L2 := [some (.ref v0), some (.ref v1), some (.int v2), some (.int v3), none, none, some (.int v6), some (.int x119), some (.int x121), some (.int (v9 + Int32.ofInt 1)), some (.int (v9 / (Int32.ofInt 2))), some (.int (((v9 - v9 / (Int32.ofInt 2) * (Int32.ofInt 2)) * (Int32.ofInt 2)) - (Int32.ofInt 1))), some (.int x112)]) rfl (q := 195) rfl ?_
                  refine xr_goto i_X2_best_195 (q := 53) t_X2_best_195 ?_
                  exact xi_X_le (xi_le_s (xi_le_s (xi_le_s (xi_le_s (xi_le_n (xi_le_n (xi_le_s (xi_le_s (xi_le_s (xi_le_s (xi_le_n (xi_le_n (xi_le_n xi_le_z))))))))))))) (ih _ _ _ _ _ _ _ _ _ h)
                · replace h := (if_neg c122).symm.trans h
                  refine xr_ifCond_eq_n i_X2_best_175 c122 (q := 183) t_X2_best_175 (q2 := 178) rfl ?_
                  refine xr_iload i_X2_best_178 rfl (q := 180) rfl ?_
                  refine xr_goto i_X2_best_180 (q := 190) t_X2_best_180 ?_
                  refine xr_istore i_X2_best_190 rfl (L2 := [some (.ref v0), some (.ref v1), some (.int v2), some (.int v3), none, none, some (.int v6), some (.int x119), some (.int v8), some (.int v9), some (.int (v9 / (Int32.ofInt 2))), some (.int (((v9 - v9 / (Int32.ofInt 2) * (Int32.ofInt 2)) * (Int32.ofInt 2)) - (Int32.ofInt 1))), some (.int x112)]) rfl (q := 192) rfl ?_
                  refine xr_iinc i_X2_best_192 rfl rfl (L2 := [some (.ref v0), some (.ref v1), some (.int v2), some (.int v3), none, none, some (.int v6), some (.int x119), some (.int v8), some (.int (v9 + Int32.ofInt 1)), some (.int (v9 / (Int32.ofInt 2))), some (.int (((v9 - v9 / (Int32.ofInt 2) * (Int32.ofInt 2)) * (Int32.ofInt 2)) - (Int32.ofInt 1))), some (.int x112)]) rfl (q := 195) rfl ?_
                  refine xr_goto i_X2_best_195 (q := 53) t_X2_best_195 ?_
                  exact xi_X_le (xi_le_s (xi_le_s (xi_le_s (xi_le_s (xi_le_n (xi_le_n (xi_le_s (xi_le_s (xi_le_s (xi_le_s (xi_le_n (xi_le_n (xi_le_n xi_le_z))))))))))))) (ih _ _ _ _ _ _ _ _ _ h)
            · replace h := (if_neg c142).symm.trans h
              refine xr_ifCond_eq_n i_X2_best_107 c142 (q := 121) t_X2_best_107 (q2 := 110) rfl ?_
              refine xr_aload_n i_X2_best_110 rfl (q := 111) rfl ?_
              refine xr_iload i_X2_best_111 rfl (q := 113) rfl ?_
              refine xr_iload i_X2_best_113 rfl (q := 115) rfl ?_
              obtain ⟨x125, m124, em124, h⟩ := xi_bI_some h
              refine xr_SI i_X2_best_115 xcse_X2_40 rfl (As := [.ref v1, .int (v9 / (Int32.ofInt 2)), .int (((v9 - v9 / (Int32.ofInt 2) * (Int32.ofInt 2)) * (Int32.ofInt 2)) - (Int32.ofInt 1))]) rfl (rest := []) rfl ((cc_X2_best_40 S fb _ _ _ _).trans em124) (q := 118) rfl ?_
              by_cases c141 : x125 = 0
              · replace h := (if_pos c141).symm.trans h
                refine xr_ifCond_eq_p i_X2_best_118 c141 (q := 192) t_X2_best_118 (q2 := 121) rfl ?_
                refine xr_iinc i_X2_best_192 rfl rfl (L2 := [some (.ref v0), some (.ref v1), some (.int v2), some (.int v3), none, none, some (.int v6), some (.int v7), some (.int v8), some (.int (v9 + Int32.ofInt 1)), some (.int (v9 / (Int32.ofInt 2))), some (.int (((v9 - v9 / (Int32.ofInt 2) * (Int32.ofInt 2)) * (Int32.ofInt 2)) - (Int32.ofInt 1))), none]) rfl (q := 195) rfl ?_
                refine xr_goto i_X2_best_195 (q := 53) t_X2_best_195 ?_
                exact xi_X_le (xi_le_s (xi_le_s (xi_le_s (xi_le_s (xi_le_n (xi_le_n (xi_le_s (xi_le_s (xi_le_s (xi_le_s (xi_le_n (xi_le_n (xi_le_n xi_le_z))))))))))))) (ih _ _ _ _ _ _ _ _ _ h)
              · replace h := (if_neg c141).symm.trans h
                refine xr_ifCond_eq_n i_X2_best_118 c141 (q := 192) t_X2_best_118 (q2 := 121) rfl ?_
                refine xr_aload_n i_X2_best_121 rfl (q := 122) rfl ?_
                refine xr_iload i_X2_best_122 rfl (q := 124) rfl ?_
                refine xr_dup2 i_X2_best_124 (q := 125) rfl ?_
                obtain ⟨c126, h⟩ := xi_if_some h
                refine xr_iaload i_X2_best_125 c126 (q := 126) rfl ?_
                refine xr_iload i_X2_best_126 rfl (q := 128) rfl ?_
                refine xr_iadd i_X2_best_128 (q := 129) rfl ?_
                obtain ⟨c127, h⟩ := xi_if_some h
                refine xr_iastore i_X2_best_129 c127 (q := 130) rfl ?_
                refine xr_aload_n i_X2_best_130 rfl (q := 131) rfl ?_
                refine xr_aload_n i_X2_best_131 rfl (q := 132) rfl ?_
                refine xr_iload_n i_X2_best_132 rfl (q := 133) rfl ?_
                refine xr_iload_n i_X2_best_133 rfl (q := 134) rfl ?_
                refine xr_iconst i_X2_best_134 (q := 135) rfl ?_
                refine xr_iadd i_X2_best_135 (q := 136) rfl ?_
                refine xr_iload i_X2_best_136 rfl (q := 138) rfl ?_
                refine xr_iload i_X2_best_138 rfl (q := 140) rfl ?_
                obtain ⟨x129, m128, em128, h⟩ := xi_bI_some h
                refine xr_SI i_X2_best_140 xcse_X2_30 rfl (As := [.ref v0, .ref v1, .int v2, .int (v3 + (Int32.ofInt 1)), .int v7, .int v8]) rfl (rest := []) rfl ((cc_X2_best_30 S fb _ _ _ _ _ _ _).trans em128) (q := 143) rfl ?_
                refine xr_istore i_X2_best_143 rfl (L2 := [some (.ref v0), some (.ref v1), some (.int v2), some (.int v3), none, none, some (.int v6), some (.int v7), some (.int v8), some (.int v9), some (.int (v9 / (Int32.ofInt 2))), some (.int (((v9 - v9 / (Int32.ofInt 2) * (Int32.ofInt 2)) * (Int32.ofInt 2)) - (Int32.ofInt 1))), some (.int x129)]) rfl (q := 145) rfl ?_
                refine xr_aload_n i_X2_best_145 rfl (q := 146) rfl ?_
                refine xr_iload i_X2_best_146 rfl (q := 148) rfl ?_
                refine xr_dup2 i_X2_best_148 (q := 149) rfl ?_
                obtain ⟨c130, h⟩ := xi_if_some h
                refine xr_iaload i_X2_best_149 c130 (q := 150) rfl ?_
                refine xr_iload i_X2_best_150 rfl (q := 152) rfl ?_
                refine xr_isub i_X2_best_152 (q := 153) rfl ?_
                obtain ⟨c131, h⟩ := xi_if_some h
                refine xr_iastore i_X2_best_153 c131 (q := 154) rfl ?_
                refine xr_iload i_X2_best_154 rfl (q := 156) rfl ?_
                by_cases c140 : v6 = 0
                · replace h := (if_pos c140).symm.trans h
                  refine xr_ifCond_eq_p i_X2_best_156 c140 (q := 169) t_X2_best_156 (q2 := 159) rfl ?_
                  refine xr_iload i_X2_best_169 rfl (q := 171) rfl ?_
                  refine xr_istore i_X2_best_171 rfl (L2 := [some (.ref v0), some (.ref v1), some (.int v2), some (.int v3), none, none, some (.int v6), some (.int v7), some (.int v8), some (.int v9), some (.int (v9 / (Int32.ofInt 2))), some (.int (((v9 - v9 / (Int32.ofInt 2) * (Int32.ofInt 2)) * (Int32.ofInt 2)) - (Int32.ofInt 1))), some (.int x129)]) rfl (q := 173) rfl ?_
                  refine xr_iload i_X2_best_173 rfl (q := 175) rfl ?_
                  by_cases c134 : v6 = 0
                  · replace h := (if_pos c134).symm.trans h
                    refine xr_ifCond_eq_p i_X2_best_175 c134 (q := 183) t_X2_best_175 (q2 := 178) rfl ?_
                    refine xr_iload i_X2_best_183 rfl (q := 185) rfl ?_
                    refine xr_iload i_X2_best_185 rfl (q := 187) rfl ?_
                    obtain ⟨x133, m132, em132, h⟩ := xi_bI_some h
                    refine xr_SI i_X2_best_187 xcse_X2_24 rfl (As := [.int v8, .int x129]) rfl (rest := []) rfl ((cc_X2_best_24 S fb _ _ _).trans em132) (q := 190) rfl ?_
                    refine xr_istore i_X2_best_190 rfl (L2 := [some (.ref v0), some (.ref v1), some (.int v2), some (.int v3), none, none, some (.int v6), some (.int v7), some (.int x133), some (.int v9), some (.int (v9 / (Int32.ofInt 2))), some (.int (((v9 - v9 / (Int32.ofInt 2) * (Int32.ofInt 2)) * (Int32.ofInt 2)) - (Int32.ofInt 1))), some (.int x129)]) rfl (q := 192) rfl ?_
                    refine xr_iinc i_X2_best_192 rfl rfl (L2 := [some (.ref v0), some (.ref v1), some (.int v2), some (.int v3), none, none, some (.int v6), some (.int v7), some (.int x133), some (.int (v9 + Int32.ofInt 1)), some (.int (v9 / (Int32.ofInt 2))), some (.int (((v9 - v9 / (Int32.ofInt 2) * (Int32.ofInt 2)) * (Int32.ofInt 2)) - (Int32.ofInt 1))), some (.int x129)]) rfl (q := 195) rfl ?_
                    refine xr_goto i_X2_best_195 (q := 53) t_X2_best_195 ?_
                    exact xi_X_le (xi_le_s (xi_le_s (xi_le_s (xi_le_s (xi_le_n (xi_le_n (xi_le_s (xi_le_s (xi_le_s (xi_le_s (xi_le_n (xi_le_n (xi_le_n xi_le_z))))))))))))) (ih _ _ _ _ _ _ _ _ _ h)
                  · replace h := (if_neg c134).symm.trans h
                    refine xr_ifCond_eq_n i_X2_best_175 c134 (q := 183) t_X2_best_175 (q2 := 178) rfl ?_
                    refine xr_iload i_X2_best_178 rfl (q := 180) rfl ?_
                    refine xr_goto i_X2_best_180 (q := 190) t_X2_best_180 ?_
                    refine xr_istore i_X2_best_190 rfl (L2 := [some (.ref v0), some (.ref v1), some (.int v2), some (.int v3), none, none, some (.int v6), some (.int v7), some (.int v8), some (.int v9), some (.int (v9 / (Int32.ofInt 2))), some (.int (((v9 - v9 / (Int32.ofInt 2) * (Int32.ofInt 2)) * (Int32.ofInt 2)) - (Int32.ofInt 1))), some (.int x129)]) rfl (q := 192) rfl ?_
                    refine xr_iinc i_X2_best_192 rfl rfl (L2 := [some (.ref v0), some (.ref v1), some (.int v2), some (.int v3), none, none, some (.int v6), some (.int v7), some (.int v8), some (.int (v9 + Int32.ofInt 1)), some (.int (v9 / (Int32.ofInt 2))), some (.int (((v9 - v9 / (Int32.ofInt 2) * (Int32.ofInt 2)) * (Int32.ofInt 2)) - (Int32.ofInt 1))), some (.int x129)]) rfl (q := 195) rfl ?_
                    refine xr_goto i_X2_best_195 (q := 53) t_X2_best_195 ?_
                    exact xi_X_le (xi_le_s (xi_le_s (xi_le_s (xi_le_s (xi_le_n (xi_le_n (xi_le_s (xi_le_s (xi_le_s (xi_le_s (xi_le_n (xi_le_n (xi_le_n xi_le_z))))))))))))) (ih _ _ _ _ _ _ _ _ _ h)
                · replace h := (if_neg c140).symm.trans h
                  refine xr_ifCond_eq_n i_X2_best_156 c140 (q := 169) t_X2_best_156 (q2 := 159) rfl ?_
                  refine xr_iload i_X2_best_159 rfl (q := 161) rfl ?_
                  refine xr_iload i_X2_best_161 rfl (q := 163) rfl ?_
                  obtain ⟨x136, m135, em135, h⟩ := xi_bI_some h
                  refine xr_SI i_X2_best_163 xcse_X2_44 rfl (As := [.int v7, .int x129]) rfl (rest := []) rfl ((cc_X2_best_44 S fb _ _ _).trans em135) (q := 166) rfl ?_
                  refine xr_goto i_X2_best_166 (q := 171) t_X2_best_166 ?_
                  refine xr_istore i_X2_best_171 rfl (L2 := [some (.ref v0), some (.ref v1), some (.int v2), some (.int v3), none, none, some (.int v6), some (.int x136), some (.int v8), some (.int v9), some (.int (v9 / (Int32.ofInt 2))), some (.int (((v9 - v9 / (Int32.ofInt 2) * (Int32.ofInt 2)) * (Int32.ofInt 2)) - (Int32.ofInt 1))), some (.int x129)]) rfl (q := 173) rfl ?_
                  refine xr_iload i_X2_best_173 rfl (q := 175) rfl ?_
                  by_cases c139 : v6 = 0
                  · replace h := (if_pos c139).symm.trans h
                    refine xr_ifCond_eq_p i_X2_best_175 c139 (q := 183) t_X2_best_175 (q2 := 178) rfl ?_
                    refine xr_iload i_X2_best_183 rfl (q := 185) rfl ?_
                    refine xr_iload i_X2_best_185 rfl (q := 187) rfl ?_
                    obtain ⟨x138, m137, em137, h⟩ := xi_bI_some h
                    refine xr_SI i_X2_best_187 xcse_X2_24 rfl (As := [.int v8, .int x129]) rfl (rest := []) rfl ((cc_X2_best_24 S fb _ _ _).trans em137) (q := 190) rfl ?_
                    refine xr_istore i_X2_best_190 rfl (L2 := [some (.ref v0), some (.ref v1), some (.int v2), some (.int v3), none, none, some (.int v6), some (.int x136), some (.int x138), some (.int v9), some (.int (v9 / (Int32.ofInt 2))), some (.int (((v9 - v9 / (Int32.ofInt 2) * (Int32.ofInt 2)) * (Int32.ofInt 2)) - (Int32.ofInt 1))), some (.int x129)]) rfl (q := 192) rfl ?_
                    refine xr_iinc i_X2_best_192 rfl rfl (L2 := [some (.ref v0), some (.ref v1), some (.int v2), some (.int v3), none, none, some (.int v6), some (.int x136), some (.int x138), some (.int (v9 + Int32.ofInt 1)), some (.int (v9 / (Int32.ofInt 2))), some (.int (((v9 - v9 / (Int32.ofInt 2) * (Int32.ofInt 2)) * (Int32.ofInt 2)) - (Int32.ofInt 1))), some (.int x129)]) rfl (q := 195) rfl ?_
                    refine xr_goto i_X2_best_195 (q := 53) t_X2_best_195 ?_
                    exact xi_X_le (xi_le_s (xi_le_s (xi_le_s (xi_le_s (xi_le_n (xi_le_n (xi_le_s (xi_le_s (xi_le_s (xi_le_s (xi_le_n (xi_le_n (xi_le_n xi_le_z))))))))))))) (ih _ _ _ _ _ _ _ _ _ h)
                  · replace h := (if_neg c139).symm.trans h
                    refine xr_ifCond_eq_n i_X2_best_175 c139 (q := 183) t_X2_best_175 (q2 := 178) rfl ?_
                    refine xr_iload i_X2_best_178 rfl (q := 180) rfl ?_
                    refine xr_goto i_X2_best_180 (q := 190) t_X2_best_180 ?_
                    refine xr_istore i_X2_best_190 rfl (L2 := [some (.ref v0), some (.ref v1), some (.int v2), some (.int v3), none, none, some (.int v6), some (.int x136), some (.int v8), some (.int v9), some (.int (v9 / (Int32.ofInt 2))), some (.int (((v9 - v9 / (Int32.ofInt 2) * (Int32.ofInt 2)) * (Int32.ofInt 2)) - (Int32.ofInt 1))), some (.int x129)]) rfl (q := 192) rfl ?_
                    refine xr_iinc i_X2_best_192 rfl rfl (L2 := [some (.ref v0), some (.ref v1), some (.int v2), some (.int v3), none, none, some (.int v6), some (.int x136), some (.int v8), some (.int (v9 + Int32.ofInt 1)), some (.int (v9 / (Int32.ofInt 2))), some (.int (((v9 - v9 / (Int32.ofInt 2) * (Int32.ofInt 2)) * (Int32.ofInt 2)) - (Int32.ofInt 1))), some (.int x129)]) rfl (q := 195) rfl ?_
                    refine xr_goto i_X2_best_195 (q := 53) t_X2_best_195 ?_
                    exact xi_X_le (xi_le_s (xi_le_s (xi_le_s (xi_le_s (xi_le_n (xi_le_n (xi_le_s (xi_le_s (xi_le_s (xi_le_s (xi_le_n (xi_le_n (xi_le_n xi_le_z))))))))))))) (ih _ _ _ _ _ _ _ _ _ h)
def Eb_X2_best (S : xi_S) (fb : xi_F) (v0 : Nat) (v1 : Nat) (v2 : Int32) (v3 : Int32) (v4 : Int32) (v5 : Int32) (m : xi_M) : Option xi_R :=
  if v3 < v2 then
    if (Int32.ofInt 2) = 0 then none else
    if (v3 - v3 / (Int32.ofInt 2) * (Int32.ofInt 2)) = 0 then
      G_X2_best_53 S fb 10000 v0 v1 v2 v3 (Int32.ofInt 1) v4 v5 (Int32.ofInt 0) m
    else
      G_X2_best_53 S fb 10000 v0 v1 v2 v3 (Int32.ofInt 0) v4 v5 (Int32.ofInt 0) m
  else
    if S.1 v1 = 0 ∧ ¬ ((Int32.ofInt 2) < 0 ∨ S.2.1 v1 ≤ Int32.toNatClampNeg (Int32.ofInt 2)) then
      if S.1 v1 = 0 ∧ ¬ ((Int32.ofInt 3) < 0 ∨ S.2.1 v1 ≤ Int32.toNatClampNeg (Int32.ofInt 3)) then
        xi_bI (if S.1 v0 = 4 then E_X1_goalsAt S v0 (Int32.ofInt 1) (m.1 v1 (Int32.toNatClampNeg (Int32.ofInt 2))) (m.1 v1 (Int32.toNatClampNeg (Int32.ofInt 3))) m else none) fun x6 m5 =>
        if S.1 v1 = 0 ∧ ¬ ((Int32.ofInt 0) < 0 ∨ S.2.1 v1 ≤ Int32.toNatClampNeg (Int32.ofInt 0)) then
          if S.1 v1 = 0 ∧ ¬ ((Int32.ofInt 1) < 0 ∨ S.2.1 v1 ≤ Int32.toNatClampNeg (Int32.ofInt 1)) then
            xi_bI (if S.1 v0 = 4 then E_X1_goalsAt S v0 (Int32.ofInt 0) (m5.1 v1 (Int32.toNatClampNeg (Int32.ofInt 0))) (m5.1 v1 (Int32.toNatClampNeg (Int32.ofInt 1))) m5 else none) fun x10 m9 =>
            some (some (.int (x6 - x10)), m9)
          else none
        else none
      else none
    else none
def Fb_X2_best (S : xi_S) (fb : xi_F) : xi_F := fun As m => match As with
  | [.ref v0, .ref v1, .int v2, .int v3, .int v4, .int v5] => Eb_X2_best S fb v0 v1 v2 v3 v4 v5 m
  | _ => none
set_option maxRecDepth 100000 in
set_option maxHeartbeats 4000000 in
theorem xe_X2_best {S : xi_S} {fb : xi_F} {res : xi_R} (v0 : Nat) (v1 : Nat) (v2 : Int32) (v3 : Int32) (v4 : Int32) (v5 : Int32) (m : xi_M) (h : Eb_X2_best S fb v0 v1 v2 v3 v4 v5 m = some res) : xi_X S (P_X2_best S fb) (0, [some (.ref v0), some (.ref v1), some (.int v2), some (.int v3), some (.int v4), some (.int v5), none, none, none, none, none, none, none], [], m) res := by
  unfold Eb_X2_best at h
  refine xr_iload_n i_X2_best_0 rfl (q := 1) rfl ?_
  refine xr_iload_n i_X2_best_1 rfl (q := 2) rfl ?_
  by_cases c11 : v3 < v2
  · replace h := (if_pos c11).symm.trans h
    refine xr_if_icmp_lt_p i_X2_best_2 c11 (q := 29) t_X2_best_2 (q2 := 5) rfl ?_
    refine xr_iload_n i_X2_best_29 rfl (q := 30) rfl ?_
    refine xr_iconst i_X2_best_30 (q := 31) rfl ?_
    obtain ⟨c1, h⟩ := xi_ifn_some h
    refine xr_irem i_X2_best_31 c1 (q := 32) rfl ?_
    by_cases c2 : (v3 - v3 / (Int32.ofInt 2) * (Int32.ofInt 2)) = 0
    · replace h := (if_pos c2).symm.trans h
      refine xr_ifCond_ne_p i_X2_best_32 c2 (q := 39) t_X2_best_32 (q2 := 35) rfl ?_
      refine xr_iconst i_X2_best_35 (q := 36) rfl ?_
      refine xr_goto i_X2_best_36 (q := 40) t_X2_best_36 ?_
      refine xr_istore i_X2_best_40 rfl (L2 := [some (.ref v0), some (.ref v1), some (.int v2), some (.int v3), some (.int v4), some (.int v5), some (.int (Int32.ofInt 1)), none, none, none, none, none, none]) rfl (q := 42) rfl ?_
      refine xr_iload i_X2_best_42 rfl (q := 44) rfl ?_
      refine xr_istore i_X2_best_44 rfl (L2 := [some (.ref v0), some (.ref v1), some (.int v2), some (.int v3), some (.int v4), some (.int v5), some (.int (Int32.ofInt 1)), some (.int v4), none, none, none, none, none]) rfl (q := 46) rfl ?_
      refine xr_iload i_X2_best_46 rfl (q := 48) rfl ?_
      refine xr_istore i_X2_best_48 rfl (L2 := [some (.ref v0), some (.ref v1), some (.int v2), some (.int v3), some (.int v4), some (.int v5), some (.int (Int32.ofInt 1)), some (.int v4), some (.int v5), none, none, none, none]) rfl (q := 50) rfl ?_
      refine xr_iconst i_X2_best_50 (q := 51) rfl ?_
      refine xr_istore i_X2_best_51 rfl (L2 := [some (.ref v0), some (.ref v1), some (.int v2), some (.int v3), some (.int v4), some (.int v5), some (.int (Int32.ofInt 1)), some (.int v4), some (.int v5), some (.int (Int32.ofInt 0)), none, none, none]) rfl (q := 53) rfl ?_
      exact xi_X_le (xi_le_s (xi_le_s (xi_le_s (xi_le_s (xi_le_n (xi_le_n (xi_le_s (xi_le_s (xi_le_s (xi_le_s (xi_le_n (xi_le_n (xi_le_n xi_le_z))))))))))))) (xs_X2_best_53 10000 _ _ _ _ _ _ _ _ _ h)
    · replace h := (if_neg c2).symm.trans h
      refine xr_ifCond_ne_n i_X2_best_32 c2 (q := 39) t_X2_best_32 (q2 := 35) rfl ?_
      refine xr_iconst i_X2_best_39 (q := 40) rfl ?_
      refine xr_istore i_X2_best_40 rfl (L2 := [some (.ref v0), some (.ref v1), some (.int v2), some (.int v3), some (.int v4), some (.int v5), some (.int (Int32.ofInt 0)), none, none, none, none, none, none]) rfl (q := 42) rfl ?_
      refine xr_iload i_X2_best_42 rfl (q := 44) rfl ?_
      refine xr_istore i_X2_best_44 rfl (L2 := [some (.ref v0), some (.ref v1), some (.int v2), some (.int v3), some (.int v4), some (.int v5), some (.int (Int32.ofInt 0)), some (.int v4), none, none, none, none, none]) rfl (q := 46) rfl ?_
      refine xr_iload i_X2_best_46 rfl (q := 48) rfl ?_
      refine xr_istore i_X2_best_48 rfl (L2 := [some (.ref v0), some (.ref v1), some (.int v2), some (.int v3), some (.int v4), some (.int v5), some (.int (Int32.ofInt 0)), some (.int v4), some (.int v5), none, none, none, none]) rfl (q := 50) rfl ?_
      refine xr_iconst i_X2_best_50 (q := 51) rfl ?_
      refine xr_istore i_X2_best_51 rfl (L2 := [some (.ref v0), some (.ref v1), some (.int v2), some (.int v3), some (.int v4), some (.int v5), some (.int (Int32.ofInt 0)), some (.int v4), some (.int v5), some (.int (Int32.ofInt 0)), none, none, none]) rfl (q := 53) rfl ?_
      exact xi_X_le (xi_le_s (xi_le_s (xi_le_s (xi_le_s (xi_le_n (xi_le_n (xi_le_s (xi_le_s (xi_le_s (xi_le_s (xi_le_n (xi_le_n (xi_le_n xi_le_z))))))))))))) (xs_X2_best_53 10000 _ _ _ _ _ _ _ _ _ h)
  · replace h := (if_neg c11).symm.trans h
    refine xr_if_icmp_lt_n i_X2_best_2 c11 (q := 29) t_X2_best_2 (q2 := 5) rfl ?_
    refine xr_aload_n i_X2_best_5 rfl (q := 6) rfl ?_
    refine xr_iconst i_X2_best_6 (q := 7) rfl ?_
    refine xr_aload_n i_X2_best_7 rfl (q := 8) rfl ?_
    refine xr_iconst i_X2_best_8 (q := 9) rfl ?_
    obtain ⟨c3, h⟩ := xi_if_some h
    refine xr_iaload i_X2_best_9 c3 (q := 10) rfl ?_
    refine xr_aload_n i_X2_best_10 rfl (q := 11) rfl ?_
    refine xr_iconst i_X2_best_11 (q := 12) rfl ?_
    obtain ⟨c4, h⟩ := xi_if_some h
    refine xr_iaload i_X2_best_12 c4 (q := 13) rfl ?_
    obtain ⟨x6, m5, em5, h⟩ := xi_bI_some h
    refine xr_VI i_X2_best_13 xcve_X2_34 rfl (As := [.ref v0, .int (Int32.ofInt 1), .int (m.1 v1 (Int32.toNatClampNeg (Int32.ofInt 2))), .int (m.1 v1 (Int32.toNatClampNeg (Int32.ofInt 3)))]) rfl (rest := []) rfl ((cc_X2_best_34 S fb _ _ _ _ _).trans em5) (q := 16) rfl ?_
    refine xr_aload_n i_X2_best_16 rfl (q := 17) rfl ?_
    refine xr_iconst i_X2_best_17 (q := 18) rfl ?_
    refine xr_aload_n i_X2_best_18 rfl (q := 19) rfl ?_
    refine xr_iconst i_X2_best_19 (q := 20) rfl ?_
    obtain ⟨c7, h⟩ := xi_if_some h
    refine xr_iaload i_X2_best_20 c7 (q := 21) rfl ?_
    refine xr_aload_n i_X2_best_21 rfl (q := 22) rfl ?_
    refine xr_iconst i_X2_best_22 (q := 23) rfl ?_
    obtain ⟨c8, h⟩ := xi_if_some h
    refine xr_iaload i_X2_best_23 c8 (q := 24) rfl ?_
    obtain ⟨x10, m9, em9, h⟩ := xi_bI_some h
    refine xr_VI i_X2_best_24 xcve_X2_34 rfl (As := [.ref v0, .int (Int32.ofInt 0), .int (m5.1 v1 (Int32.toNatClampNeg (Int32.ofInt 0))), .int (m5.1 v1 (Int32.toNatClampNeg (Int32.ofInt 1)))]) rfl (rest := [.int x6]) rfl ((cc_X2_best_34 S fb _ _ _ _ _).trans em9) (q := 27) rfl ?_
    refine xr_isub i_X2_best_27 (q := 28) rfl ?_
    exact xr_ireturn i_X2_best_28 rfl h
set_option maxRecDepth 100000 in
theorem po_X2_best {l : Launch} {E : xi_E} {S : xi_S} {D : va_G} {tys : List (ClassId × FieldType)} {fb : xi_F} {df d : Nat} (hfb : ∀ As m1 r m2, fb As m1 = some (r, m2) → xi_Sound l E S D vwCl tys xNs xTs yX2_best cX2_best 13 (some .int) df As m1 r m2) (hd1 : df + 1 ≤ d) (hd2 : 3 ≤ d) (hC : xCx E S tys) : xi_Pok l E S D vwCl tys xNs RX2 xTs cX2_best 13 d (P_X2_best S fb) := ⟨xi_dc_ok, by rw [hC.2]; exact xfo_X2, xkio_X2, xklo_X2, xi_calls_ok (ins := .invokestatic) (List.forall_mem_cons.mpr ⟨(xm_X2_24 (by omega)), List.forall_mem_cons.mpr ⟨(xc_X2_30 hfb (by omega)), List.forall_mem_cons.mpr ⟨(xc_X2_40 (sn_X8_mayMove hC) (by omega)), List.forall_mem_cons.mpr ⟨(xm_X2_44 (by omega)), fun _ h => absurd h List.not_mem_nil⟩⟩⟩⟩), xi_calls_ok (ins := .invokevirtual) (List.forall_mem_cons.mpr ⟨(xc_X2_34 hC.1 (sn_X1_goalsAt hC) (by omega)), fun _ h => absurd h List.not_mem_nil⟩)⟩
theorem sb_X2_best {l : Launch} {E : xi_E} {S : xi_S} {D : va_G} {tys : List (ClassId × FieldType)} {fb : xi_F} {df d : Nat} (hfb : ∀ As m1 r m2, fb As m1 = some (r, m2) → xi_Sound l E S D vwCl tys xNs xTs yX2_best cX2_best 13 (some .int) df As m1 r m2) (hd1 : df + 1 ≤ d) (hd2 : 3 ≤ d) (hC : xCx E S tys) : ∀ As m1 r m2, Fb_X2_best S fb As m1 = some (r, m2) → xi_Sound l E S D vwCl tys xNs xTs yX2_best cX2_best 13 (some .int) d As m1 r m2 := by
  intro As m1 r m2 h
  unfold Fb_X2_best at h
  split at h
  · exact xi_meth (P := P_X2_best S fb) (by decide) hC.1 (po_X2_best hfb hd1 hd2 hC) (Nat.le_of_ble_eq_true rfl) rfl (xe_X2_best _ _ _ _ _ _ _ h)
  · exact xi_no h
def Fr_X2_best (S : xi_S) : Nat → xi_F
  | 0 => fun _ _ => none
  | n + 1 => Fb_X2_best S (Fr_X2_best S n)
theorem sr_X2_best {l : Launch} {E : xi_E} {S : xi_S} {D : va_G} {tys : List (ClassId × FieldType)} (hC : xCx E S tys) : ∀ n As m1 r m2, Fr_X2_best S n As m1 = some (r, m2) → xi_Sound l E S D vwCl tys xNs xTs yX2_best cX2_best 13 (some .int) (3 + n) As m1 r m2 := by
  intro n
  induction n with
  | zero => intro As m1 r m2 h; exact xi_no h
  | succ n ih => exact fun As m1 r m2 h => sb_X2_best (d := 3 + (n + 1)) ih (by omega) (by omega) hC As m1 r m2 h
def F_X2_best (S : xi_S) : xi_F := Fr_X2_best S 6
theorem sn_X2_best {l : Launch} {E : xi_E} {S : xi_S} {D : va_G} {tys : List (ClassId × FieldType)} (hC : xCx E S tys) : ∀ As m1 r m2, F_X2_best S As m1 = some (r, m2) → xi_Sound l E S D vwCl tys xNs xTs yX2_best cX2_best 13 (some .int) (3 + 6) As m1 r m2 := sr_X2_best hC 6
def E_X2_best (S : xi_S) (v0 : Nat) (v1 : Nat) (v2 : Int32) (v3 : Int32) (v4 : Int32) (v5 : Int32) (m : xi_M) : Option xi_R := F_X2_best S [.ref v0, .ref v1, .int v2, .int v3, .int v4, .int v5] m
theorem i_X2_outcome_0 : xi_dc cX2_outcome 0 = some (.aload_n 1, 1) := by decide +kernel
theorem i_X2_outcome_1 : xi_dc cX2_outcome 1 = some (.getfield 15, 3) := by decide +kernel
theorem i_X2_outcome_4 : xi_dc cX2_outcome 4 = some (.iconst 0, 1) := by decide +kernel
theorem i_X2_outcome_5 : xi_dc cX2_outcome 5 = some (.aload_n 0, 1) := by decide +kernel
theorem i_X2_outcome_6 : xi_dc cX2_outcome 6 = some (.getfield 9, 3) := by decide +kernel
theorem i_X2_outcome_9 : xi_dc cX2_outcome 9 = some (.iconst 0, 1) := by decide +kernel
theorem i_X2_outcome_10 : xi_dc cX2_outcome 10 = some (.iconst 4, 1) := by decide +kernel
theorem i_X2_outcome_11 : xi_dc cX2_outcome 11 = some (.invokestatic 18, 3) := by decide +kernel
theorem i_X2_outcome_14 : xi_dc cX2_outcome 14 = some (.aload_n 2, 1) := by decide +kernel
theorem i_X2_outcome_15 : xi_dc cX2_outcome 15 = some (.aload_n 0, 1) := by decide +kernel
theorem i_X2_outcome_16 : xi_dc cX2_outcome 16 = some (.getfield 9, 3) := by decide +kernel
theorem i_X2_outcome_19 : xi_dc cX2_outcome 19 = some (.iload_n 3, 1) := by decide +kernel
theorem i_X2_outcome_20 : xi_dc cX2_outcome 20 = some (.iconst 4, 1) := by decide +kernel
theorem i_X2_outcome_21 : xi_dc cX2_outcome 21 = some (.invokestatic 24, 3) := by decide +kernel
theorem i_X2_outcome_24 : xi_dc cX2_outcome 24 = some (.iconst 0, 1) := by decide +kernel
theorem i_X2_outcome_25 : xi_dc cX2_outcome 25 = some (.bipush (-7), 2) := by decide +kernel
theorem i_X2_outcome_27 : xi_dc cX2_outcome 27 = some (.bipush 7, 2) := by decide +kernel
theorem i_X2_outcome_29 : xi_dc cX2_outcome 29 = some (.invokestatic 30, 3) := by decide +kernel
theorem i_X2_outcome_32 : xi_dc cX2_outcome 32 = some (.ireturn, 1) := by decide +kernel
def P_X2_outcome (S : xi_S) : xi_P := (xi_dc cX2_outcome, xi_tab xfl_X2, xi_tab xki_X2, xi_tab xkl_X2, xi_tab xcs_X2, xi_tab xcv_X2, xi_calls [(18, xi_wS 5 (F_arraycopy S)), (24, xi_wS 2 (F_J9_min_7cf53 S)), (30, xi_wS 6 (F_X2_best S))], xi_calls [], 1)
theorem cc_X2_outcome_18 (S : xi_S) (a0 : Nat) (a1 : Int32) (a2 : Nat) (a3 : Int32) (a4 : Int32) (m : xi_M) : (P_X2_outcome S).2.2.2.2.2.2.1 18 [.ref a0, .int a1, .ref a2, .int a3, .int a4] m = (F_arraycopy S [.ref a0, .int a1, .ref a2, .int a3, .int a4] m) := by
  show xi_calls [(18, xi_wS 5 (F_arraycopy S)), (24, xi_wS 2 (F_J9_min_7cf53 S)), (30, xi_wS 6 (F_X2_best S))] 18 [.ref a0, .int a1, .ref a2, .int a3, .int a4] m = _
  refine Eq.trans (b := xi_wS 5 (F_arraycopy S) [.ref a0, .int a1, .ref a2, .int a3, .int a4] m) (xi_calls_hit rfl) ?_
  exact xi_wS_eq rfl
theorem cc_X2_outcome_24 (S : xi_S) (a0 : Int32) (a1 : Int32) (m : xi_M) : (P_X2_outcome S).2.2.2.2.2.2.1 24 [.int a0, .int a1] m = (E_J9_min_7cf53 S a0 a1 m) := by
  show xi_calls [(18, xi_wS 5 (F_arraycopy S)), (24, xi_wS 2 (F_J9_min_7cf53 S)), (30, xi_wS 6 (F_X2_best S))] 24 [.int a0, .int a1] m = _
  refine Eq.trans (b := xi_calls [(24, xi_wS 2 (F_J9_min_7cf53 S)), (30, xi_wS 6 (F_X2_best S))] 24 [.int a0, .int a1] m) (xi_calls_miss rfl) ?_
  refine Eq.trans (b := xi_wS 2 (F_J9_min_7cf53 S) [.int a0, .int a1] m) (xi_calls_hit rfl) ?_
  exact xi_wS_eq rfl
theorem cc_X2_outcome_30 (S : xi_S) (a0 : Nat) (a1 : Nat) (a2 : Int32) (a3 : Int32) (a4 : Int32) (a5 : Int32) (m : xi_M) : (P_X2_outcome S).2.2.2.2.2.2.1 30 [.ref a0, .ref a1, .int a2, .int a3, .int a4, .int a5] m = (E_X2_best S a0 a1 a2 a3 a4 a5 m) := by
  show xi_calls [(18, xi_wS 5 (F_arraycopy S)), (24, xi_wS 2 (F_J9_min_7cf53 S)), (30, xi_wS 6 (F_X2_best S))] 30 [.ref a0, .ref a1, .int a2, .int a3, .int a4, .int a5] m = _
  refine Eq.trans (b := xi_calls [(24, xi_wS 2 (F_J9_min_7cf53 S)), (30, xi_wS 6 (F_X2_best S))] 30 [.ref a0, .ref a1, .int a2, .int a3, .int a4, .int a5] m) (xi_calls_miss rfl) ?_
  refine Eq.trans (b := xi_calls [(30, xi_wS 6 (F_X2_best S))] 30 [.ref a0, .ref a1, .int a2, .int a3, .int a4, .int a5] m) (xi_calls_miss rfl) ?_
  refine Eq.trans (b := xi_wS 6 (F_X2_best S) [.ref a0, .ref a1, .int a2, .int a3, .int a4, .int a5] m) (xi_calls_hit rfl) ?_
  exact xi_wS_eq rfl
def E_X2_outcome (S : xi_S) (v0 : Nat) (v1 : Nat) (v2 : Nat) (v3 : Int32) (m : xi_M) : Option xi_R :=
  if S.1 v1 = 8 then (S.2.2 v1 5).bind fun b2 =>
    if S.1 v0 = 5 then (S.2.2 v0 0).bind fun b4 =>
      xi_bV (F_arraycopy S [.ref b2, .int (Int32.ofInt 0), .ref b4, .int (Int32.ofInt 0), .int (Int32.ofInt 4)] m) fun m5 =>
      if S.1 v0 = 5 then (S.2.2 v0 0).bind fun b7 =>
        xi_bI (E_J9_min_7cf53 S v3 (Int32.ofInt 4) m5) fun x9 m8 =>
        xi_bI (E_X2_best S v2 b7 x9 (Int32.ofInt 0) ((Int8.ofInt (-7)).toInt32) ((Int8.ofInt 7).toInt32) m8) fun x11 m10 =>
        some (some (.int x11), m10)
      else none
    else none
  else none
def F_X2_outcome (S : xi_S) : xi_F := fun As m => match As with
  | [.ref v0, .ref v1, .ref v2, .int v3] => E_X2_outcome S v0 v1 v2 v3 m
  | _ => none
set_option maxRecDepth 100000 in
set_option maxHeartbeats 4000000 in
theorem xe_X2_outcome {S : xi_S} {res : xi_R} (v0 : Nat) (v1 : Nat) (v2 : Nat) (v3 : Int32) (m : xi_M) (h : E_X2_outcome S v0 v1 v2 v3 m = some res) : xi_X S (P_X2_outcome S) (0, [some (.ref v0), some (.ref v1), some (.ref v2), some (.int v3)], [], m) res := by
  unfold E_X2_outcome at h
  refine xr_aload_n i_X2_outcome_0 rfl (q := 1) rfl ?_
  obtain ⟨c1, h⟩ := xi_if_some h
  obtain ⟨b2, eb2, h⟩ := xi_bind_some h
  refine xr_getR i_X2_outcome_1 xfe_X2_15 c1 eb2 (q := 4) rfl ?_
  refine xr_iconst i_X2_outcome_4 (q := 5) rfl ?_
  refine xr_aload_n i_X2_outcome_5 rfl (q := 6) rfl ?_
  obtain ⟨c3, h⟩ := xi_if_some h
  obtain ⟨b4, eb4, h⟩ := xi_bind_some h
  refine xr_getR i_X2_outcome_6 xfe_X2_9 c3 eb4 (q := 9) rfl ?_
  refine xr_iconst i_X2_outcome_9 (q := 10) rfl ?_
  refine xr_iconst i_X2_outcome_10 (q := 11) rfl ?_
  obtain ⟨m5, em5, h⟩ := xi_bV_some h
  refine xr_SV i_X2_outcome_11 xcse_X2_18 rfl (As := [.ref b2, .int (Int32.ofInt 0), .ref b4, .int (Int32.ofInt 0), .int (Int32.ofInt 4)]) rfl (rest := []) rfl ((cc_X2_outcome_18 S _ _ _ _ _ _).trans em5) (q := 14) rfl ?_
  refine xr_aload_n i_X2_outcome_14 rfl (q := 15) rfl ?_
  refine xr_aload_n i_X2_outcome_15 rfl (q := 16) rfl ?_
  obtain ⟨c6, h⟩ := xi_if_some h
  obtain ⟨b7, eb7, h⟩ := xi_bind_some h
  refine xr_getR i_X2_outcome_16 xfe_X2_9 c6 eb7 (q := 19) rfl ?_
  refine xr_iload_n i_X2_outcome_19 rfl (q := 20) rfl ?_
  refine xr_iconst i_X2_outcome_20 (q := 21) rfl ?_
  obtain ⟨x9, m8, em8, h⟩ := xi_bI_some h
  refine xr_SI i_X2_outcome_21 xcse_X2_24 rfl (As := [.int v3, .int (Int32.ofInt 4)]) rfl (rest := [.ref b7, .ref v2]) rfl ((cc_X2_outcome_24 S _ _ _).trans em8) (q := 24) rfl ?_
  refine xr_iconst i_X2_outcome_24 (q := 25) rfl ?_
  refine xr_bipush i_X2_outcome_25 (q := 27) rfl ?_
  refine xr_bipush i_X2_outcome_27 (q := 29) rfl ?_
  obtain ⟨x11, m10, em10, h⟩ := xi_bI_some h
  refine xr_SI i_X2_outcome_29 xcse_X2_30 rfl (As := [.ref v2, .ref b7, .int x9, .int (Int32.ofInt 0), .int ((Int8.ofInt (-7)).toInt32), .int ((Int8.ofInt 7).toInt32)]) rfl (rest := []) rfl ((cc_X2_outcome_30 S _ _ _ _ _ _ _).trans em10) (q := 32) rfl ?_
  exact xr_ireturn i_X2_outcome_32 rfl h
set_option maxRecDepth 100000 in
theorem po_X2_outcome {l : Launch} {E : xi_E} {S : xi_S} {D : va_G} {tys : List (ClassId × FieldType)} (hC : xCx E S tys) : xi_Pok l E S D vwCl tys xNs RX2 xTs cX2_outcome 4 10 (P_X2_outcome S) := ⟨xi_dc_ok, by rw [hC.2]; exact xfo_X2, xkio_X2, xklo_X2, xi_calls_ok (ins := .invokestatic) (List.forall_mem_cons.mpr ⟨(xc_X2_18 hC.1 (by decide)), List.forall_mem_cons.mpr ⟨(xm_X2_24 (by decide)), List.forall_mem_cons.mpr ⟨(xc_X2_30 (sn_X2_best hC) (by decide)), fun _ h => absurd h List.not_mem_nil⟩⟩⟩), xi_calls_ok (ins := .invokevirtual) (fun _ h => absurd h List.not_mem_nil)⟩
theorem sn_X2_outcome {l : Launch} {E : xi_E} {S : xi_S} {D : va_G} {tys : List (ClassId × FieldType)} (hC : xCx E S tys) : ∀ As m1 r m2, F_X2_outcome S As m1 = some (r, m2) → xi_Sound l E S D vwCl tys xNs xTs yX2_outcome cX2_outcome 4 (some .int) 10 As m1 r m2 := by
  intro As m1 r m2 h
  unfold F_X2_outcome at h
  split at h
  · exact xi_meth (P := P_X2_outcome S) (by decide) hC.1 (po_X2_outcome hC) (Nat.le_of_ble_eq_true rfl) rfl (xe_X2_outcome _ _ _ _ _ h)
  · exact xi_no h
theorem i_J7_fill_53178_0 : xi_dc cJ7_fill_53178 0 = some (.iconst 0, 1) := by decide +kernel
theorem i_J7_fill_53178_1 : xi_dc cJ7_fill_53178 1 = some (.istore_n 2, 1) := by decide +kernel
theorem i_J7_fill_53178_2 : xi_dc cJ7_fill_53178 2 = some (.aload_n 0, 1) := by decide +kernel
theorem i_J7_fill_53178_3 : xi_dc cJ7_fill_53178 3 = some (.arraylength, 1) := by decide +kernel
theorem i_J7_fill_53178_4 : xi_dc cJ7_fill_53178 4 = some (.istore_n 3, 1) := by decide +kernel
theorem i_J7_fill_53178_5 : xi_dc cJ7_fill_53178 5 = some (.iload_n 2, 1) := by decide +kernel
theorem i_J7_fill_53178_6 : xi_dc cJ7_fill_53178 6 = some (.iload_n 3, 1) := by decide +kernel
theorem i_J7_fill_53178_7 : xi_dc cJ7_fill_53178 7 = some (.if_icmp .ge 13, 3) := by decide +kernel
theorem t_J7_fill_53178_7 : ((7 : Nat) : Int) + 13 = ((20 : Nat) : Int) := by decide +kernel
theorem i_J7_fill_53178_10 : xi_dc cJ7_fill_53178 10 = some (.aload_n 0, 1) := by decide +kernel
theorem i_J7_fill_53178_11 : xi_dc cJ7_fill_53178 11 = some (.iload_n 2, 1) := by decide +kernel
theorem i_J7_fill_53178_12 : xi_dc cJ7_fill_53178 12 = some (.iload_n 1, 1) := by decide +kernel
theorem i_J7_fill_53178_13 : xi_dc cJ7_fill_53178 13 = some (.iastore, 1) := by decide +kernel
theorem i_J7_fill_53178_14 : xi_dc cJ7_fill_53178 14 = some (.iinc 2 1, 3) := by decide +kernel
theorem i_J7_fill_53178_17 : xi_dc cJ7_fill_53178 17 = some (.goto (-12), 3) := by decide +kernel
theorem t_J7_fill_53178_17 : ((17 : Nat) : Int) + (-12) = ((5 : Nat) : Int) := by decide +kernel
theorem i_J7_fill_53178_20 : xi_dc cJ7_fill_53178 20 = some (.return_, 1) := by decide +kernel
def P_J7_fill_53178 (S : xi_S) : xi_P := (xi_dc cJ7_fill_53178, xi_tab xfl_J7, xi_tab xki_J7, xi_tab xkl_J7, xi_tab xcs_J7, xi_tab xcv_J7, xi_calls [], xi_calls [], 0)
def G_J7_fill_53178_5 (S : xi_S) : Nat → Nat → Int32 → Int32 → Int32 → xi_M → Option xi_R
  | 0, _, _, _, _, _ => none
  | n + 1, v0, v1, v2, v3, m =>
    if v3 ≤ v2 then
      some (none, m)
    else
      if S.1 v0 = 0 ∧ ¬ (v2 < 0 ∨ S.2.1 v0 ≤ Int32.toNatClampNeg v2) then
        G_J7_fill_53178_5 S n v0 v1 (v2 + Int32.ofInt 1) v3 (xi_wI m v0 (Int32.toNatClampNeg v2) v1)
      else none
set_option maxRecDepth 100000 in
set_option maxHeartbeats 4000000 in
theorem xs_J7_fill_53178_5 {S : xi_S} {res : xi_R} : ∀ (n : Nat) (v0 : Nat) (v1 : Int32) (v2 : Int32) (v3 : Int32) (m : xi_M), G_J7_fill_53178_5 S n v0 v1 v2 v3 m = some res → xi_X S (P_J7_fill_53178 S) (5, [some (.ref v0), some (.int v1), some (.int v2), some (.int v3)], [], m) res := by
  intro n
  induction n with
  | zero => intro v0 v1 v2 v3 m h; exact xi_no h
  | succ n ih =>
    intro v0 v1 v2 v3 m h
    unfold G_J7_fill_53178_5 at h
    refine xr_iload_n i_J7_fill_53178_5 rfl (q := 6) rfl ?_
    refine xr_iload_n i_J7_fill_53178_6 rfl (q := 7) rfl ?_
    by_cases c2 : v3 ≤ v2
    · replace h := (if_pos c2).symm.trans h
      refine xr_if_icmp_ge_p i_J7_fill_53178_7 c2 (q := 20) t_J7_fill_53178_7 (q2 := 10) rfl ?_
      exact xr_return i_J7_fill_53178_20 rfl h
    · replace h := (if_neg c2).symm.trans h
      refine xr_if_icmp_ge_n i_J7_fill_53178_7 c2 (q := 20) t_J7_fill_53178_7 (q2 := 10) rfl ?_
      refine xr_aload_n i_J7_fill_53178_10 rfl (q := 11) rfl ?_
      refine xr_iload_n i_J7_fill_53178_11 rfl (q := 12) rfl ?_
      refine xr_iload_n i_J7_fill_53178_12 rfl (q := 13) rfl ?_
      obtain ⟨c1, h⟩ := xi_if_some h
      refine xr_iastore i_J7_fill_53178_13 c1 (q := 14) rfl ?_
      refine xr_iinc i_J7_fill_53178_14 rfl rfl (L2 := [some (.ref v0), some (.int v1), some (.int (v2 + Int32.ofInt 1)), some (.int v3)]) rfl (q := 17) rfl ?_
      refine xr_goto i_J7_fill_53178_17 (q := 5) t_J7_fill_53178_17 ?_
      exact xi_X_le (xi_le_s (xi_le_s (xi_le_s (xi_le_s xi_le_z)))) (ih _ _ _ _ _ h)
def E_J7_fill_53178 (S : xi_S) (v0 : Nat) (v1 : Int32) (m : xi_M) : Option xi_R :=
  if S.1 v0 = 0 ∨ S.1 v0 = 1 ∨ S.1 v0 = 2 then
    G_J7_fill_53178_5 S 10000 v0 v1 (Int32.ofInt 0) (Int32.ofNat (S.2.1 v0)) m
  else none
def F_J7_fill_53178 (S : xi_S) : xi_F := fun As m => match As with
  | [.ref v0, .int v1] => E_J7_fill_53178 S v0 v1 m
  | _ => none
set_option maxRecDepth 100000 in
set_option maxHeartbeats 4000000 in
theorem xe_J7_fill_53178 {S : xi_S} {res : xi_R} (v0 : Nat) (v1 : Int32) (m : xi_M) (h : E_J7_fill_53178 S v0 v1 m = some res) : xi_X S (P_J7_fill_53178 S) (0, [some (.ref v0), some (.int v1), none, none], [], m) res := by
  unfold E_J7_fill_53178 at h
  refine xr_iconst i_J7_fill_53178_0 (q := 1) rfl ?_
  refine xr_istore_n i_J7_fill_53178_1 rfl (L2 := [some (.ref v0), some (.int v1), some (.int (Int32.ofInt 0)), none]) rfl (q := 2) rfl ?_
  refine xr_aload_n i_J7_fill_53178_2 rfl (q := 3) rfl ?_
  obtain ⟨c1, h⟩ := xi_if_some h
  refine xr_alen i_J7_fill_53178_3 c1 (q := 4) rfl ?_
  refine xr_istore_n i_J7_fill_53178_4 rfl (L2 := [some (.ref v0), some (.int v1), some (.int (Int32.ofInt 0)), some (.int (Int32.ofNat (S.2.1 v0)))]) rfl (q := 5) rfl ?_
  exact xi_X_le (xi_le_s (xi_le_s (xi_le_s (xi_le_s xi_le_z)))) (xs_J7_fill_53178_5 10000 _ _ _ _ _ h)
set_option maxRecDepth 100000 in
theorem po_J7_fill_53178 {l : Launch} {E : xi_E} {S : xi_S} {D : va_G} {tys : List (ClassId × FieldType)} (hC : xCx E S tys) : xi_Pok l E S D vwCl tys xNs RJ7 xTs cJ7_fill_53178 4 0 (P_J7_fill_53178 S) := ⟨xi_dc_ok, by rw [hC.2]; exact xfo_J7, xkio_J7, xklo_J7, xi_calls_ok (ins := .invokestatic) (fun _ h => absurd h List.not_mem_nil), xi_calls_ok (ins := .invokevirtual) (fun _ h => absurd h List.not_mem_nil)⟩
theorem sn_J7_fill_53178 {l : Launch} {E : xi_E} {S : xi_S} {D : va_G} {tys : List (ClassId × FieldType)} (hC : xCx E S tys) : ∀ As m1 r m2, F_J7_fill_53178 S As m1 = some (r, m2) → xi_Sound l E S D vwCl tys xNs xTs yJ7_fill_53178 cJ7_fill_53178 4 none 0 As m1 r m2 := by
  intro As m1 r m2 h
  unfold F_J7_fill_53178 at h
  split at h
  · exact xi_meth (P := P_J7_fill_53178 S) (by decide) hC.1 (po_J7_fill_53178 hC) (Nat.le_of_ble_eq_true rfl) rfl (xe_J7_fill_53178 _ _ _ h)
  · exact xi_no h
theorem i_X3_fits_0 : xi_dc cX3_fits 0 = some (.iconst 0, 1) := by decide +kernel
theorem i_X3_fits_1 : xi_dc cX3_fits 1 = some (.istore_n 2, 1) := by decide +kernel
theorem i_X3_fits_2 : xi_dc cX3_fits 2 = some (.iload_n 2, 1) := by decide +kernel
theorem i_X3_fits_3 : xi_dc cX3_fits 3 = some (.iconst 1, 1) := by decide +kernel
theorem i_X3_fits_4 : xi_dc cX3_fits 4 = some (.iadd, 1) := by decide +kernel
theorem i_X3_fits_5 : xi_dc cX3_fits 5 = some (.aload_n 1, 1) := by decide +kernel
theorem i_X3_fits_6 : xi_dc cX3_fits 6 = some (.getfield 49, 3) := by decide +kernel
theorem i_X3_fits_9 : xi_dc cX3_fits 9 = some (.if_icmp .ge 32, 3) := by decide +kernel
theorem t_X3_fits_9 : ((9 : Nat) : Int) + 32 = ((41 : Nat) : Int) := by decide +kernel
theorem i_X3_fits_12 : xi_dc cX3_fits 12 = some (.iload_n 0, 1) := by decide +kernel
theorem i_X3_fits_13 : xi_dc cX3_fits 13 = some (.aload_n 1, 1) := by decide +kernel
theorem i_X3_fits_14 : xi_dc cX3_fits 14 = some (.getfield 54, 3) := by decide +kernel
theorem i_X3_fits_17 : xi_dc cX3_fits 17 = some (.iload_n 2, 1) := by decide +kernel
theorem i_X3_fits_18 : xi_dc cX3_fits 18 = some (.iaload, 1) := by decide +kernel
theorem i_X3_fits_19 : xi_dc cX3_fits 19 = some (.ishr, 1) := by decide +kernel
theorem i_X3_fits_20 : xi_dc cX3_fits 20 = some (.iconst 1, 1) := by decide +kernel
theorem i_X3_fits_21 : xi_dc cX3_fits 21 = some (.iand, 1) := by decide +kernel
theorem i_X3_fits_22 : xi_dc cX3_fits 22 = some (.aload_n 1, 1) := by decide +kernel
theorem i_X3_fits_23 : xi_dc cX3_fits 23 = some (.getfield 54, 3) := by decide +kernel
theorem i_X3_fits_26 : xi_dc cX3_fits 26 = some (.iload_n 2, 1) := by decide +kernel
theorem i_X3_fits_27 : xi_dc cX3_fits 27 = some (.iconst 1, 1) := by decide +kernel
theorem i_X3_fits_28 : xi_dc cX3_fits 28 = some (.iadd, 1) := by decide +kernel
theorem i_X3_fits_29 : xi_dc cX3_fits 29 = some (.iaload, 1) := by decide +kernel
theorem i_X3_fits_30 : xi_dc cX3_fits 30 = some (.if_icmp .eq 5, 3) := by decide +kernel
theorem t_X3_fits_30 : ((30 : Nat) : Int) + 5 = ((35 : Nat) : Int) := by decide +kernel
theorem i_X3_fits_33 : xi_dc cX3_fits 33 = some (.iconst 0, 1) := by decide +kernel
theorem i_X3_fits_34 : xi_dc cX3_fits 34 = some (.ireturn, 1) := by decide +kernel
theorem i_X3_fits_35 : xi_dc cX3_fits 35 = some (.iinc 2 2, 3) := by decide +kernel
theorem i_X3_fits_38 : xi_dc cX3_fits 38 = some (.goto (-36), 3) := by decide +kernel
theorem t_X3_fits_38 : ((38 : Nat) : Int) + (-36) = ((2 : Nat) : Int) := by decide +kernel
theorem i_X3_fits_41 : xi_dc cX3_fits 41 = some (.iconst 1, 1) := by decide +kernel
theorem i_X3_fits_42 : xi_dc cX3_fits 42 = some (.ireturn, 1) := by decide +kernel
def P_X3_fits (S : xi_S) : xi_P := (xi_dc cX3_fits, xi_tab xfl_X3, xi_tab xki_X3, xi_tab xkl_X3, xi_tab xcs_X3, xi_tab xcv_X3, xi_calls [], xi_calls [], 2)
def G_X3_fits_2 (S : xi_S) : Nat → Int32 → Nat → Int32 → xi_M → Option xi_R
  | 0, _, _, _, _ => none
  | n + 1, v0, v1, v2, m =>
    if S.1 v1 = 9 then
      if (m.1 v1 1) ≤ (v2 + (Int32.ofInt 1)) then
        if (Int32.ofInt 1) = 0 ∨ (Int32.ofInt 1) = 1 then some (some (.int (Int32.ofInt 1)), m) else none
      else
        if S.1 v1 = 9 then (S.2.2 v1 2).bind fun b3 =>
          if S.1 b3 = 0 ∧ ¬ (v2 < 0 ∨ S.2.1 b3 ≤ Int32.toNatClampNeg v2) then
            if S.1 v1 = 9 then (S.2.2 v1 2).bind fun b6 =>
              if S.1 b6 = 0 ∧ ¬ ((v2 + (Int32.ofInt 1)) < 0 ∨ S.2.1 b6 ≤ Int32.toNatClampNeg (v2 + (Int32.ofInt 1))) then
                if ((v0 >>> ((m.1 b3 (Int32.toNatClampNeg v2)) &&& 31)) &&& (Int32.ofInt 1)) = (m.1 b6 (Int32.toNatClampNeg (v2 + (Int32.ofInt 1)))) then
                  G_X3_fits_2 S n v0 v1 (v2 + Int32.ofInt 2) m
                else
                  if (Int32.ofInt 0) = 0 ∨ (Int32.ofInt 0) = 1 then some (some (.int (Int32.ofInt 0)), m) else none
              else none
            else none
          else none
        else none
    else none
set_option maxRecDepth 100000 in
set_option maxHeartbeats 4000000 in
theorem xs_X3_fits_2 {S : xi_S} {res : xi_R} : ∀ (n : Nat) (v0 : Int32) (v1 : Nat) (v2 : Int32) (m : xi_M), G_X3_fits_2 S n v0 v1 v2 m = some res → xi_X S (P_X3_fits S) (2, [some (.int v0), some (.ref v1), some (.int v2)], [], m) res := by
  intro n
  induction n with
  | zero => intro v0 v1 v2 m h; exact xi_no h
  | succ n ih =>
    intro v0 v1 v2 m h
    unfold G_X3_fits_2 at h
    refine xr_iload_n i_X3_fits_2 rfl (q := 3) rfl ?_
    refine xr_iconst i_X3_fits_3 (q := 4) rfl ?_
    refine xr_iadd i_X3_fits_4 (q := 5) rfl ?_
    refine xr_aload_n i_X3_fits_5 rfl (q := 6) rfl ?_
    obtain ⟨c1, h⟩ := xi_if_some h
    refine xr_getI i_X3_fits_6 xfe_X3_49 c1 (q := 9) rfl ?_
    by_cases c9 : (m.1 v1 1) ≤ (v2 + (Int32.ofInt 1))
    · replace h := (if_pos c9).symm.trans h
      refine xr_if_icmp_ge_p i_X3_fits_9 c9 (q := 41) t_X3_fits_9 (q2 := 12) rfl ?_
      refine xr_iconst i_X3_fits_41 (q := 42) rfl ?_
      exact xr_zreturn i_X3_fits_42 rfl h
    · replace h := (if_neg c9).symm.trans h
      refine xr_if_icmp_ge_n i_X3_fits_9 c9 (q := 41) t_X3_fits_9 (q2 := 12) rfl ?_
      refine xr_iload_n i_X3_fits_12 rfl (q := 13) rfl ?_
      refine xr_aload_n i_X3_fits_13 rfl (q := 14) rfl ?_
      obtain ⟨c2, h⟩ := xi_if_some h
      obtain ⟨b3, eb3, h⟩ := xi_bind_some h
      refine xr_getR i_X3_fits_14 xfe_X3_54 c2 eb3 (q := 17) rfl ?_
      refine xr_iload_n i_X3_fits_17 rfl (q := 18) rfl ?_
      obtain ⟨c4, h⟩ := xi_if_some h
      refine xr_iaload i_X3_fits_18 c4 (q := 19) rfl ?_
      refine xr_ishr i_X3_fits_19 (q := 20) rfl ?_
      refine xr_iconst i_X3_fits_20 (q := 21) rfl ?_
      refine xr_iand i_X3_fits_21 (q := 22) rfl ?_
      refine xr_aload_n i_X3_fits_22 rfl (q := 23) rfl ?_
      obtain ⟨c5, h⟩ := xi_if_some h
      obtain ⟨b6, eb6, h⟩ := xi_bind_some h
      refine xr_getR i_X3_fits_23 xfe_X3_54 c5 eb6 (q := 26) rfl ?_
      refine xr_iload_n i_X3_fits_26 rfl (q := 27) rfl ?_
      refine xr_iconst i_X3_fits_27 (q := 28) rfl ?_
      refine xr_iadd i_X3_fits_28 (q := 29) rfl ?_
      obtain ⟨c7, h⟩ := xi_if_some h
      refine xr_iaload i_X3_fits_29 c7 (q := 30) rfl ?_
      by_cases c8 : ((v0 >>> ((m.1 b3 (Int32.toNatClampNeg v2)) &&& 31)) &&& (Int32.ofInt 1)) = (m.1 b6 (Int32.toNatClampNeg (v2 + (Int32.ofInt 1))))
      · replace h := (if_pos c8).symm.trans h
        refine xr_if_icmp_eq_p i_X3_fits_30 c8 (q := 35) t_X3_fits_30 (q2 := 33) rfl ?_
        refine xr_iinc i_X3_fits_35 rfl rfl (L2 := [some (.int v0), some (.ref v1), some (.int (v2 + Int32.ofInt 2))]) rfl (q := 38) rfl ?_
        refine xr_goto i_X3_fits_38 (q := 2) t_X3_fits_38 ?_
        exact xi_X_le (xi_le_s (xi_le_s (xi_le_s xi_le_z))) (ih _ _ _ _ h)
      · replace h := (if_neg c8).symm.trans h
        refine xr_if_icmp_eq_n i_X3_fits_30 c8 (q := 35) t_X3_fits_30 (q2 := 33) rfl ?_
        refine xr_iconst i_X3_fits_33 (q := 34) rfl ?_
        exact xr_zreturn i_X3_fits_34 rfl h
def E_X3_fits (S : xi_S) (v0 : Int32) (v1 : Nat) (m : xi_M) : Option xi_R :=
  G_X3_fits_2 S 10000 v0 v1 (Int32.ofInt 0) m
def F_X3_fits (S : xi_S) : xi_F := fun As m => match As with
  | [.int v0, .ref v1] => E_X3_fits S v0 v1 m
  | _ => none
set_option maxRecDepth 100000 in
set_option maxHeartbeats 4000000 in
theorem xe_X3_fits {S : xi_S} {res : xi_R} (v0 : Int32) (v1 : Nat) (m : xi_M) (h : E_X3_fits S v0 v1 m = some res) : xi_X S (P_X3_fits S) (0, [some (.int v0), some (.ref v1), none], [], m) res := by
  unfold E_X3_fits at h
  refine xr_iconst i_X3_fits_0 (q := 1) rfl ?_
  refine xr_istore_n i_X3_fits_1 rfl (L2 := [some (.int v0), some (.ref v1), some (.int (Int32.ofInt 0))]) rfl (q := 2) rfl ?_
  exact xi_X_le (xi_le_s (xi_le_s (xi_le_s xi_le_z))) (xs_X3_fits_2 10000 _ _ _ _ h)
set_option maxRecDepth 100000 in
theorem po_X3_fits {l : Launch} {E : xi_E} {S : xi_S} {D : va_G} {tys : List (ClassId × FieldType)} (hC : xCx E S tys) : xi_Pok l E S D vwCl tys xNs RX3 xTs cX3_fits 3 0 (P_X3_fits S) := ⟨xi_dc_ok, by rw [hC.2]; exact xfo_X3, xkio_X3, xklo_X3, xi_calls_ok (ins := .invokestatic) (fun _ h => absurd h List.not_mem_nil), xi_calls_ok (ins := .invokevirtual) (fun _ h => absurd h List.not_mem_nil)⟩
theorem sn_X3_fits {l : Launch} {E : xi_E} {S : xi_S} {D : va_G} {tys : List (ClassId × FieldType)} (hC : xCx E S tys) : ∀ As m1 r m2, F_X3_fits S As m1 = some (r, m2) → xi_Sound l E S D vwCl tys xNs xTs yX3_fits cX3_fits 3 (some .boolean) 0 As m1 r m2 := by
  intro As m1 r m2 h
  unfold F_X3_fits at h
  split at h
  · exact xi_meth (P := P_X3_fits S) (by decide) hC.1 (po_X3_fits hC) (Nat.le_of_ble_eq_true rfl) rfl (xe_X3_fits _ _ _ h)
  · exact xi_no h
theorem i_X3_addPair_0 : xi_dc cX3_addPair 0 = some (.aload_n 0, 1) := by decide +kernel
theorem i_X3_addPair_1 : xi_dc cX3_addPair 1 = some (.getfield 15, 3) := by decide +kernel
theorem i_X3_addPair_4 : xi_dc cX3_addPair 4 = some (.ifCond .ne 13, 3) := by decide +kernel
theorem t_X3_addPair_4 : ((4 : Nat) : Int) + 13 = ((17 : Nat) : Int) := by decide +kernel
theorem i_X3_addPair_7 : xi_dc cX3_addPair 7 = some (.aload_n 0, 1) := by decide +kernel
theorem i_X3_addPair_8 : xi_dc cX3_addPair 8 = some (.bipush 32, 2) := by decide +kernel
theorem i_X3_addPair_10 : xi_dc cX3_addPair 10 = some (.iload_n 1, 1) := by decide +kernel
theorem i_X3_addPair_11 : xi_dc cX3_addPair 11 = some (.imul, 1) := by decide +kernel
theorem i_X3_addPair_12 : xi_dc cX3_addPair 12 = some (.iload_n 2, 1) := by decide +kernel
theorem i_X3_addPair_13 : xi_dc cX3_addPair 13 = some (.iadd, 1) := by decide +kernel
theorem i_X3_addPair_14 : xi_dc cX3_addPair 14 = some (.putfield 19, 3) := by decide +kernel
theorem i_X3_addPair_17 : xi_dc cX3_addPair 17 = some (.aload_n 0, 1) := by decide +kernel
theorem i_X3_addPair_18 : xi_dc cX3_addPair 18 = some (.dup, 1) := by decide +kernel
theorem i_X3_addPair_19 : xi_dc cX3_addPair 19 = some (.getfield 15, 3) := by decide +kernel
theorem i_X3_addPair_22 : xi_dc cX3_addPair 22 = some (.iconst 1, 1) := by decide +kernel
theorem i_X3_addPair_23 : xi_dc cX3_addPair 23 = some (.iadd, 1) := by decide +kernel
theorem i_X3_addPair_24 : xi_dc cX3_addPair 24 = some (.putfield 15, 3) := by decide +kernel
theorem i_X3_addPair_27 : xi_dc cX3_addPair 27 = some (.iconst 0, 1) := by decide +kernel
theorem i_X3_addPair_28 : xi_dc cX3_addPair 28 = some (.istore 4, 2) := by decide +kernel
theorem i_X3_addPair_30 : xi_dc cX3_addPair 30 = some (.iload 4, 2) := by decide +kernel
theorem i_X3_addPair_32 : xi_dc cX3_addPair 32 = some (.bipush 20, 2) := by decide +kernel
theorem i_X3_addPair_34 : xi_dc cX3_addPair 34 = some (.if_icmp .gt 25, 3) := by decide +kernel
theorem t_X3_addPair_34 : ((34 : Nat) : Int) + 25 = ((59 : Nat) : Int) := by decide +kernel
theorem i_X3_addPair_37 : xi_dc cX3_addPair 37 = some (.aload_n 0, 1) := by decide +kernel
theorem i_X3_addPair_38 : xi_dc cX3_addPair 38 = some (.getfield 9, 3) := by decide +kernel
theorem i_X3_addPair_41 : xi_dc cX3_addPair 41 = some (.iload 4, 2) := by decide +kernel
theorem i_X3_addPair_43 : xi_dc cX3_addPair 43 = some (.dup2, 1) := by decide +kernel
theorem i_X3_addPair_44 : xi_dc cX3_addPair 44 = some (.iaload, 1) := by decide +kernel
theorem i_X3_addPair_45 : xi_dc cX3_addPair 45 = some (.iload_n 3, 1) := by decide +kernel
theorem i_X3_addPair_46 : xi_dc cX3_addPair 46 = some (.iload 4, 2) := by decide +kernel
theorem i_X3_addPair_48 : xi_dc cX3_addPair 48 = some (.ishr, 1) := by decide +kernel
theorem i_X3_addPair_49 : xi_dc cX3_addPair 49 = some (.iconst 1, 1) := by decide +kernel
theorem i_X3_addPair_50 : xi_dc cX3_addPair 50 = some (.iand, 1) := by decide +kernel
theorem i_X3_addPair_51 : xi_dc cX3_addPair 51 = some (.iadd, 1) := by decide +kernel
theorem i_X3_addPair_52 : xi_dc cX3_addPair 52 = some (.iastore, 1) := by decide +kernel
theorem i_X3_addPair_53 : xi_dc cX3_addPair 53 = some (.iinc 4 1, 3) := by decide +kernel
theorem i_X3_addPair_56 : xi_dc cX3_addPair 56 = some (.goto (-26), 3) := by decide +kernel
theorem t_X3_addPair_56 : ((56 : Nat) : Int) + (-26) = ((30 : Nat) : Int) := by decide +kernel
theorem i_X3_addPair_59 : xi_dc cX3_addPair 59 = some (.return_, 1) := by decide +kernel
def P_X3_addPair (S : xi_S) : xi_P := (xi_dc cX3_addPair, xi_tab xfl_X3, xi_tab xki_X3, xi_tab xkl_X3, xi_tab xcs_X3, xi_tab xcv_X3, xi_calls [], xi_calls [], 0)
def G_X3_addPair_30 (S : xi_S) : Nat → Nat → Int32 → Int32 → xi_M → Option xi_R
  | 0, _, _, _, _ => none
  | n + 1, v0, v3, v4, m =>
    if ((Int8.ofInt 20).toInt32) < v4 then
      some (none, m)
    else
      if S.1 v0 = 6 then (S.2.2 v0 2).bind fun b2 =>
        if S.1 b2 = 0 ∧ ¬ (v4 < 0 ∨ S.2.1 b2 ≤ Int32.toNatClampNeg v4) then
          if S.1 b2 = 0 ∧ ¬ (v4 < 0 ∨ S.2.1 b2 ≤ Int32.toNatClampNeg v4) then
            G_X3_addPair_30 S n v0 v3 (v4 + Int32.ofInt 1) (xi_wI m b2 (Int32.toNatClampNeg v4) ((m.1 b2 (Int32.toNatClampNeg v4)) + ((v3 >>> (v4 &&& 31)) &&& (Int32.ofInt 1))))
          else none
        else none
      else none
set_option maxRecDepth 100000 in
set_option maxHeartbeats 4000000 in
theorem xs_X3_addPair_30 {S : xi_S} {res : xi_R} : ∀ (n : Nat) (v0 : Nat) (v3 : Int32) (v4 : Int32) (m : xi_M), G_X3_addPair_30 S n v0 v3 v4 m = some res → xi_X S (P_X3_addPair S) (30, [some (.ref v0), none, none, some (.int v3), some (.int v4)], [], m) res := by
  intro n
  induction n with
  | zero => intro v0 v3 v4 m h; exact xi_no h
  | succ n ih =>
    intro v0 v3 v4 m h
    unfold G_X3_addPair_30 at h
    refine xr_iload i_X3_addPair_30 rfl (q := 32) rfl ?_
    refine xr_bipush i_X3_addPair_32 (q := 34) rfl ?_
    by_cases c5 : ((Int8.ofInt 20).toInt32) < v4
    · replace h := (if_pos c5).symm.trans h
      refine xr_if_icmp_gt_p i_X3_addPair_34 c5 (q := 59) t_X3_addPair_34 (q2 := 37) rfl ?_
      exact xr_return i_X3_addPair_59 rfl h
    · replace h := (if_neg c5).symm.trans h
      refine xr_if_icmp_gt_n i_X3_addPair_34 c5 (q := 59) t_X3_addPair_34 (q2 := 37) rfl ?_
      refine xr_aload_n i_X3_addPair_37 rfl (q := 38) rfl ?_
      obtain ⟨c1, h⟩ := xi_if_some h
      obtain ⟨b2, eb2, h⟩ := xi_bind_some h
      refine xr_getR i_X3_addPair_38 xfe_X3_9 c1 eb2 (q := 41) rfl ?_
      refine xr_iload i_X3_addPair_41 rfl (q := 43) rfl ?_
      refine xr_dup2 i_X3_addPair_43 (q := 44) rfl ?_
      obtain ⟨c3, h⟩ := xi_if_some h
      refine xr_iaload i_X3_addPair_44 c3 (q := 45) rfl ?_
      refine xr_iload_n i_X3_addPair_45 rfl (q := 46) rfl ?_
      refine xr_iload i_X3_addPair_46 rfl (q := 48) rfl ?_
      refine xr_ishr i_X3_addPair_48 (q := 49) rfl ?_
      refine xr_iconst i_X3_addPair_49 (q := 50) rfl ?_
      refine xr_iand i_X3_addPair_50 (q := 51) rfl ?_
      refine xr_iadd i_X3_addPair_51 (q := 52) rfl ?_
      obtain ⟨c4, h⟩ := xi_if_some h
      refine xr_iastore i_X3_addPair_52 c4 (q := 53) rfl ?_
      refine xr_iinc i_X3_addPair_53 rfl rfl (L2 := [some (.ref v0), none, none, some (.int v3), some (.int (v4 + Int32.ofInt 1))]) rfl (q := 56) rfl ?_
      refine xr_goto i_X3_addPair_56 (q := 30) t_X3_addPair_56 ?_
      exact xi_X_le (xi_le_s (xi_le_n (xi_le_n (xi_le_s (xi_le_s xi_le_z))))) (ih _ _ _ _ h)
def E_X3_addPair (S : xi_S) (v0 : Nat) (v1 : Int32) (v2 : Int32) (v3 : Int32) (m : xi_M) : Option xi_R :=
  if S.1 v0 = 6 then
    if (m.1 v0 0) = 0 then
      if S.1 v0 = 6 then
        if S.1 v0 = 6 then
          if S.1 v0 = 6 then
            G_X3_addPair_30 S 10000 v0 v3 (Int32.ofInt 0) (xi_wI (xi_wI m v0 1 ((((Int8.ofInt 32).toInt32) * v1) + v2)) v0 0 (((xi_wI m v0 1 ((((Int8.ofInt 32).toInt32) * v1) + v2)).1 v0 0) + (Int32.ofInt 1)))
          else none
        else none
      else none
    else
      if S.1 v0 = 6 then
        if S.1 v0 = 6 then
          G_X3_addPair_30 S 10000 v0 v3 (Int32.ofInt 0) (xi_wI m v0 0 ((m.1 v0 0) + (Int32.ofInt 1)))
        else none
      else none
  else none
def F_X3_addPair (S : xi_S) : xi_F := fun As m => match As with
  | [.ref v0, .int v1, .int v2, .int v3] => E_X3_addPair S v0 v1 v2 v3 m
  | _ => none
set_option maxRecDepth 100000 in
set_option maxHeartbeats 4000000 in
theorem xe_X3_addPair {S : xi_S} {res : xi_R} (v0 : Nat) (v1 : Int32) (v2 : Int32) (v3 : Int32) (m : xi_M) (h : E_X3_addPair S v0 v1 v2 v3 m = some res) : xi_X S (P_X3_addPair S) (0, [some (.ref v0), some (.int v1), some (.int v2), some (.int v3), none], [], m) res := by
  unfold E_X3_addPair at h
  refine xr_aload_n i_X3_addPair_0 rfl (q := 1) rfl ?_
  obtain ⟨c1, h⟩ := xi_if_some h
  refine xr_getI i_X3_addPair_1 xfe_X3_15 c1 (q := 4) rfl ?_
  by_cases c7 : (m.1 v0 0) = 0
  · replace h := (if_pos c7).symm.trans h
    refine xr_ifCond_ne_p i_X3_addPair_4 c7 (q := 17) t_X3_addPair_4 (q2 := 7) rfl ?_
    refine xr_aload_n i_X3_addPair_7 rfl (q := 8) rfl ?_
    refine xr_bipush i_X3_addPair_8 (q := 10) rfl ?_
    refine xr_iload_n i_X3_addPair_10 rfl (q := 11) rfl ?_
    refine xr_imul i_X3_addPair_11 (q := 12) rfl ?_
    refine xr_iload_n i_X3_addPair_12 rfl (q := 13) rfl ?_
    refine xr_iadd i_X3_addPair_13 (q := 14) rfl ?_
    obtain ⟨c4, h⟩ := xi_if_some h
    refine xr_putI i_X3_addPair_14 xfe_X3_19 c4 (q := 17) rfl ?_
    refine xr_aload_n i_X3_addPair_17 rfl (q := 18) rfl ?_
    refine xr_dup_r i_X3_addPair_18 (q := 19) rfl ?_
    obtain ⟨c5, h⟩ := xi_if_some h
    refine xr_getI i_X3_addPair_19 xfe_X3_15 c5 (q := 22) rfl ?_
    refine xr_iconst i_X3_addPair_22 (q := 23) rfl ?_
    refine xr_iadd i_X3_addPair_23 (q := 24) rfl ?_
    obtain ⟨c6, h⟩ := xi_if_some h
    refine xr_putI i_X3_addPair_24 xfe_X3_15 c6 (q := 27) rfl ?_
    refine xr_iconst i_X3_addPair_27 (q := 28) rfl ?_
    refine xr_istore i_X3_addPair_28 rfl (L2 := [some (.ref v0), some (.int v1), some (.int v2), some (.int v3), some (.int (Int32.ofInt 0))]) rfl (q := 30) rfl ?_
    exact xi_X_le (xi_le_s (xi_le_n (xi_le_n (xi_le_s (xi_le_s xi_le_z))))) (xs_X3_addPair_30 10000 _ _ _ _ h)
  · replace h := (if_neg c7).symm.trans h
    refine xr_ifCond_ne_n i_X3_addPair_4 c7 (q := 17) t_X3_addPair_4 (q2 := 7) rfl ?_
    refine xr_aload_n i_X3_addPair_17 rfl (q := 18) rfl ?_
    refine xr_dup_r i_X3_addPair_18 (q := 19) rfl ?_
    obtain ⟨c2, h⟩ := xi_if_some h
    refine xr_getI i_X3_addPair_19 xfe_X3_15 c2 (q := 22) rfl ?_
    refine xr_iconst i_X3_addPair_22 (q := 23) rfl ?_
    refine xr_iadd i_X3_addPair_23 (q := 24) rfl ?_
    obtain ⟨c3, h⟩ := xi_if_some h
    refine xr_putI i_X3_addPair_24 xfe_X3_15 c3 (q := 27) rfl ?_
    refine xr_iconst i_X3_addPair_27 (q := 28) rfl ?_
    refine xr_istore i_X3_addPair_28 rfl (L2 := [some (.ref v0), some (.int v1), some (.int v2), some (.int v3), some (.int (Int32.ofInt 0))]) rfl (q := 30) rfl ?_
    exact xi_X_le (xi_le_s (xi_le_n (xi_le_n (xi_le_s (xi_le_s xi_le_z))))) (xs_X3_addPair_30 10000 _ _ _ _ h)
set_option maxRecDepth 100000 in
theorem po_X3_addPair {l : Launch} {E : xi_E} {S : xi_S} {D : va_G} {tys : List (ClassId × FieldType)} (hC : xCx E S tys) : xi_Pok l E S D vwCl tys xNs RX3 xTs cX3_addPair 5 0 (P_X3_addPair S) := ⟨xi_dc_ok, by rw [hC.2]; exact xfo_X3, xkio_X3, xklo_X3, xi_calls_ok (ins := .invokestatic) (fun _ h => absurd h List.not_mem_nil), xi_calls_ok (ins := .invokevirtual) (fun _ h => absurd h List.not_mem_nil)⟩
theorem sn_X3_addPair {l : Launch} {E : xi_E} {S : xi_S} {D : va_G} {tys : List (ClassId × FieldType)} (hC : xCx E S tys) : ∀ As m1 r m2, F_X3_addPair S As m1 = some (r, m2) → xi_Sound l E S D vwCl tys xNs xTs yX3_addPair cX3_addPair 5 none 0 As m1 r m2 := by
  intro As m1 r m2 h
  unfold F_X3_addPair at h
  split at h
  · exact xi_meth (P := P_X3_addPair S) (by decide) hC.1 (po_X3_addPair hC) (Nat.le_of_ble_eq_true rfl) rfl (xe_X3_addPair _ _ _ _ _ h)
  · exact xi_no h
theorem i_X3_weigh_0 : xi_dc cX3_weigh 0 = some (.aload_n 0, 1) := by decide +kernel
theorem i_X3_weigh_1 : xi_dc cX3_weigh 1 = some (.iconst 0, 1) := by decide +kernel
theorem i_X3_weigh_2 : xi_dc cX3_weigh 2 = some (.putfield 15, 3) := by decide +kernel
theorem i_X3_weigh_5 : xi_dc cX3_weigh 5 = some (.aload_n 0, 1) := by decide +kernel
theorem i_X3_weigh_6 : xi_dc cX3_weigh 6 = some (.bipush (-9), 2) := by decide +kernel
theorem i_X3_weigh_8 : xi_dc cX3_weigh 8 = some (.putfield 19, 3) := by decide +kernel
theorem i_X3_weigh_11 : xi_dc cX3_weigh 11 = some (.aload_n 0, 1) := by decide +kernel
theorem i_X3_weigh_12 : xi_dc cX3_weigh 12 = some (.getfield 9, 3) := by decide +kernel
theorem i_X3_weigh_15 : xi_dc cX3_weigh 15 = some (.iconst 0, 1) := by decide +kernel
theorem i_X3_weigh_16 : xi_dc cX3_weigh 16 = some (.invokestatic 22, 3) := by decide +kernel
theorem i_X3_weigh_19 : xi_dc cX3_weigh 19 = some (.aload_n 1, 1) := by decide +kernel
theorem i_X3_weigh_20 : xi_dc cX3_weigh 20 = some (.iload_n 2, 1) := by decide +kernel
theorem i_X3_weigh_21 : xi_dc cX3_weigh 21 = some (.invokevirtual 28, 3) := by decide +kernel
theorem i_X3_weigh_24 : xi_dc cX3_weigh 24 = some (.istore 4, 2) := by decide +kernel
theorem i_X3_weigh_26 : xi_dc cX3_weigh 26 = some (.iconst 0, 1) := by decide +kernel
theorem i_X3_weigh_27 : xi_dc cX3_weigh 27 = some (.istore 5, 2) := by decide +kernel
theorem i_X3_weigh_29 : xi_dc cX3_weigh 29 = some (.iload 5, 2) := by decide +kernel
theorem i_X3_weigh_31 : xi_dc cX3_weigh 31 = some (.bipush 20, 2) := by decide +kernel
theorem i_X3_weigh_33 : xi_dc cX3_weigh 33 = some (.if_icmp .ge 63, 3) := by decide +kernel
theorem t_X3_weigh_33 : ((33 : Nat) : Int) + 63 = ((96 : Nat) : Int) := by decide +kernel
theorem i_X3_weigh_36 : xi_dc cX3_weigh 36 = some (.iload 5, 2) := by decide +kernel
theorem i_X3_weigh_38 : xi_dc cX3_weigh 38 = some (.iconst 1, 1) := by decide +kernel
theorem i_X3_weigh_39 : xi_dc cX3_weigh 39 = some (.iadd, 1) := by decide +kernel
theorem i_X3_weigh_40 : xi_dc cX3_weigh 40 = some (.istore 6, 2) := by decide +kernel
theorem i_X3_weigh_42 : xi_dc cX3_weigh 42 = some (.iload 6, 2) := by decide +kernel
theorem i_X3_weigh_44 : xi_dc cX3_weigh 44 = some (.bipush 20, 2) := by decide +kernel
theorem i_X3_weigh_46 : xi_dc cX3_weigh 46 = some (.if_icmp .gt 44, 3) := by decide +kernel
theorem t_X3_weigh_46 : ((46 : Nat) : Int) + 44 = ((90 : Nat) : Int) := by decide +kernel
theorem i_X3_weigh_49 : xi_dc cX3_weigh 49 = some (.aload_n 1, 1) := by decide +kernel
theorem i_X3_weigh_50 : xi_dc cX3_weigh 50 = some (.getfield 34, 3) := by decide +kernel
theorem i_X3_weigh_53 : xi_dc cX3_weigh 53 = some (.iload 5, 2) := by decide +kernel
theorem i_X3_weigh_55 : xi_dc cX3_weigh 55 = some (.iload 6, 2) := by decide +kernel
theorem i_X3_weigh_57 : xi_dc cX3_weigh 57 = some (.invokestatic 37, 3) := by decide +kernel
theorem i_X3_weigh_60 : xi_dc cX3_weigh 60 = some (.iload 4, 2) := by decide +kernel
theorem i_X3_weigh_62 : xi_dc cX3_weigh 62 = some (.iand, 1) := by decide +kernel
theorem i_X3_weigh_63 : xi_dc cX3_weigh 63 = some (.istore 7, 2) := by decide +kernel
theorem i_X3_weigh_65 : xi_dc cX3_weigh 65 = some (.iload 7, 2) := by decide +kernel
theorem i_X3_weigh_67 : xi_dc cX3_weigh 67 = some (.aload_n 3, 1) := by decide +kernel
theorem i_X3_weigh_68 : xi_dc cX3_weigh 68 = some (.invokestatic 41, 3) := by decide +kernel
theorem i_X3_weigh_71 : xi_dc cX3_weigh 71 = some (.ifCond .eq 13, 3) := by decide +kernel
theorem t_X3_weigh_71 : ((71 : Nat) : Int) + 13 = ((84 : Nat) : Int) := by decide +kernel
theorem i_X3_weigh_74 : xi_dc cX3_weigh 74 = some (.aload_n 0, 1) := by decide +kernel
theorem i_X3_weigh_75 : xi_dc cX3_weigh 75 = some (.iload 5, 2) := by decide +kernel
theorem i_X3_weigh_77 : xi_dc cX3_weigh 77 = some (.iload 6, 2) := by decide +kernel
theorem i_X3_weigh_79 : xi_dc cX3_weigh 79 = some (.iload 7, 2) := by decide +kernel
theorem i_X3_weigh_81 : xi_dc cX3_weigh 81 = some (.invokevirtual 45, 3) := by decide +kernel
theorem i_X3_weigh_84 : xi_dc cX3_weigh 84 = some (.iinc 6 1, 3) := by decide +kernel
theorem i_X3_weigh_87 : xi_dc cX3_weigh 87 = some (.goto (-45), 3) := by decide +kernel
theorem t_X3_weigh_87 : ((87 : Nat) : Int) + (-45) = ((42 : Nat) : Int) := by decide +kernel
theorem i_X3_weigh_90 : xi_dc cX3_weigh 90 = some (.iinc 5 1, 3) := by decide +kernel
theorem i_X3_weigh_93 : xi_dc cX3_weigh 93 = some (.goto (-64), 3) := by decide +kernel
theorem t_X3_weigh_93 : ((93 : Nat) : Int) + (-64) = ((29 : Nat) : Int) := by decide +kernel
theorem i_X3_weigh_96 : xi_dc cX3_weigh 96 = some (.return_, 1) := by decide +kernel
def P_X3_weigh (S : xi_S) : xi_P := (xi_dc cX3_weigh, xi_tab xfl_X3, xi_tab xki_X3, xi_tab xkl_X3, xi_tab xcs_X3, xi_tab xcv_X3, xi_calls [(22, xi_wS 2 (F_J7_fill_53178 S)), (37, xi_wS 3 (F_X8_between S)), (41, xi_wS 2 (F_X3_fits S))], xi_calls [(28, xi_wV S 8 1 (F_X6_openPlaces S)), (45, xi_wV S 6 3 (F_X3_addPair S))], 0)
theorem cc_X3_weigh_22 (S : xi_S) (a0 : Nat) (a1 : Int32) (m : xi_M) : (P_X3_weigh S).2.2.2.2.2.2.1 22 [.ref a0, .int a1] m = (E_J7_fill_53178 S a0 a1 m) := by
  show xi_calls [(22, xi_wS 2 (F_J7_fill_53178 S)), (37, xi_wS 3 (F_X8_between S)), (41, xi_wS 2 (F_X3_fits S))] 22 [.ref a0, .int a1] m = _
  refine Eq.trans (b := xi_wS 2 (F_J7_fill_53178 S) [.ref a0, .int a1] m) (xi_calls_hit rfl) ?_
  exact xi_wS_eq rfl
theorem cc_X3_weigh_37 (S : xi_S) (a0 : Int32) (a1 : Int32) (a2 : Int32) (m : xi_M) : (P_X3_weigh S).2.2.2.2.2.2.1 37 [.int a0, .int a1, .int a2] m = (E_X8_between S a0 a1 a2 m) := by
  show xi_calls [(22, xi_wS 2 (F_J7_fill_53178 S)), (37, xi_wS 3 (F_X8_between S)), (41, xi_wS 2 (F_X3_fits S))] 37 [.int a0, .int a1, .int a2] m = _
  refine Eq.trans (b := xi_calls [(37, xi_wS 3 (F_X8_between S)), (41, xi_wS 2 (F_X3_fits S))] 37 [.int a0, .int a1, .int a2] m) (xi_calls_miss rfl) ?_
  refine Eq.trans (b := xi_wS 3 (F_X8_between S) [.int a0, .int a1, .int a2] m) (xi_calls_hit rfl) ?_
  exact xi_wS_eq rfl
theorem cc_X3_weigh_41 (S : xi_S) (a0 : Int32) (a1 : Nat) (m : xi_M) : (P_X3_weigh S).2.2.2.2.2.2.1 41 [.int a0, .ref a1] m = (E_X3_fits S a0 a1 m) := by
  show xi_calls [(22, xi_wS 2 (F_J7_fill_53178 S)), (37, xi_wS 3 (F_X8_between S)), (41, xi_wS 2 (F_X3_fits S))] 41 [.int a0, .ref a1] m = _
  refine Eq.trans (b := xi_calls [(37, xi_wS 3 (F_X8_between S)), (41, xi_wS 2 (F_X3_fits S))] 41 [.int a0, .ref a1] m) (xi_calls_miss rfl) ?_
  refine Eq.trans (b := xi_calls [(41, xi_wS 2 (F_X3_fits S))] 41 [.int a0, .ref a1] m) (xi_calls_miss rfl) ?_
  refine Eq.trans (b := xi_wS 2 (F_X3_fits S) [.int a0, .ref a1] m) (xi_calls_hit rfl) ?_
  exact xi_wS_eq rfl
theorem cc_X3_weigh_28 (S : xi_S) (a0 : Nat) (a1 : Int32) (m : xi_M) : (P_X3_weigh S).2.2.2.2.2.2.2.1 28 [.ref a0, .int a1] m = (if S.1 a0 = 8 then E_X6_openPlaces S a0 a1 m else none) := by
  show xi_calls [(28, xi_wV S 8 1 (F_X6_openPlaces S)), (45, xi_wV S 6 3 (F_X3_addPair S))] 28 [.ref a0, .int a1] m = _
  refine Eq.trans (b := xi_wV S 8 1 (F_X6_openPlaces S) [.ref a0, .int a1] m) (xi_calls_hit rfl) ?_
  exact xi_wV_eq rfl
theorem cc_X3_weigh_45 (S : xi_S) (a0 : Nat) (a1 : Int32) (a2 : Int32) (a3 : Int32) (m : xi_M) : (P_X3_weigh S).2.2.2.2.2.2.2.1 45 [.ref a0, .int a1, .int a2, .int a3] m = (if S.1 a0 = 6 then E_X3_addPair S a0 a1 a2 a3 m else none) := by
  show xi_calls [(28, xi_wV S 8 1 (F_X6_openPlaces S)), (45, xi_wV S 6 3 (F_X3_addPair S))] 45 [.ref a0, .int a1, .int a2, .int a3] m = _
  refine Eq.trans (b := xi_calls [(45, xi_wV S 6 3 (F_X3_addPair S))] 45 [.ref a0, .int a1, .int a2, .int a3] m) (xi_calls_miss rfl) ?_
  refine Eq.trans (b := xi_wV S 6 3 (F_X3_addPair S) [.ref a0, .int a1, .int a2, .int a3] m) (xi_calls_hit rfl) ?_
  exact xi_wV_eq rfl
def G_X3_weigh_42 (S : xi_S) (k29 : Nat → Nat → Nat → Int32 → Int32 → xi_M → Option xi_R) : Nat → Nat → Nat → Nat → Int32 → Int32 → Int32 → xi_M → Option xi_R
  | 0, _, _, _, _, _, _, _ => none
  | n + 1, v0, v1, v3, v4, v5, v6, m =>
    if ((Int8.ofInt 20).toInt32) < v6 then
      k29 v0 v1 v3 v4 (v5 + Int32.ofInt 1) m
    else
      if S.1 v1 = 8 then
        xi_bI (E_X8_between S (m.1 v1 0) v5 v6 m) fun x3 m2 =>
        xi_bI (E_X3_fits S (x3 &&& v4) v3 m2) fun x5 m4 =>
        if x5 = 0 then
          G_X3_weigh_42 S k29 n v0 v1 v3 v4 v5 (v6 + Int32.ofInt 1) m4
        else
          xi_bV (if S.1 v0 = 6 then E_X3_addPair S v0 v5 v6 (x3 &&& v4) m4 else none) fun m6 =>
          G_X3_weigh_42 S k29 n v0 v1 v3 v4 v5 (v6 + Int32.ofInt 1) m6
      else none
set_option maxRecDepth 100000 in
set_option maxHeartbeats 4000000 in
theorem xs_X3_weigh_42 {S : xi_S} {res : xi_R} {k29 : Nat → Nat → Nat → Int32 → Int32 → xi_M → Option xi_R} (hk29 : ∀ (v0 : Nat) (v1 : Nat) (v3 : Nat) (v4 : Int32) (v5 : Int32) (m : xi_M), k29 v0 v1 v3 v4 v5 m = some res → xi_X S (P_X3_weigh S) (29, [some (.ref v0), some (.ref v1), none, some (.ref v3), some (.int v4), some (.int v5), none, none], [], m) res) : ∀ (n : Nat) (v0 : Nat) (v1 : Nat) (v3 : Nat) (v4 : Int32) (v5 : Int32) (v6 : Int32) (m : xi_M), G_X3_weigh_42 S k29 n v0 v1 v3 v4 v5 v6 m = some res → xi_X S (P_X3_weigh S) (42, [some (.ref v0), some (.ref v1), none, some (.ref v3), some (.int v4), some (.int v5), some (.int v6), none], [], m) res := by
  intro n
  induction n with
  | zero => intro v0 v1 v3 v4 v5 v6 m h; exact xi_no h
  | succ n ih =>
    intro v0 v1 v3 v4 v5 v6 m h
    unfold G_X3_weigh_42 at h
    refine xr_iload i_X3_weigh_42 rfl (q := 44) rfl ?_
    refine xr_bipush i_X3_weigh_44 (q := 46) rfl ?_
    by_cases c8 : ((Int8.ofInt 20).toInt32) < v6
    · replace h := (if_pos c8).symm.trans h
      refine xr_if_icmp_gt_p i_X3_weigh_46 c8 (q := 90) t_X3_weigh_46 (q2 := 49) rfl ?_
      refine xr_iinc i_X3_weigh_90 rfl rfl (L2 := [some (.ref v0), some (.ref v1), none, some (.ref v3), some (.int v4), some (.int (v5 + Int32.ofInt 1)), some (.int v6), none]) rfl (q := 93) rfl ?_
      refine xr_goto i_X3_weigh_93 (q := 29) t_X3_weigh_93 ?_
      exact xi_X_le (xi_le_s (xi_le_s (xi_le_n (xi_le_s (xi_le_s (xi_le_s (xi_le_n (xi_le_n xi_le_z)))))))) (hk29 _ _ _ _ _ _ h)
    · replace h := (if_neg c8).symm.trans h
      refine xr_if_icmp_gt_n i_X3_weigh_46 c8 (q := 90) t_X3_weigh_46 (q2 := 49) rfl ?_
      refine xr_aload_n i_X3_weigh_49 rfl (q := 50) rfl ?_
      obtain ⟨c1, h⟩ := xi_if_some h
      refine xr_getI i_X3_weigh_50 xfe_X3_34 c1 (q := 53) rfl ?_
      refine xr_iload i_X3_weigh_53 rfl (q := 55) rfl ?_
      refine xr_iload i_X3_weigh_55 rfl (q := 57) rfl ?_
      obtain ⟨x3, m2, em2, h⟩ := xi_bI_some h
      refine xr_SI i_X3_weigh_57 xcse_X3_37 rfl (As := [.int (m.1 v1 0), .int v5, .int v6]) rfl (rest := []) rfl ((cc_X3_weigh_37 S _ _ _ _).trans em2) (q := 60) rfl ?_
      refine xr_iload i_X3_weigh_60 rfl (q := 62) rfl ?_
      refine xr_iand i_X3_weigh_62 (q := 63) rfl ?_
      refine xr_istore i_X3_weigh_63 rfl (L2 := [some (.ref v0), some (.ref v1), none, some (.ref v3), some (.int v4), some (.int v5), some (.int v6), some (.int (x3 &&& v4))]) rfl (q := 65) rfl ?_
      refine xr_iload i_X3_weigh_65 rfl (q := 67) rfl ?_
      refine xr_aload_n i_X3_weigh_67 rfl (q := 68) rfl ?_
      obtain ⟨x5, m4, em4, h⟩ := xi_bI_some h
      refine xr_SI i_X3_weigh_68 xcse_X3_41 rfl (As := [.int (x3 &&& v4), .ref v3]) rfl (rest := []) rfl ((cc_X3_weigh_41 S _ _ _).trans em4) (q := 71) rfl ?_
      by_cases c7 : x5 = 0
      · replace h := (if_pos c7).symm.trans h
        refine xr_ifCond_eq_p i_X3_weigh_71 c7 (q := 84) t_X3_weigh_71 (q2 := 74) rfl ?_
        refine xr_iinc i_X3_weigh_84 rfl rfl (L2 := [some (.ref v0), some (.ref v1), none, some (.ref v3), some (.int v4), some (.int v5), some (.int (v6 + Int32.ofInt 1)), some (.int (x3 &&& v4))]) rfl (q := 87) rfl ?_
        refine xr_goto i_X3_weigh_87 (q := 42) t_X3_weigh_87 ?_
        exact xi_X_le (xi_le_s (xi_le_s (xi_le_n (xi_le_s (xi_le_s (xi_le_s (xi_le_s (xi_le_n xi_le_z)))))))) (ih _ _ _ _ _ _ _ h)
      · replace h := (if_neg c7).symm.trans h
        refine xr_ifCond_eq_n i_X3_weigh_71 c7 (q := 84) t_X3_weigh_71 (q2 := 74) rfl ?_
        refine xr_aload_n i_X3_weigh_74 rfl (q := 75) rfl ?_
        refine xr_iload i_X3_weigh_75 rfl (q := 77) rfl ?_
        refine xr_iload i_X3_weigh_77 rfl (q := 79) rfl ?_
        refine xr_iload i_X3_weigh_79 rfl (q := 81) rfl ?_
        obtain ⟨m6, em6, h⟩ := xi_bV_some h
        refine xr_VV i_X3_weigh_81 xcve_X3_45 rfl (As := [.ref v0, .int v5, .int v6, .int (x3 &&& v4)]) rfl (rest := []) rfl ((cc_X3_weigh_45 S _ _ _ _ _).trans em6) (q := 84) rfl ?_
        refine xr_iinc i_X3_weigh_84 rfl rfl (L2 := [some (.ref v0), some (.ref v1), none, some (.ref v3), some (.int v4), some (.int v5), some (.int (v6 + Int32.ofInt 1)), some (.int (x3 &&& v4))]) rfl (q := 87) rfl ?_
        refine xr_goto i_X3_weigh_87 (q := 42) t_X3_weigh_87 ?_
        exact xi_X_le (xi_le_s (xi_le_s (xi_le_n (xi_le_s (xi_le_s (xi_le_s (xi_le_s (xi_le_n xi_le_z)))))))) (ih _ _ _ _ _ _ _ h)
def G_X3_weigh_29 (S : xi_S) : Nat → Nat → Nat → Nat → Int32 → Int32 → xi_M → Option xi_R
  | 0, _, _, _, _, _, _ => none
  | n + 1, v0, v1, v3, v4, v5, m =>
    if ((Int8.ofInt 20).toInt32) ≤ v5 then
      some (none, m)
    else
      G_X3_weigh_42 S (G_X3_weigh_29 S n) 10000 v0 v1 v3 v4 v5 (v5 + (Int32.ofInt 1)) m
set_option maxRecDepth 100000 in
set_option maxHeartbeats 4000000 in
theorem xs_X3_weigh_29 {S : xi_S} {res : xi_R} : ∀ (n : Nat) (v0 : Nat) (v1 : Nat) (v3 : Nat) (v4 : Int32) (v5 : Int32) (m : xi_M), G_X3_weigh_29 S n v0 v1 v3 v4 v5 m = some res → xi_X S (P_X3_weigh S) (29, [some (.ref v0), some (.ref v1), none, some (.ref v3), some (.int v4), some (.int v5), none, none], [], m) res := by
  intro n
  induction n with
  | zero => intro v0 v1 v3 v4 v5 m h; exact xi_no h
  | succ n ih =>
    intro v0 v1 v3 v4 v5 m h
    unfold G_X3_weigh_29 at h
    refine xr_iload i_X3_weigh_29 rfl (q := 31) rfl ?_
    refine xr_bipush i_X3_weigh_31 (q := 33) rfl ?_
    by_cases c1 : ((Int8.ofInt 20).toInt32) ≤ v5
    · replace h := (if_pos c1).symm.trans h
      refine xr_if_icmp_ge_p i_X3_weigh_33 c1 (q := 96) t_X3_weigh_33 (q2 := 36) rfl ?_
      exact xr_return i_X3_weigh_96 rfl h
    · replace h := (if_neg c1).symm.trans h
      refine xr_if_icmp_ge_n i_X3_weigh_33 c1 (q := 96) t_X3_weigh_33 (q2 := 36) rfl ?_
      refine xr_iload i_X3_weigh_36 rfl (q := 38) rfl ?_
      refine xr_iconst i_X3_weigh_38 (q := 39) rfl ?_
      refine xr_iadd i_X3_weigh_39 (q := 40) rfl ?_
      refine xr_istore i_X3_weigh_40 rfl (L2 := [some (.ref v0), some (.ref v1), none, some (.ref v3), some (.int v4), some (.int v5), some (.int (v5 + (Int32.ofInt 1))), none]) rfl (q := 42) rfl ?_
      exact xi_X_le (xi_le_s (xi_le_s (xi_le_n (xi_le_s (xi_le_s (xi_le_s (xi_le_s (xi_le_n xi_le_z)))))))) (xs_X3_weigh_42 ih 10000 _ _ _ _ _ _ _ h)
def E_X3_weigh (S : xi_S) (v0 : Nat) (v1 : Nat) (v2 : Int32) (v3 : Nat) (m : xi_M) : Option xi_R :=
  if S.1 v0 = 6 then
    if S.1 v0 = 6 then
      if S.1 v0 = 6 then (S.2.2 v0 2).bind fun b4 =>
        xi_bV (E_J7_fill_53178 S b4 (Int32.ofInt 0) (xi_wI (xi_wI m v0 0 (Int32.ofInt 0)) v0 1 ((Int8.ofInt (-9)).toInt32))) fun m5 =>
        xi_bI (if S.1 v1 = 8 then E_X6_openPlaces S v1 v2 m5 else none) fun x7 m6 =>
        G_X3_weigh_29 S 10000 v0 v1 v3 x7 (Int32.ofInt 0) m6
      else none
    else none
  else none
def F_X3_weigh (S : xi_S) : xi_F := fun As m => match As with
  | [.ref v0, .ref v1, .int v2, .ref v3] => E_X3_weigh S v0 v1 v2 v3 m
  | _ => none
set_option maxRecDepth 100000 in
set_option maxHeartbeats 4000000 in
theorem xe_X3_weigh {S : xi_S} {res : xi_R} (v0 : Nat) (v1 : Nat) (v2 : Int32) (v3 : Nat) (m : xi_M) (h : E_X3_weigh S v0 v1 v2 v3 m = some res) : xi_X S (P_X3_weigh S) (0, [some (.ref v0), some (.ref v1), some (.int v2), some (.ref v3), none, none, none, none], [], m) res := by
  unfold E_X3_weigh at h
  refine xr_aload_n i_X3_weigh_0 rfl (q := 1) rfl ?_
  refine xr_iconst i_X3_weigh_1 (q := 2) rfl ?_
  obtain ⟨c1, h⟩ := xi_if_some h
  refine xr_putI i_X3_weigh_2 xfe_X3_15 c1 (q := 5) rfl ?_
  refine xr_aload_n i_X3_weigh_5 rfl (q := 6) rfl ?_
  refine xr_bipush i_X3_weigh_6 (q := 8) rfl ?_
  obtain ⟨c2, h⟩ := xi_if_some h
  refine xr_putI i_X3_weigh_8 xfe_X3_19 c2 (q := 11) rfl ?_
  refine xr_aload_n i_X3_weigh_11 rfl (q := 12) rfl ?_
  obtain ⟨c3, h⟩ := xi_if_some h
  obtain ⟨b4, eb4, h⟩ := xi_bind_some h
  refine xr_getR i_X3_weigh_12 xfe_X3_9 c3 eb4 (q := 15) rfl ?_
  refine xr_iconst i_X3_weigh_15 (q := 16) rfl ?_
  obtain ⟨m5, em5, h⟩ := xi_bV_some h
  refine xr_SV i_X3_weigh_16 xcse_X3_22 rfl (As := [.ref b4, .int (Int32.ofInt 0)]) rfl (rest := []) rfl ((cc_X3_weigh_22 S _ _ _).trans em5) (q := 19) rfl ?_
  refine xr_aload_n i_X3_weigh_19 rfl (q := 20) rfl ?_
  refine xr_iload_n i_X3_weigh_20 rfl (q := 21) rfl ?_
  obtain ⟨x7, m6, em6, h⟩ := xi_bI_some h
  refine xr_VI i_X3_weigh_21 xcve_X3_28 rfl (As := [.ref v1, .int v2]) rfl (rest := []) rfl ((cc_X3_weigh_28 S _ _ _).trans em6) (q := 24) rfl ?_
  refine xr_istore i_X3_weigh_24 rfl (L2 := [some (.ref v0), some (.ref v1), some (.int v2), some (.ref v3), some (.int x7), none, none, none]) rfl (q := 26) rfl ?_
  refine xr_iconst i_X3_weigh_26 (q := 27) rfl ?_
  refine xr_istore i_X3_weigh_27 rfl (L2 := [some (.ref v0), some (.ref v1), some (.int v2), some (.ref v3), some (.int x7), some (.int (Int32.ofInt 0)), none, none]) rfl (q := 29) rfl ?_
  exact xi_X_le (xi_le_s (xi_le_s (xi_le_n (xi_le_s (xi_le_s (xi_le_s (xi_le_n (xi_le_n xi_le_z)))))))) (xs_X3_weigh_29 10000 _ _ _ _ _ _ h)
set_option maxRecDepth 100000 in
theorem po_X3_weigh {l : Launch} {E : xi_E} {S : xi_S} {D : va_G} {tys : List (ClassId × FieldType)} (hC : xCx E S tys) : xi_Pok l E S D vwCl tys xNs RX3 xTs cX3_weigh 8 3 (P_X3_weigh S) := ⟨xi_dc_ok, by rw [hC.2]; exact xfo_X3, xkio_X3, xklo_X3, xi_calls_ok (ins := .invokestatic) (List.forall_mem_cons.mpr ⟨(xc_X3_22 (sn_J7_fill_53178 hC) (by decide)), List.forall_mem_cons.mpr ⟨(xc_X3_37 (sn_X8_between hC) (by decide)), List.forall_mem_cons.mpr ⟨(xc_X3_41 (sn_X3_fits hC) (by decide)), fun _ h => absurd h List.not_mem_nil⟩⟩⟩), xi_calls_ok (ins := .invokevirtual) (List.forall_mem_cons.mpr ⟨(xc_X3_28 hC.1 (sn_X6_openPlaces hC) (by decide)), List.forall_mem_cons.mpr ⟨(xc_X3_45 hC.1 (sn_X3_addPair hC) (by decide)), fun _ h => absurd h List.not_mem_nil⟩⟩)⟩
theorem sn_X3_weigh {l : Launch} {E : xi_E} {S : xi_S} {D : va_G} {tys : List (ClassId × FieldType)} (hC : xCx E S tys) : ∀ As m1 r m2, F_X3_weigh S As m1 = some (r, m2) → xi_Sound l E S D vwCl tys xNs xTs yX3_weigh cX3_weigh 8 none 3 As m1 r m2 := by
  intro As m1 r m2 h
  unfold F_X3_weigh at h
  split at h
  · exact xi_meth (P := P_X3_weigh S) (by decide) hC.1 (po_X3_weigh hC) (Nat.le_of_ble_eq_true rfl) rfl (xe_X3_weigh _ _ _ _ _ h)
  · exact xi_no h
theorem i_X3_placesInWith_0 : xi_dc cX3_placesInWith 0 = some (.iconst 0, 1) := by decide +kernel
theorem i_X3_placesInWith_1 : xi_dc cX3_placesInWith 1 = some (.istore_n 2, 1) := by decide +kernel
theorem i_X3_placesInWith_2 : xi_dc cX3_placesInWith 2 = some (.iconst 0, 1) := by decide +kernel
theorem i_X3_placesInWith_3 : xi_dc cX3_placesInWith 3 = some (.istore_n 3, 1) := by decide +kernel
theorem i_X3_placesInWith_4 : xi_dc cX3_placesInWith 4 = some (.iload_n 3, 1) := by decide +kernel
theorem i_X3_placesInWith_5 : xi_dc cX3_placesInWith 5 = some (.bipush 20, 2) := by decide +kernel
theorem i_X3_placesInWith_7 : xi_dc cX3_placesInWith 7 = some (.if_icmp .gt 25, 3) := by decide +kernel
theorem t_X3_placesInWith_7 : ((7 : Nat) : Int) + 25 = ((32 : Nat) : Int) := by decide +kernel
theorem i_X3_placesInWith_10 : xi_dc cX3_placesInWith 10 = some (.aload_n 0, 1) := by decide +kernel
theorem i_X3_placesInWith_11 : xi_dc cX3_placesInWith 11 = some (.getfield 9, 3) := by decide +kernel
theorem i_X3_placesInWith_14 : xi_dc cX3_placesInWith 14 = some (.iload_n 3, 1) := by decide +kernel
theorem i_X3_placesInWith_15 : xi_dc cX3_placesInWith 15 = some (.iaload, 1) := by decide +kernel
theorem i_X3_placesInWith_16 : xi_dc cX3_placesInWith 16 = some (.iload_n 1, 1) := by decide +kernel
theorem i_X3_placesInWith_17 : xi_dc cX3_placesInWith 17 = some (.if_icmp .ne 9, 3) := by decide +kernel
theorem t_X3_placesInWith_17 : ((17 : Nat) : Int) + 9 = ((26 : Nat) : Int) := by decide +kernel
theorem i_X3_placesInWith_20 : xi_dc cX3_placesInWith 20 = some (.iload_n 2, 1) := by decide +kernel
theorem i_X3_placesInWith_21 : xi_dc cX3_placesInWith 21 = some (.iconst 1, 1) := by decide +kernel
theorem i_X3_placesInWith_22 : xi_dc cX3_placesInWith 22 = some (.iload_n 3, 1) := by decide +kernel
theorem i_X3_placesInWith_23 : xi_dc cX3_placesInWith 23 = some (.ishl, 1) := by decide +kernel
theorem i_X3_placesInWith_24 : xi_dc cX3_placesInWith 24 = some (.ior, 1) := by decide +kernel
theorem i_X3_placesInWith_25 : xi_dc cX3_placesInWith 25 = some (.istore_n 2, 1) := by decide +kernel
theorem i_X3_placesInWith_26 : xi_dc cX3_placesInWith 26 = some (.iinc 3 1, 3) := by decide +kernel
theorem i_X3_placesInWith_29 : xi_dc cX3_placesInWith 29 = some (.goto (-25), 3) := by decide +kernel
theorem t_X3_placesInWith_29 : ((29 : Nat) : Int) + (-25) = ((4 : Nat) : Int) := by decide +kernel
theorem i_X3_placesInWith_32 : xi_dc cX3_placesInWith 32 = some (.iload_n 2, 1) := by decide +kernel
theorem i_X3_placesInWith_33 : xi_dc cX3_placesInWith 33 = some (.ireturn, 1) := by decide +kernel
def P_X3_placesInWith (S : xi_S) : xi_P := (xi_dc cX3_placesInWith, xi_tab xfl_X3, xi_tab xki_X3, xi_tab xkl_X3, xi_tab xcs_X3, xi_tab xcv_X3, xi_calls [], xi_calls [], 1)
def G_X3_placesInWith_4 (S : xi_S) : Nat → Nat → Int32 → Int32 → Int32 → xi_M → Option xi_R
  | 0, _, _, _, _, _ => none
  | n + 1, v0, v1, v2, v3, m =>
    if ((Int8.ofInt 20).toInt32) < v3 then
      some (some (.int v2), m)
    else
      if S.1 v0 = 6 then (S.2.2 v0 2).bind fun b2 =>
        if S.1 b2 = 0 ∧ ¬ (v3 < 0 ∨ S.2.1 b2 ≤ Int32.toNatClampNeg v3) then
          if (m.1 b2 (Int32.toNatClampNeg v3)) = v1 then
            G_X3_placesInWith_4 S n v0 v1 (v2 ||| ((Int32.ofInt 1) <<< (v3 &&& 31))) (v3 + Int32.ofInt 1) m
          else
            G_X3_placesInWith_4 S n v0 v1 v2 (v3 + Int32.ofInt 1) m
        else none
      else none
set_option maxRecDepth 100000 in
set_option maxHeartbeats 4000000 in
theorem xs_X3_placesInWith_4 {S : xi_S} {res : xi_R} : ∀ (n : Nat) (v0 : Nat) (v1 : Int32) (v2 : Int32) (v3 : Int32) (m : xi_M), G_X3_placesInWith_4 S n v0 v1 v2 v3 m = some res → xi_X S (P_X3_placesInWith S) (4, [some (.ref v0), some (.int v1), some (.int v2), some (.int v3)], [], m) res := by
  intro n
  induction n with
  | zero => intro v0 v1 v2 v3 m h; exact xi_no h
  | succ n ih =>
    intro v0 v1 v2 v3 m h
    unfold G_X3_placesInWith_4 at h
    refine xr_iload_n i_X3_placesInWith_4 rfl (q := 5) rfl ?_
    refine xr_bipush i_X3_placesInWith_5 (q := 7) rfl ?_
    by_cases c5 : ((Int8.ofInt 20).toInt32) < v3
    · replace h := (if_pos c5).symm.trans h
      refine xr_if_icmp_gt_p i_X3_placesInWith_7 c5 (q := 32) t_X3_placesInWith_7 (q2 := 10) rfl ?_
      refine xr_iload_n i_X3_placesInWith_32 rfl (q := 33) rfl ?_
      exact xr_ireturn i_X3_placesInWith_33 rfl h
    · replace h := (if_neg c5).symm.trans h
      refine xr_if_icmp_gt_n i_X3_placesInWith_7 c5 (q := 32) t_X3_placesInWith_7 (q2 := 10) rfl ?_
      refine xr_aload_n i_X3_placesInWith_10 rfl (q := 11) rfl ?_
      obtain ⟨c1, h⟩ := xi_if_some h
      obtain ⟨b2, eb2, h⟩ := xi_bind_some h
      refine xr_getR i_X3_placesInWith_11 xfe_X3_9 c1 eb2 (q := 14) rfl ?_
      refine xr_iload_n i_X3_placesInWith_14 rfl (q := 15) rfl ?_
      obtain ⟨c3, h⟩ := xi_if_some h
      refine xr_iaload i_X3_placesInWith_15 c3 (q := 16) rfl ?_
      refine xr_iload_n i_X3_placesInWith_16 rfl (q := 17) rfl ?_
      by_cases c4 : (m.1 b2 (Int32.toNatClampNeg v3)) = v1
      · replace h := (if_pos c4).symm.trans h
        refine xr_if_icmp_ne_p i_X3_placesInWith_17 c4 (q := 26) t_X3_placesInWith_17 (q2 := 20) rfl ?_
        refine xr_iload_n i_X3_placesInWith_20 rfl (q := 21) rfl ?_
        refine xr_iconst i_X3_placesInWith_21 (q := 22) rfl ?_
        refine xr_iload_n i_X3_placesInWith_22 rfl (q := 23) rfl ?_
        refine xr_ishl i_X3_placesInWith_23 (q := 24) rfl ?_
        refine xr_ior i_X3_placesInWith_24 (q := 25) rfl ?_
        refine xr_istore_n i_X3_placesInWith_25 rfl (L2 := [some (.ref v0), some (.int v1), some (.int (v2 ||| ((Int32.ofInt 1) <<< (v3 &&& 31)))), some (.int v3)]) rfl (q := 26) rfl ?_
        refine xr_iinc i_X3_placesInWith_26 rfl rfl (L2 := [some (.ref v0), some (.int v1), some (.int (v2 ||| ((Int32.ofInt 1) <<< (v3 &&& 31)))), some (.int (v3 + Int32.ofInt 1))]) rfl (q := 29) rfl ?_
        refine xr_goto i_X3_placesInWith_29 (q := 4) t_X3_placesInWith_29 ?_
        exact xi_X_le (xi_le_s (xi_le_s (xi_le_s (xi_le_s xi_le_z)))) (ih _ _ _ _ _ h)
      · replace h := (if_neg c4).symm.trans h
        refine xr_if_icmp_ne_n i_X3_placesInWith_17 c4 (q := 26) t_X3_placesInWith_17 (q2 := 20) rfl ?_
        refine xr_iinc i_X3_placesInWith_26 rfl rfl (L2 := [some (.ref v0), some (.int v1), some (.int v2), some (.int (v3 + Int32.ofInt 1))]) rfl (q := 29) rfl ?_
        refine xr_goto i_X3_placesInWith_29 (q := 4) t_X3_placesInWith_29 ?_
        exact xi_X_le (xi_le_s (xi_le_s (xi_le_s (xi_le_s xi_le_z)))) (ih _ _ _ _ _ h)
def E_X3_placesInWith (S : xi_S) (v0 : Nat) (v1 : Int32) (m : xi_M) : Option xi_R :=
  G_X3_placesInWith_4 S 10000 v0 v1 (Int32.ofInt 0) (Int32.ofInt 0) m
def F_X3_placesInWith (S : xi_S) : xi_F := fun As m => match As with
  | [.ref v0, .int v1] => E_X3_placesInWith S v0 v1 m
  | _ => none
set_option maxRecDepth 100000 in
set_option maxHeartbeats 4000000 in
theorem xe_X3_placesInWith {S : xi_S} {res : xi_R} (v0 : Nat) (v1 : Int32) (m : xi_M) (h : E_X3_placesInWith S v0 v1 m = some res) : xi_X S (P_X3_placesInWith S) (0, [some (.ref v0), some (.int v1), none, none], [], m) res := by
  unfold E_X3_placesInWith at h
  refine xr_iconst i_X3_placesInWith_0 (q := 1) rfl ?_
  refine xr_istore_n i_X3_placesInWith_1 rfl (L2 := [some (.ref v0), some (.int v1), some (.int (Int32.ofInt 0)), none]) rfl (q := 2) rfl ?_
  refine xr_iconst i_X3_placesInWith_2 (q := 3) rfl ?_
  refine xr_istore_n i_X3_placesInWith_3 rfl (L2 := [some (.ref v0), some (.int v1), some (.int (Int32.ofInt 0)), some (.int (Int32.ofInt 0))]) rfl (q := 4) rfl ?_
  exact xi_X_le (xi_le_s (xi_le_s (xi_le_s (xi_le_s xi_le_z)))) (xs_X3_placesInWith_4 10000 _ _ _ _ _ h)
set_option maxRecDepth 100000 in
theorem po_X3_placesInWith {l : Launch} {E : xi_E} {S : xi_S} {D : va_G} {tys : List (ClassId × FieldType)} (hC : xCx E S tys) : xi_Pok l E S D vwCl tys xNs RX3 xTs cX3_placesInWith 4 0 (P_X3_placesInWith S) := ⟨xi_dc_ok, by rw [hC.2]; exact xfo_X3, xkio_X3, xklo_X3, xi_calls_ok (ins := .invokestatic) (fun _ h => absurd h List.not_mem_nil), xi_calls_ok (ins := .invokevirtual) (fun _ h => absurd h List.not_mem_nil)⟩
theorem sn_X3_placesInWith {l : Launch} {E : xi_E} {S : xi_S} {D : va_G} {tys : List (ClassId × FieldType)} (hC : xCx E S tys) : ∀ As m1 r m2, F_X3_placesInWith S As m1 = some (r, m2) → xi_Sound l E S D vwCl tys xNs xTs yX3_placesInWith cX3_placesInWith 4 (some .int) 0 As m1 r m2 := by
  intro As m1 r m2 h
  unfold F_X3_placesInWith at h
  split at h
  · exact xi_meth (P := P_X3_placesInWith S) (by decide) hC.1 (po_X3_placesInWith hC) (Nat.le_of_ble_eq_true rfl) rfl (xe_X3_placesInWith _ _ _ h)
  · exact xi_no h
theorem i_X3_greaterPart_0 : xi_dc cX3_greaterPart 0 = some (.aload_n 0, 1) := by decide +kernel
theorem i_X3_greaterPart_1 : xi_dc cX3_greaterPart 1 = some (.getfield 9, 3) := by decide +kernel
theorem i_X3_greaterPart_4 : xi_dc cX3_greaterPart 4 = some (.iload_n 1, 1) := by decide +kernel
theorem i_X3_greaterPart_5 : xi_dc cX3_greaterPart 5 = some (.iaload, 1) := by decide +kernel
theorem i_X3_greaterPart_6 : xi_dc cX3_greaterPart 6 = some (.aload_n 0, 1) := by decide +kernel
theorem i_X3_greaterPart_7 : xi_dc cX3_greaterPart 7 = some (.getfield 15, 3) := by decide +kernel
theorem i_X3_greaterPart_10 : xi_dc cX3_greaterPart 10 = some (.aload_n 0, 1) := by decide +kernel
theorem i_X3_greaterPart_11 : xi_dc cX3_greaterPart 11 = some (.getfield 9, 3) := by decide +kernel
theorem i_X3_greaterPart_14 : xi_dc cX3_greaterPart 14 = some (.iload_n 1, 1) := by decide +kernel
theorem i_X3_greaterPart_15 : xi_dc cX3_greaterPart 15 = some (.iaload, 1) := by decide +kernel
theorem i_X3_greaterPart_16 : xi_dc cX3_greaterPart 16 = some (.isub, 1) := by decide +kernel
theorem i_X3_greaterPart_17 : xi_dc cX3_greaterPart 17 = some (.invokestatic 57, 3) := by decide +kernel
theorem i_X3_greaterPart_20 : xi_dc cX3_greaterPart 20 = some (.ireturn, 1) := by decide +kernel
def P_X3_greaterPart (S : xi_S) : xi_P := (xi_dc cX3_greaterPart, xi_tab xfl_X3, xi_tab xki_X3, xi_tab xkl_X3, xi_tab xcs_X3, xi_tab xcv_X3, xi_calls [(57, xi_wS 2 (F_J9_max_7cf53 S))], xi_calls [], 1)
theorem cc_X3_greaterPart_57 (S : xi_S) (a0 : Int32) (a1 : Int32) (m : xi_M) : (P_X3_greaterPart S).2.2.2.2.2.2.1 57 [.int a0, .int a1] m = (E_J9_max_7cf53 S a0 a1 m) := by
  show xi_calls [(57, xi_wS 2 (F_J9_max_7cf53 S))] 57 [.int a0, .int a1] m = _
  refine Eq.trans (b := xi_wS 2 (F_J9_max_7cf53 S) [.int a0, .int a1] m) (xi_calls_hit rfl) ?_
  exact xi_wS_eq rfl
def E_X3_greaterPart (S : xi_S) (v0 : Nat) (v1 : Int32) (m : xi_M) : Option xi_R :=
  if S.1 v0 = 6 then (S.2.2 v0 2).bind fun b2 =>
    if S.1 b2 = 0 ∧ ¬ (v1 < 0 ∨ S.2.1 b2 ≤ Int32.toNatClampNeg v1) then
      if S.1 v0 = 6 then
        if S.1 v0 = 6 then (S.2.2 v0 2).bind fun b6 =>
          if S.1 b6 = 0 ∧ ¬ (v1 < 0 ∨ S.2.1 b6 ≤ Int32.toNatClampNeg v1) then
            xi_bI (E_J9_max_7cf53 S (m.1 b2 (Int32.toNatClampNeg v1)) ((m.1 v0 0) - (m.1 b6 (Int32.toNatClampNeg v1))) m) fun x9 m8 =>
            some (some (.int x9), m8)
          else none
        else none
      else none
    else none
  else none
def F_X3_greaterPart (S : xi_S) : xi_F := fun As m => match As with
  | [.ref v0, .int v1] => E_X3_greaterPart S v0 v1 m
  | _ => none
set_option maxRecDepth 100000 in
set_option maxHeartbeats 4000000 in
theorem xe_X3_greaterPart {S : xi_S} {res : xi_R} (v0 : Nat) (v1 : Int32) (m : xi_M) (h : E_X3_greaterPart S v0 v1 m = some res) : xi_X S (P_X3_greaterPart S) (0, [some (.ref v0), some (.int v1)], [], m) res := by
  unfold E_X3_greaterPart at h
  refine xr_aload_n i_X3_greaterPart_0 rfl (q := 1) rfl ?_
  obtain ⟨c1, h⟩ := xi_if_some h
  obtain ⟨b2, eb2, h⟩ := xi_bind_some h
  refine xr_getR i_X3_greaterPart_1 xfe_X3_9 c1 eb2 (q := 4) rfl ?_
  refine xr_iload_n i_X3_greaterPart_4 rfl (q := 5) rfl ?_
  obtain ⟨c3, h⟩ := xi_if_some h
  refine xr_iaload i_X3_greaterPart_5 c3 (q := 6) rfl ?_
  refine xr_aload_n i_X3_greaterPart_6 rfl (q := 7) rfl ?_
  obtain ⟨c4, h⟩ := xi_if_some h
  refine xr_getI i_X3_greaterPart_7 xfe_X3_15 c4 (q := 10) rfl ?_
  refine xr_aload_n i_X3_greaterPart_10 rfl (q := 11) rfl ?_
  obtain ⟨c5, h⟩ := xi_if_some h
  obtain ⟨b6, eb6, h⟩ := xi_bind_some h
  refine xr_getR i_X3_greaterPart_11 xfe_X3_9 c5 eb6 (q := 14) rfl ?_
  refine xr_iload_n i_X3_greaterPart_14 rfl (q := 15) rfl ?_
  obtain ⟨c7, h⟩ := xi_if_some h
  refine xr_iaload i_X3_greaterPart_15 c7 (q := 16) rfl ?_
  refine xr_isub i_X3_greaterPart_16 (q := 17) rfl ?_
  obtain ⟨x9, m8, em8, h⟩ := xi_bI_some h
  refine xr_SI i_X3_greaterPart_17 xcse_X3_57 rfl (As := [.int (m.1 b2 (Int32.toNatClampNeg v1)), .int ((m.1 v0 0) - (m.1 b6 (Int32.toNatClampNeg v1)))]) rfl (rest := []) rfl ((cc_X3_greaterPart_57 S _ _ _).trans em8) (q := 20) rfl ?_
  exact xr_ireturn i_X3_greaterPart_20 rfl h
set_option maxRecDepth 100000 in
theorem po_X3_greaterPart {l : Launch} {E : xi_E} {S : xi_S} {D : va_G} {tys : List (ClassId × FieldType)} (hC : xCx E S tys) : xi_Pok l E S D vwCl tys xNs RX3 xTs cX3_greaterPart 2 1 (P_X3_greaterPart S) := ⟨xi_dc_ok, by rw [hC.2]; exact xfo_X3, xkio_X3, xklo_X3, xi_calls_ok (ins := .invokestatic) (List.forall_mem_cons.mpr ⟨(xm_X3_57 (by decide)), fun _ h => absurd h List.not_mem_nil⟩), xi_calls_ok (ins := .invokevirtual) (fun _ h => absurd h List.not_mem_nil)⟩
theorem sn_X3_greaterPart {l : Launch} {E : xi_E} {S : xi_S} {D : va_G} {tys : List (ClassId × FieldType)} (hC : xCx E S tys) : ∀ As m1 r m2, F_X3_greaterPart S As m1 = some (r, m2) → xi_Sound l E S D vwCl tys xNs xTs yX3_greaterPart cX3_greaterPart 2 (some .int) 1 As m1 r m2 := by
  intro As m1 r m2 h
  unfold F_X3_greaterPart at h
  split at h
  · exact xi_meth (P := P_X3_greaterPart S) (by decide) hC.1 (po_X3_greaterPart hC) (Nat.le_of_ble_eq_true rfl) rfl (xe_X3_greaterPart _ _ _ h)
  · exact xi_no h
theorem i_X3_tellingPlace_0 : xi_dc cX3_tellingPlace 0 = some (.iconst 0, 1) := by decide +kernel
theorem i_X3_tellingPlace_1 : xi_dc cX3_tellingPlace 1 = some (.istore_n 1, 1) := by decide +kernel
theorem i_X3_tellingPlace_2 : xi_dc cX3_tellingPlace 2 = some (.iconst 1, 1) := by decide +kernel
theorem i_X3_tellingPlace_3 : xi_dc cX3_tellingPlace 3 = some (.istore_n 2, 1) := by decide +kernel
theorem i_X3_tellingPlace_4 : xi_dc cX3_tellingPlace 4 = some (.iload_n 2, 1) := by decide +kernel
theorem i_X3_tellingPlace_5 : xi_dc cX3_tellingPlace 5 = some (.bipush 20, 2) := by decide +kernel
theorem i_X3_tellingPlace_7 : xi_dc cX3_tellingPlace 7 = some (.if_icmp .gt 24, 3) := by decide +kernel
theorem t_X3_tellingPlace_7 : ((7 : Nat) : Int) + 24 = ((31 : Nat) : Int) := by decide +kernel
theorem i_X3_tellingPlace_10 : xi_dc cX3_tellingPlace 10 = some (.aload_n 0, 1) := by decide +kernel
theorem i_X3_tellingPlace_11 : xi_dc cX3_tellingPlace 11 = some (.iload_n 2, 1) := by decide +kernel
theorem i_X3_tellingPlace_12 : xi_dc cX3_tellingPlace 12 = some (.invokevirtual 63, 3) := by decide +kernel
theorem i_X3_tellingPlace_15 : xi_dc cX3_tellingPlace 15 = some (.aload_n 0, 1) := by decide +kernel
theorem i_X3_tellingPlace_16 : xi_dc cX3_tellingPlace 16 = some (.iload_n 1, 1) := by decide +kernel
theorem i_X3_tellingPlace_17 : xi_dc cX3_tellingPlace 17 = some (.invokevirtual 63, 3) := by decide +kernel
theorem i_X3_tellingPlace_20 : xi_dc cX3_tellingPlace 20 = some (.if_icmp .ge 5, 3) := by decide +kernel
theorem t_X3_tellingPlace_20 : ((20 : Nat) : Int) + 5 = ((25 : Nat) : Int) := by decide +kernel
theorem i_X3_tellingPlace_23 : xi_dc cX3_tellingPlace 23 = some (.iload_n 2, 1) := by decide +kernel
theorem i_X3_tellingPlace_24 : xi_dc cX3_tellingPlace 24 = some (.istore_n 1, 1) := by decide +kernel
theorem i_X3_tellingPlace_25 : xi_dc cX3_tellingPlace 25 = some (.iinc 2 1, 3) := by decide +kernel
theorem i_X3_tellingPlace_28 : xi_dc cX3_tellingPlace 28 = some (.goto (-24), 3) := by decide +kernel
theorem t_X3_tellingPlace_28 : ((28 : Nat) : Int) + (-24) = ((4 : Nat) : Int) := by decide +kernel
theorem i_X3_tellingPlace_31 : xi_dc cX3_tellingPlace 31 = some (.iload_n 1, 1) := by decide +kernel
theorem i_X3_tellingPlace_32 : xi_dc cX3_tellingPlace 32 = some (.ireturn, 1) := by decide +kernel
def P_X3_tellingPlace (S : xi_S) : xi_P := (xi_dc cX3_tellingPlace, xi_tab xfl_X3, xi_tab xki_X3, xi_tab xkl_X3, xi_tab xcs_X3, xi_tab xcv_X3, xi_calls [], xi_calls [(63, xi_wV S 6 1 (F_X3_greaterPart S))], 1)
theorem cc_X3_tellingPlace_63 (S : xi_S) (a0 : Nat) (a1 : Int32) (m : xi_M) : (P_X3_tellingPlace S).2.2.2.2.2.2.2.1 63 [.ref a0, .int a1] m = (if S.1 a0 = 6 then E_X3_greaterPart S a0 a1 m else none) := by
  show xi_calls [(63, xi_wV S 6 1 (F_X3_greaterPart S))] 63 [.ref a0, .int a1] m = _
  refine Eq.trans (b := xi_wV S 6 1 (F_X3_greaterPart S) [.ref a0, .int a1] m) (xi_calls_hit rfl) ?_
  exact xi_wV_eq rfl
def G_X3_tellingPlace_4 (S : xi_S) : Nat → Nat → Int32 → Int32 → xi_M → Option xi_R
  | 0, _, _, _, _ => none
  | n + 1, v0, v1, v2, m =>
    if ((Int8.ofInt 20).toInt32) < v2 then
      some (some (.int v1), m)
    else
      xi_bI (if S.1 v0 = 6 then E_X3_greaterPart S v0 v2 m else none) fun x2 m1 =>
      xi_bI (if S.1 v0 = 6 then E_X3_greaterPart S v0 v1 m1 else none) fun x4 m3 =>
      if x4 ≤ x2 then
        G_X3_tellingPlace_4 S n v0 v1 (v2 + Int32.ofInt 1) m3
      else
        G_X3_tellingPlace_4 S n v0 v2 (v2 + Int32.ofInt 1) m3
set_option maxRecDepth 100000 in
set_option maxHeartbeats 4000000 in
theorem xs_X3_tellingPlace_4 {S : xi_S} {res : xi_R} : ∀ (n : Nat) (v0 : Nat) (v1 : Int32) (v2 : Int32) (m : xi_M), G_X3_tellingPlace_4 S n v0 v1 v2 m = some res → xi_X S (P_X3_tellingPlace S) (4, [some (.ref v0), some (.int v1), some (.int v2)], [], m) res := by
  intro n
  induction n with
  | zero => intro v0 v1 v2 m h; exact xi_no h
  | succ n ih =>
    intro v0 v1 v2 m h
    unfold G_X3_tellingPlace_4 at h
    refine xr_iload_n i_X3_tellingPlace_4 rfl (q := 5) rfl ?_
    refine xr_bipush i_X3_tellingPlace_5 (q := 7) rfl ?_
    by_cases c6 : ((Int8.ofInt 20).toInt32) < v2
    · replace h := (if_pos c6).symm.trans h
      refine xr_if_icmp_gt_p i_X3_tellingPlace_7 c6 (q := 31) t_X3_tellingPlace_7 (q2 := 10) rfl ?_
      refine xr_iload_n i_X3_tellingPlace_31 rfl (q := 32) rfl ?_
      exact xr_ireturn i_X3_tellingPlace_32 rfl h
    · replace h := (if_neg c6).symm.trans h
      refine xr_if_icmp_gt_n i_X3_tellingPlace_7 c6 (q := 31) t_X3_tellingPlace_7 (q2 := 10) rfl ?_
      refine xr_aload_n i_X3_tellingPlace_10 rfl (q := 11) rfl ?_
      refine xr_iload_n i_X3_tellingPlace_11 rfl (q := 12) rfl ?_
      obtain ⟨x2, m1, em1, h⟩ := xi_bI_some h
      refine xr_VI i_X3_tellingPlace_12 xcve_X3_63 rfl (As := [.ref v0, .int v2]) rfl (rest := []) rfl ((cc_X3_tellingPlace_63 S _ _ _).trans em1) (q := 15) rfl ?_
      refine xr_aload_n i_X3_tellingPlace_15 rfl (q := 16) rfl ?_
      refine xr_iload_n i_X3_tellingPlace_16 rfl (q := 17) rfl ?_
      obtain ⟨x4, m3, em3, h⟩ := xi_bI_some h
      refine xr_VI i_X3_tellingPlace_17 xcve_X3_63 rfl (As := [.ref v0, .int v1]) rfl (rest := [.int x2]) rfl ((cc_X3_tellingPlace_63 S _ _ _).trans em3) (q := 20) rfl ?_
      by_cases c5 : x4 ≤ x2
      · replace h := (if_pos c5).symm.trans h
        refine xr_if_icmp_ge_p i_X3_tellingPlace_20 c5 (q := 25) t_X3_tellingPlace_20 (q2 := 23) rfl ?_
        refine xr_iinc i_X3_tellingPlace_25 rfl rfl (L2 := [some (.ref v0), some (.int v1), some (.int (v2 + Int32.ofInt 1))]) rfl (q := 28) rfl ?_
        refine xr_goto i_X3_tellingPlace_28 (q := 4) t_X3_tellingPlace_28 ?_
        exact xi_X_le (xi_le_s (xi_le_s (xi_le_s xi_le_z))) (ih _ _ _ _ h)
      · replace h := (if_neg c5).symm.trans h
        refine xr_if_icmp_ge_n i_X3_tellingPlace_20 c5 (q := 25) t_X3_tellingPlace_20 (q2 := 23) rfl ?_
        refine xr_iload_n i_X3_tellingPlace_23 rfl (q := 24) rfl ?_
        refine xr_istore_n i_X3_tellingPlace_24 rfl (L2 := [some (.ref v0), some (.int v2), some (.int v2)]) rfl (q := 25) rfl ?_
        refine xr_iinc i_X3_tellingPlace_25 rfl rfl (L2 := [some (.ref v0), some (.int v2), some (.int (v2 + Int32.ofInt 1))]) rfl (q := 28) rfl ?_
        refine xr_goto i_X3_tellingPlace_28 (q := 4) t_X3_tellingPlace_28 ?_
        exact xi_X_le (xi_le_s (xi_le_s (xi_le_s xi_le_z))) (ih _ _ _ _ h)
def E_X3_tellingPlace (S : xi_S) (v0 : Nat) (m : xi_M) : Option xi_R :=
  G_X3_tellingPlace_4 S 10000 v0 (Int32.ofInt 0) (Int32.ofInt 1) m
def F_X3_tellingPlace (S : xi_S) : xi_F := fun As m => match As with
  | [.ref v0] => E_X3_tellingPlace S v0 m
  | _ => none
set_option maxRecDepth 100000 in
set_option maxHeartbeats 4000000 in
theorem xe_X3_tellingPlace {S : xi_S} {res : xi_R} (v0 : Nat) (m : xi_M) (h : E_X3_tellingPlace S v0 m = some res) : xi_X S (P_X3_tellingPlace S) (0, [some (.ref v0), none, none], [], m) res := by
  unfold E_X3_tellingPlace at h
  refine xr_iconst i_X3_tellingPlace_0 (q := 1) rfl ?_
  refine xr_istore_n i_X3_tellingPlace_1 rfl (L2 := [some (.ref v0), some (.int (Int32.ofInt 0)), none]) rfl (q := 2) rfl ?_
  refine xr_iconst i_X3_tellingPlace_2 (q := 3) rfl ?_
  refine xr_istore_n i_X3_tellingPlace_3 rfl (L2 := [some (.ref v0), some (.int (Int32.ofInt 0)), some (.int (Int32.ofInt 1))]) rfl (q := 4) rfl ?_
  exact xi_X_le (xi_le_s (xi_le_s (xi_le_s xi_le_z))) (xs_X3_tellingPlace_4 10000 _ _ _ _ h)
set_option maxRecDepth 100000 in
theorem po_X3_tellingPlace {l : Launch} {E : xi_E} {S : xi_S} {D : va_G} {tys : List (ClassId × FieldType)} (hC : xCx E S tys) : xi_Pok l E S D vwCl tys xNs RX3 xTs cX3_tellingPlace 3 2 (P_X3_tellingPlace S) := ⟨xi_dc_ok, by rw [hC.2]; exact xfo_X3, xkio_X3, xklo_X3, xi_calls_ok (ins := .invokestatic) (fun _ h => absurd h List.not_mem_nil), xi_calls_ok (ins := .invokevirtual) (List.forall_mem_cons.mpr ⟨(xc_X3_63 hC.1 (sn_X3_greaterPart hC) (by decide)), fun _ h => absurd h List.not_mem_nil⟩)⟩
theorem sn_X3_tellingPlace {l : Launch} {E : xi_E} {S : xi_S} {D : va_G} {tys : List (ClassId × FieldType)} (hC : xCx E S tys) : ∀ As m1 r m2, F_X3_tellingPlace S As m1 = some (r, m2) → xi_Sound l E S D vwCl tys xNs xTs yX3_tellingPlace cX3_tellingPlace 3 (some .int) 2 As m1 r m2 := by
  intro As m1 r m2 h
  unfold F_X3_tellingPlace at h
  split at h
  · exact xi_meth (P := P_X3_tellingPlace S) (by decide) hC.1 (po_X3_tellingPlace hC) (Nat.le_of_ble_eq_true rfl) rfl (xe_X3_tellingPlace _ _ h)
  · exact xi_no h
