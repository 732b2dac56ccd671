theorem i_X9_isPlayer_0 : xi_dc cX9_isPlayer 0 = some (.iload_n 1, 1) := by decide +kernel
theorem i_X9_isPlayer_1 : xi_dc cX9_isPlayer 1 = some (.iconst 0, 1) := by decide +kernel
theorem i_X9_isPlayer_2 : xi_dc cX9_isPlayer 2 = some (.aload_n 0, 1) := by decide +kernel
theorem i_X9_isPlayer_3 : xi_dc cX9_isPlayer 3 = some (.getfield 25, 3) := by decide +kernel
theorem i_X9_isPlayer_6 : xi_dc cX9_isPlayer 6 = some (.iconst 1, 1) := by decide +kernel
theorem i_X9_isPlayer_7 : xi_dc cX9_isPlayer 7 = some (.iaload, 1) := by decide +kernel
theorem i_X9_isPlayer_8 : xi_dc cX9_isPlayer 8 = some (.iconst 1, 1) := by decide +kernel
theorem i_X9_isPlayer_9 : xi_dc cX9_isPlayer 9 = some (.isub, 1) := by decide +kernel
theorem i_X9_isPlayer_10 : xi_dc cX9_isPlayer 10 = some (.invokestatic 63, 3) := by decide +kernel
theorem i_X9_isPlayer_13 : xi_dc cX9_isPlayer 13 = some (.ireturn, 1) := by decide +kernel
def P_X9_isPlayer (S : xi_S) : xi_P := (xi_dc cX9_isPlayer, xi_tab xfl_X9, xi_tab xki_X9, xi_tab xkl_X9, xi_tab xcs_X9, xi_tab xcv_X9, xi_calls [(63, xi_wS 3 (F_X9_in0 S))], xi_calls [], 2)
theorem cc_X9_isPlayer_63 (S : xi_S) (a0 : Int32) (a1 : Int32) (a2 : Int32) (m : xi_M) : (P_X9_isPlayer S).2.2.2.2.2.2.1 63 [.int a0, .int a1, .int a2] m = (E_X9_in0 S a0 a1 a2 m) := by
  show xi_calls [(63, xi_wS 3 (F_X9_in0 S))] 63 [.int a0, .int a1, .int a2] m = _
  refine Eq.trans (b := xi_wS 3 (F_X9_in0 S) [.int a0, .int a1, .int a2] m) (xi_calls_hit rfl) ?_
  exact xi_wS_eq rfl
def E_X9_isPlayer (S : xi_S) (v0 : Nat) (v1 : Int32) (m : xi_M) : Option xi_R :=
  if S.1 v0 = 11 then (S.2.2 v0 5).bind fun b2 =>
    if S.1 b2 = 0 ∧ ¬ ((Int32.ofInt 1) < 0 ∨ S.2.1 b2 ≤ Int32.toNatClampNeg (Int32.ofInt 1)) then
      xi_bI (E_X9_in0 S v1 (Int32.ofInt 0) ((m.1 b2 (Int32.toNatClampNeg (Int32.ofInt 1))) - (Int32.ofInt 1)) m) fun x5 m4 =>
      if x5 = 0 ∨ x5 = 1 then some (some (.int x5), m4) else none
    else none
  else none
def F_X9_isPlayer (S : xi_S) : xi_F := fun As m => match As with
  | [.ref v0, .int v1] => E_X9_isPlayer S v0 v1 m
  | _ => none
set_option maxRecDepth 100000 in
set_option maxHeartbeats 4000000 in
theorem xe_X9_isPlayer {S : xi_S} {res : xi_R} (v0 : Nat) (v1 : Int32) (m : xi_M) (h : E_X9_isPlayer S v0 v1 m = some res) : xi_X S (P_X9_isPlayer S) (0, [some (.ref v0), some (.int v1)], [], m) res := by
  unfold E_X9_isPlayer at h
  refine xr_iload_n i_X9_isPlayer_0 rfl (q := 1) rfl ?_
  refine xr_iconst i_X9_isPlayer_1 (q := 2) rfl ?_
  refine xr_aload_n i_X9_isPlayer_2 rfl (q := 3) rfl ?_
  obtain ⟨c1, h⟩ := xi_if_some h
  obtain ⟨b2, eb2, h⟩ := xi_bind_some h
  refine xr_getR i_X9_isPlayer_3 xfe_X9_25 c1 eb2 (q := 6) rfl ?_
  refine xr_iconst i_X9_isPlayer_6 (q := 7) rfl ?_
  obtain ⟨c3, h⟩ := xi_if_some h
  refine xr_iaload i_X9_isPlayer_7 c3 (q := 8) rfl ?_
  refine xr_iconst i_X9_isPlayer_8 (q := 9) rfl ?_
  refine xr_isub i_X9_isPlayer_9 (q := 10) rfl ?_
  obtain ⟨x5, m4, em4, h⟩ := xi_bI_some h
  refine xr_SI i_X9_isPlayer_10 xcse_X9_63 rfl (As := [.int v1, .int (Int32.ofInt 0), .int ((m.1 b2 (Int32.toNatClampNeg (Int32.ofInt 1))) - (Int32.ofInt 1))]) rfl (rest := []) rfl ((cc_X9_isPlayer_63 S _ _ _ _).trans em4) (q := 13) rfl ?_
  exact xr_zreturn i_X9_isPlayer_13 rfl h
set_option maxRecDepth 100000 in
theorem po_X9_isPlayer {l : Launch} {E : xi_E} {S : xi_S} {D : va_G} {tys : List (ClassId × FieldType)} (hC : xCx E S tys) : xi_Pok l E S D vwCl tys xNs RX9 xTs cX9_isPlayer 2 1 (P_X9_isPlayer S) := ⟨xi_dc_ok, by rw [hC.2]; exact xfo_X9, xkio_X9, xklo_X9, xi_calls_ok (ins := .invokestatic) (List.forall_mem_cons.mpr ⟨(xc_X9_63 (sn_X9_in0 hC) (by decide)), fun _ h => absurd h List.not_mem_nil⟩), xi_calls_ok (ins := .invokevirtual) (fun _ h => absurd h List.not_mem_nil)⟩
theorem sn_X9_isPlayer {l : Launch} {E : xi_E} {S : xi_S} {D : va_G} {tys : List (ClassId × FieldType)} (hC : xCx E S tys) : ∀ As m1 r m2, F_X9_isPlayer S As m1 = some (r, m2) → xi_Sound l E S D vwCl tys xNs xTs yX9_isPlayer cX9_isPlayer 2 (some .boolean) 1 As m1 r m2 := by
  intro As m1 r m2 h
  unfold F_X9_isPlayer at h
  split at h
  · exact xi_meth (P := P_X9_isPlayer S) (by decide) hC.1 (po_X9_isPlayer hC) (Nat.le_of_ble_eq_true rfl) rfl (xe_X9_isPlayer _ _ _ h)
  · exact xi_no h
theorem i_X9_isAny_0 : xi_dc cX9_isAny 0 = some (.aload_n 0, 1) := by decide +kernel
theorem i_X9_isAny_1 : xi_dc cX9_isAny 1 = some (.getfield 25, 3) := by decide +kernel
theorem i_X9_isAny_4 : xi_dc cX9_isAny 4 = some (.iconst 1, 1) := by decide +kernel
theorem i_X9_isAny_5 : xi_dc cX9_isAny 5 = some (.iaload, 1) := by decide +kernel
theorem i_X9_isAny_6 : xi_dc cX9_isAny 6 = some (.ifCond .le 7, 3) := by decide +kernel
theorem t_X9_isAny_6 : ((6 : Nat) : Int) + 7 = ((13 : Nat) : Int) := by decide +kernel
theorem i_X9_isAny_9 : xi_dc cX9_isAny 9 = some (.iconst 1, 1) := by decide +kernel
theorem i_X9_isAny_10 : xi_dc cX9_isAny 10 = some (.goto 4, 3) := by decide +kernel
theorem t_X9_isAny_10 : ((10 : Nat) : Int) + 4 = ((14 : Nat) : Int) := by decide +kernel
theorem i_X9_isAny_13 : xi_dc cX9_isAny 13 = some (.iconst 0, 1) := by decide +kernel
theorem i_X9_isAny_14 : xi_dc cX9_isAny 14 = some (.ireturn, 1) := by decide +kernel
def P_X9_isAny (S : xi_S) : xi_P := (xi_dc cX9_isAny, xi_tab xfl_X9, xi_tab xki_X9, xi_tab xkl_X9, xi_tab xcs_X9, xi_tab xcv_X9, xi_calls [], xi_calls [], 2)
def E_X9_isAny (S : xi_S) (v0 : Nat) (m : xi_M) : Option xi_R :=
  if S.1 v0 = 11 then (S.2.2 v0 5).bind fun b2 =>
    if S.1 b2 = 0 ∧ ¬ ((Int32.ofInt 1) < 0 ∨ S.2.1 b2 ≤ Int32.toNatClampNeg (Int32.ofInt 1)) then
      if (m.1 b2 (Int32.toNatClampNeg (Int32.ofInt 1))) ≤ 0 then
        if (Int32.ofInt 0) = 0 ∨ (Int32.ofInt 0) = 1 then some (some (.int (Int32.ofInt 0)), m) else none
      else
        if (Int32.ofInt 1) = 0 ∨ (Int32.ofInt 1) = 1 then some (some (.int (Int32.ofInt 1)), m) else none
    else none
  else none
def F_X9_isAny (S : xi_S) : xi_F := fun As m => match As with
  | [.ref v0] => E_X9_isAny S v0 m
  | _ => none
set_option maxRecDepth 100000 in
set_option maxHeartbeats 4000000 in
theorem xe_X9_isAny {S : xi_S} {res : xi_R} (v0 : Nat) (m : xi_M) (h : E_X9_isAny S v0 m = some res) : xi_X S (P_X9_isAny S) (0, [some (.ref v0)], [], m) res := by
  unfold E_X9_isAny at h
  refine xr_aload_n i_X9_isAny_0 rfl (q := 1) rfl ?_
  obtain ⟨c1, h⟩ := xi_if_some h
  obtain ⟨b2, eb2, h⟩ := xi_bind_some h
  refine xr_getR i_X9_isAny_1 xfe_X9_25 c1 eb2 (q := 4) rfl ?_
  refine xr_iconst i_X9_isAny_4 (q := 5) rfl ?_
  obtain ⟨c3, h⟩ := xi_if_some h
  refine xr_iaload i_X9_isAny_5 c3 (q := 6) rfl ?_
  by_cases c4 : (m.1 b2 (Int32.toNatClampNeg (Int32.ofInt 1))) ≤ 0
  · replace h := (if_pos c4).symm.trans h
    refine xr_ifCond_le_p i_X9_isAny_6 c4 (q := 13) t_X9_isAny_6 (q2 := 9) rfl ?_
    refine xr_iconst i_X9_isAny_13 (q := 14) rfl ?_
    exact xr_zreturn i_X9_isAny_14 rfl h
  · replace h := (if_neg c4).symm.trans h
    refine xr_ifCond_le_n i_X9_isAny_6 c4 (q := 13) t_X9_isAny_6 (q2 := 9) rfl ?_
    refine xr_iconst i_X9_isAny_9 (q := 10) rfl ?_
    refine xr_goto i_X9_isAny_10 (q := 14) t_X9_isAny_10 ?_
    exact xr_zreturn i_X9_isAny_14 rfl h
set_option maxRecDepth 100000 in
theorem po_X9_isAny {l : Launch} {E : xi_E} {S : xi_S} {D : va_G} {tys : List (ClassId × FieldType)} (hC : xCx E S tys) : xi_Pok l E S D vwCl tys xNs RX9 xTs cX9_isAny 1 0 (P_X9_isAny S) := ⟨xi_dc_ok, by rw [hC.2]; exact xfo_X9, xkio_X9, xklo_X9, xi_calls_ok (ins := .invokestatic) (fun _ h => absurd h List.not_mem_nil), xi_calls_ok (ins := .invokevirtual) (fun _ h => absurd h List.not_mem_nil)⟩
theorem sn_X9_isAny {l : Launch} {E : xi_E} {S : xi_S} {D : va_G} {tys : List (ClassId × FieldType)} (hC : xCx E S tys) : ∀ As m1 r m2, F_X9_isAny S As m1 = some (r, m2) → xi_Sound l E S D vwCl tys xNs xTs yX9_isAny cX9_isAny 1 (some .boolean) 0 As m1 r m2 := by
  intro As m1 r m2 h
  unfold F_X9_isAny at h
  split at h
  · exact xi_meth (P := P_X9_isAny S) (by decide) hC.1 (po_X9_isAny hC) (Nat.le_of_ble_eq_true rfl) rfl (xe_X9_isAny _ _ h)
  · exact xi_no h
theorem i_X9_isKeeper_0 : xi_dc cX9_isKeeper 0 = some (.aload_n 0, 1) := by decide +kernel
theorem i_X9_isKeeper_1 : xi_dc cX9_isKeeper 1 = some (.bipush 10, 2) := by decide +kernel
theorem i_X9_isKeeper_3 : xi_dc cX9_isKeeper 3 = some (.iconst 4, 1) := by decide +kernel
theorem i_X9_isKeeper_4 : xi_dc cX9_isKeeper 4 = some (.iload_n 1, 1) := by decide +kernel
theorem i_X9_isKeeper_5 : xi_dc cX9_isKeeper 5 = some (.imul, 1) := by decide +kernel
theorem i_X9_isKeeper_6 : xi_dc cX9_isKeeper 6 = some (.iadd, 1) := by decide +kernel
theorem i_X9_isKeeper_7 : xi_dc cX9_isKeeper 7 = some (.iaload, 1) := by decide +kernel
theorem i_X9_isKeeper_8 : xi_dc cX9_isKeeper 8 = some (.iconst 2, 1) := by decide +kernel
theorem i_X9_isKeeper_9 : xi_dc cX9_isKeeper 9 = some (.if_icmp .eq 15, 3) := by decide +kernel
theorem t_X9_isKeeper_9 : ((9 : Nat) : Int) + 15 = ((24 : Nat) : Int) := by decide +kernel
theorem i_X9_isKeeper_12 : xi_dc cX9_isKeeper 12 = some (.aload_n 0, 1) := by decide +kernel
theorem i_X9_isKeeper_13 : xi_dc cX9_isKeeper 13 = some (.bipush 10, 2) := by decide +kernel
theorem i_X9_isKeeper_15 : xi_dc cX9_isKeeper 15 = some (.iconst 4, 1) := by decide +kernel
theorem i_X9_isKeeper_16 : xi_dc cX9_isKeeper 16 = some (.iload_n 1, 1) := by decide +kernel
theorem i_X9_isKeeper_17 : xi_dc cX9_isKeeper 17 = some (.imul, 1) := by decide +kernel
theorem i_X9_isKeeper_18 : xi_dc cX9_isKeeper 18 = some (.iadd, 1) := by decide +kernel
theorem i_X9_isKeeper_19 : xi_dc cX9_isKeeper 19 = some (.iaload, 1) := by decide +kernel
theorem i_X9_isKeeper_20 : xi_dc cX9_isKeeper 20 = some (.iconst 5, 1) := by decide +kernel
theorem i_X9_isKeeper_21 : xi_dc cX9_isKeeper 21 = some (.if_icmp .ne 7, 3) := by decide +kernel
theorem t_X9_isKeeper_21 : ((21 : Nat) : Int) + 7 = ((28 : Nat) : Int) := by decide +kernel
theorem i_X9_isKeeper_24 : xi_dc cX9_isKeeper 24 = some (.iconst 1, 1) := by decide +kernel
theorem i_X9_isKeeper_25 : xi_dc cX9_isKeeper 25 = some (.goto 4, 3) := by decide +kernel
theorem t_X9_isKeeper_25 : ((25 : Nat) : Int) + 4 = ((29 : Nat) : Int) := by decide +kernel
theorem i_X9_isKeeper_28 : xi_dc cX9_isKeeper 28 = some (.iconst 0, 1) := by decide +kernel
theorem i_X9_isKeeper_29 : xi_dc cX9_isKeeper 29 = some (.ireturn, 1) := by decide +kernel
def P_X9_isKeeper (S : xi_S) : xi_P := (xi_dc cX9_isKeeper, xi_tab xfl_X9, xi_tab xki_X9, xi_tab xkl_X9, xi_tab xcs_X9, xi_tab xcv_X9, xi_calls [], xi_calls [], 2)
def E_X9_isKeeper (S : xi_S) (v0 : Nat) (v1 : Int32) (m : xi_M) : Option xi_R :=
  if S.1 v0 = 0 ∧ ¬ ((((Int8.ofInt 10).toInt32) + ((Int32.ofInt 4) * v1)) < 0 ∨ S.2.1 v0 ≤ Int32.toNatClampNeg (((Int8.ofInt 10).toInt32) + ((Int32.ofInt 4) * v1))) then
    if (m.1 v0 (Int32.toNatClampNeg (((Int8.ofInt 10).toInt32) + ((Int32.ofInt 4) * v1)))) = (Int32.ofInt 2) then
      if (Int32.ofInt 1) = 0 ∨ (Int32.ofInt 1) = 1 then some (some (.int (Int32.ofInt 1)), m) else none
    else
      if S.1 v0 = 0 ∧ ¬ ((((Int8.ofInt 10).toInt32) + ((Int32.ofInt 4) * v1)) < 0 ∨ S.2.1 v0 ≤ Int32.toNatClampNeg (((Int8.ofInt 10).toInt32) + ((Int32.ofInt 4) * v1))) then
        if (m.1 v0 (Int32.toNatClampNeg (((Int8.ofInt 10).toInt32) + ((Int32.ofInt 4) * v1)))) = (Int32.ofInt 5) then
          if (Int32.ofInt 1) = 0 ∨ (Int32.ofInt 1) = 1 then some (some (.int (Int32.ofInt 1)), m) else none
        else
          if (Int32.ofInt 0) = 0 ∨ (Int32.ofInt 0) = 1 then some (some (.int (Int32.ofInt 0)), m) else none
      else none
  else none
def F_X9_isKeeper (S : xi_S) : xi_F := fun As m => match As with
  | [.ref v0, .int v1] => E_X9_isKeeper S v0 v1 m
  | _ => none
set_option maxRecDepth 100000 in
set_option maxHeartbeats 4000000 in
theorem xe_X9_isKeeper {S : xi_S} {res : xi_R} (v0 : Nat) (v1 : Int32) (m : xi_M) (h : E_X9_isKeeper S v0 v1 m = some res) : xi_X S (P_X9_isKeeper S) (0, [some (.ref v0), some (.int v1)], [], m) res := by
  unfold E_X9_isKeeper at h
  refine xr_aload_n i_X9_isKeeper_0 rfl (q := 1) rfl ?_
  refine xr_bipush i_X9_isKeeper_1 (q := 3) rfl ?_
  refine xr_iconst i_X9_isKeeper_3 (q := 4) rfl ?_
  refine xr_iload_n i_X9_isKeeper_4 rfl (q := 5) rfl ?_
  refine xr_imul i_X9_isKeeper_5 (q := 6) rfl ?_
  refine xr_iadd i_X9_isKeeper_6 (q := 7) rfl ?_
  obtain ⟨c1, h⟩ := xi_if_some h
  refine xr_iaload i_X9_isKeeper_7 c1 (q := 8) rfl ?_
  refine xr_iconst i_X9_isKeeper_8 (q := 9) rfl ?_
  by_cases c4 : (m.1 v0 (Int32.toNatClampNeg (((Int8.ofInt 10).toInt32) + ((Int32.ofInt 4) * v1)))) = (Int32.ofInt 2)
  · replace h := (if_pos c4).symm.trans h
    refine xr_if_icmp_eq_p i_X9_isKeeper_9 c4 (q := 24) t_X9_isKeeper_9 (q2 := 12) rfl ?_
    refine xr_iconst i_X9_isKeeper_24 (q := 25) rfl ?_
    refine xr_goto i_X9_isKeeper_25 (q := 29) t_X9_isKeeper_25 ?_
    exact xr_zreturn i_X9_isKeeper_29 rfl h
  · replace h := (if_neg c4).symm.trans h
    refine xr_if_icmp_eq_n i_X9_isKeeper_9 c4 (q := 24) t_X9_isKeeper_9 (q2 := 12) rfl ?_
    refine xr_aload_n i_X9_isKeeper_12 rfl (q := 13) rfl ?_
    refine xr_bipush i_X9_isKeeper_13 (q := 15) rfl ?_
    refine xr_iconst i_X9_isKeeper_15 (q := 16) rfl ?_
    refine xr_iload_n i_X9_isKeeper_16 rfl (q := 17) rfl ?_
    refine xr_imul i_X9_isKeeper_17 (q := 18) rfl ?_
    refine xr_iadd i_X9_isKeeper_18 (q := 19) rfl ?_
    obtain ⟨c2, h⟩ := xi_if_some h
    refine xr_iaload i_X9_isKeeper_19 c2 (q := 20) rfl ?_
    refine xr_iconst i_X9_isKeeper_20 (q := 21) rfl ?_
    by_cases c3 : (m.1 v0 (Int32.toNatClampNeg (((Int8.ofInt 10).toInt32) + ((Int32.ofInt 4) * v1)))) = (Int32.ofInt 5)
    · replace h := (if_pos c3).symm.trans h
      refine xr_if_icmp_ne_p i_X9_isKeeper_21 c3 (q := 28) t_X9_isKeeper_21 (q2 := 24) rfl ?_
      refine xr_iconst i_X9_isKeeper_24 (q := 25) rfl ?_
      refine xr_goto i_X9_isKeeper_25 (q := 29) t_X9_isKeeper_25 ?_
      exact xr_zreturn i_X9_isKeeper_29 rfl h
    · replace h := (if_neg c3).symm.trans h
      refine xr_if_icmp_ne_n i_X9_isKeeper_21 c3 (q := 28) t_X9_isKeeper_21 (q2 := 24) rfl ?_
      refine xr_iconst i_X9_isKeeper_28 (q := 29) rfl ?_
      exact xr_zreturn i_X9_isKeeper_29 rfl h
set_option maxRecDepth 100000 in
theorem po_X9_isKeeper {l : Launch} {E : xi_E} {S : xi_S} {D : va_G} {tys : List (ClassId × FieldType)} (hC : xCx E S tys) : xi_Pok l E S D vwCl tys xNs RX9 xTs cX9_isKeeper 2 0 (P_X9_isKeeper S) := ⟨xi_dc_ok, by rw [hC.2]; exact xfo_X9, xkio_X9, xklo_X9, xi_calls_ok (ins := .invokestatic) (fun _ h => absurd h List.not_mem_nil), xi_calls_ok (ins := .invokevirtual) (fun _ h => absurd h List.not_mem_nil)⟩
theorem sn_X9_isKeeper {l : Launch} {E : xi_E} {S : xi_S} {D : va_G} {tys : List (ClassId × FieldType)} (hC : xCx E S tys) : ∀ As m1 r m2, F_X9_isKeeper S As m1 = some (r, m2) → xi_Sound l E S D vwCl tys xNs xTs yX9_isKeeper cX9_isKeeper 2 (some .boolean) 0 As m1 r m2 := by
  intro As m1 r m2 h
  unfold F_X9_isKeeper at h
  split at h
  · exact xi_meth (P := P_X9_isKeeper S) (by decide) hC.1 (po_X9_isKeeper hC) (Nat.le_of_ble_eq_true rfl) rfl (xe_X9_isKeeper _ _ _ h)
  · exact xi_no h
theorem i_X9_landing_0 : xi_dc cX9_landing 0 = some (.iload_n 2, 1) := by decide +kernel
theorem i_X9_landing_1 : xi_dc cX9_landing 1 = some (.istore 4, 2) := by decide +kernel
theorem i_X9_landing_3 : xi_dc cX9_landing 3 = some (.iload_n 0, 1) := by decide +kernel
theorem i_X9_landing_4 : xi_dc cX9_landing 4 = some (.tableswitch 86 1 5 #[39, 36, 48, 66, 36], 36) := by decide +kernel
theorem i_X9_landing_40 : xi_dc cX9_landing 40 = some (.bipush (-9), 2) := by decide +kernel
theorem i_X9_landing_42 : xi_dc cX9_landing 42 = some (.ireturn, 1) := by decide +kernel
theorem i_X9_landing_43 : xi_dc cX9_landing 43 = some (.iload 4, 2) := by decide +kernel
theorem i_X9_landing_45 : xi_dc cX9_landing 45 = some (.iload_n 1, 1) := by decide +kernel
theorem i_X9_landing_46 : xi_dc cX9_landing 46 = some (.iadd, 1) := by decide +kernel
theorem i_X9_landing_47 : xi_dc cX9_landing 47 = some (.istore 4, 2) := by decide +kernel
theorem i_X9_landing_49 : xi_dc cX9_landing 49 = some (.goto 41, 3) := by decide +kernel
theorem t_X9_landing_49 : ((49 : Nat) : Int) + 41 = ((90 : Nat) : Int) := by decide +kernel
theorem i_X9_landing_52 : xi_dc cX9_landing 52 = some (.iload 4, 2) := by decide +kernel
theorem i_X9_landing_54 : xi_dc cX9_landing 54 = some (.iload_n 3, 1) := by decide +kernel
theorem i_X9_landing_55 : xi_dc cX9_landing 55 = some (.iconst 1, 1) := by decide +kernel
theorem i_X9_landing_56 : xi_dc cX9_landing 56 = some (.if_icmp .ne 7, 3) := by decide +kernel
theorem t_X9_landing_56 : ((56 : Nat) : Int) + 7 = ((63 : Nat) : Int) := by decide +kernel
theorem i_X9_landing_59 : xi_dc cX9_landing 59 = some (.iconst 2, 1) := by decide +kernel
theorem i_X9_landing_60 : xi_dc cX9_landing 60 = some (.goto 4, 3) := by decide +kernel
theorem t_X9_landing_60 : ((60 : Nat) : Int) + 4 = ((64 : Nat) : Int) := by decide +kernel
theorem i_X9_landing_63 : xi_dc cX9_landing 63 = some (.iconst 0, 1) := by decide +kernel
theorem i_X9_landing_64 : xi_dc cX9_landing 64 = some (.isub, 1) := by decide +kernel
theorem i_X9_landing_65 : xi_dc cX9_landing 65 = some (.istore 4, 2) := by decide +kernel
theorem i_X9_landing_67 : xi_dc cX9_landing 67 = some (.goto 23, 3) := by decide +kernel
theorem t_X9_landing_67 : ((67 : Nat) : Int) + 23 = ((90 : Nat) : Int) := by decide +kernel
theorem i_X9_landing_70 : xi_dc cX9_landing 70 = some (.iload 4, 2) := by decide +kernel
theorem i_X9_landing_72 : xi_dc cX9_landing 72 = some (.iload_n 3, 1) := by decide +kernel
theorem i_X9_landing_73 : xi_dc cX9_landing 73 = some (.iconst 1, 1) := by decide +kernel
theorem i_X9_landing_74 : xi_dc cX9_landing 74 = some (.if_icmp .ne 7, 3) := by decide +kernel
theorem t_X9_landing_74 : ((74 : Nat) : Int) + 7 = ((81 : Nat) : Int) := by decide +kernel
theorem i_X9_landing_77 : xi_dc cX9_landing 77 = some (.iload_n 1, 1) := by decide +kernel
theorem i_X9_landing_78 : xi_dc cX9_landing 78 = some (.goto 6, 3) := by decide +kernel
theorem t_X9_landing_78 : ((78 : Nat) : Int) + 6 = ((84 : Nat) : Int) := by decide +kernel
theorem i_X9_landing_81 : xi_dc cX9_landing 81 = some (.iload_n 1, 1) := by decide +kernel
theorem i_X9_landing_82 : xi_dc cX9_landing 82 = some (.iconst 2, 1) := by decide +kernel
theorem i_X9_landing_83 : xi_dc cX9_landing 83 = some (.idiv, 1) := by decide +kernel
theorem i_X9_landing_84 : xi_dc cX9_landing 84 = some (.iadd, 1) := by decide +kernel
theorem i_X9_landing_85 : xi_dc cX9_landing 85 = some (.istore 4, 2) := by decide +kernel
theorem i_X9_landing_87 : xi_dc cX9_landing 87 = some (.goto 3, 3) := by decide +kernel
theorem t_X9_landing_87 : ((87 : Nat) : Int) + 3 = ((90 : Nat) : Int) := by decide +kernel
theorem i_X9_landing_90 : xi_dc cX9_landing 90 = some (.iload 4, 2) := by decide +kernel
theorem i_X9_landing_92 : xi_dc cX9_landing 92 = some (.ifCond .ge 7, 3) := by decide +kernel
theorem t_X9_landing_92 : ((92 : Nat) : Int) + 7 = ((99 : Nat) : Int) := by decide +kernel
theorem i_X9_landing_95 : xi_dc cX9_landing 95 = some (.iconst 0, 1) := by decide +kernel
theorem i_X9_landing_96 : xi_dc cX9_landing 96 = some (.goto 17, 3) := by decide +kernel
theorem t_X9_landing_96 : ((96 : Nat) : Int) + 17 = ((113 : Nat) : Int) := by decide +kernel
theorem i_X9_landing_99 : xi_dc cX9_landing 99 = some (.iload 4, 2) := by decide +kernel
theorem i_X9_landing_101 : xi_dc cX9_landing 101 = some (.bipush 20, 2) := by decide +kernel
theorem i_X9_landing_103 : xi_dc cX9_landing 103 = some (.if_icmp .le 8, 3) := by decide +kernel
theorem t_X9_landing_103 : ((103 : Nat) : Int) + 8 = ((111 : Nat) : Int) := by decide +kernel
theorem i_X9_landing_106 : xi_dc cX9_landing 106 = some (.bipush 20, 2) := by decide +kernel
theorem i_X9_landing_108 : xi_dc cX9_landing 108 = some (.goto 5, 3) := by decide +kernel
theorem t_X9_landing_108 : ((108 : Nat) : Int) + 5 = ((113 : Nat) : Int) := by decide +kernel
theorem i_X9_landing_111 : xi_dc cX9_landing 111 = some (.iload 4, 2) := by decide +kernel
theorem i_X9_landing_113 : xi_dc cX9_landing 113 = some (.ireturn, 1) := by decide +kernel
def P_X9_landing (S : xi_S) : xi_P := (xi_dc cX9_landing, xi_tab xfl_X9, xi_tab xki_X9, xi_tab xkl_X9, xi_tab xcs_X9, xi_tab xcv_X9, xi_calls [], xi_calls [], 1)
def E_X9_landing (S : xi_S) (v0 : Int32) (v1 : Int32) (v2 : Int32) (v3 : Int32) (m : xi_M) : Option xi_R :=
  if Int32.toInt v0 = 1 then
    if 0 ≤ (v2 + v1) then
      if (v2 + v1) ≤ ((Int8.ofInt 20).toInt32) then
        some (some (.int (v2 + v1)), m)
      else
        some (some (.int ((Int8.ofInt 20).toInt32)), m)
    else
      some (some (.int (Int32.ofInt 0)), m)
  else
    if Int32.toInt v0 = 2 then
      some (some (.int ((Int8.ofInt (-9)).toInt32)), m)
    else
      if Int32.toInt v0 = 3 then
        if v3 = (Int32.ofInt 1) then
          if 0 ≤ (v2 - (Int32.ofInt 2)) then
            if (v2 - (Int32.ofInt 2)) ≤ ((Int8.ofInt 20).toInt32) then
              some (some (.int (v2 - (Int32.ofInt 2))), m)
            else
              some (some (.int ((Int8.ofInt 20).toInt32)), m)
          else
            some (some (.int (Int32.ofInt 0)), m)
        else
          if 0 ≤ (v2 - (Int32.ofInt 0)) then
            if (v2 - (Int32.ofInt 0)) ≤ ((Int8.ofInt 20).toInt32) then
              some (some (.int (v2 - (Int32.ofInt 0))), m)
            else
              some (some (.int ((Int8.ofInt 20).toInt32)), m)
          else
            some (some (.int (Int32.ofInt 0)), m)
      else
        if Int32.toInt v0 = 4 then
          if v3 = (Int32.ofInt 1) then
            if 0 ≤ (v2 + v1) then
              if (v2 + v1) ≤ ((Int8.ofInt 20).toInt32) then
                some (some (.int (v2 + v1)), m)
              else
                some (some (.int ((Int8.ofInt 20).toInt32)), m)
            else
              some (some (.int (Int32.ofInt 0)), m)
          else
            if (Int32.ofInt 2) = 0 then none else
            if 0 ≤ (v2 + (v1 / (Int32.ofInt 2))) then
              if (v2 + (v1 / (Int32.ofInt 2))) ≤ ((Int8.ofInt 20).toInt32) then
                some (some (.int (v2 + (v1 / (Int32.ofInt 2)))), m)
              else
                some (some (.int ((Int8.ofInt 20).toInt32)), m)
            else
              some (some (.int (Int32.ofInt 0)), m)
        else
          if Int32.toInt v0 = 5 then
            some (some (.int ((Int8.ofInt (-9)).toInt32)), m)
          else
            if 0 ≤ v2 then
              if v2 ≤ ((Int8.ofInt 20).toInt32) then
                some (some (.int v2), m)
              else
                some (some (.int ((Int8.ofInt 20).toInt32)), m)
            else
              some (some (.int (Int32.ofInt 0)), m)
def F_X9_landing (S : xi_S) : xi_F := fun As m => match As with
  | [.int v0, .int v1, .int v2, .int v3] => E_X9_landing S v0 v1 v2 v3 m
  | _ => none
set_option maxRecDepth 100000 in
set_option maxHeartbeats 4000000 in
theorem xe_X9_landing {S : xi_S} {res : xi_R} (v0 : Int32) (v1 : Int32) (v2 : Int32) (v3 : Int32) (m : xi_M) (h : E_X9_landing S v0 v1 v2 v3 m = some res) : xi_X S (P_X9_landing S) (0, [some (.int v0), some (.int v1), some (.int v2), some (.int v3), none], [], m) res := by
  unfold E_X9_landing at h
  refine xr_iload_n i_X9_landing_0 rfl (q := 1) rfl ?_
  refine xr_istore i_X9_landing_1 rfl (L2 := [some (.int v0), some (.int v1), some (.int v2), some (.int v3), some (.int v2)]) rfl (q := 3) rfl ?_
  refine xr_iload_n i_X9_landing_3 rfl (q := 4) rfl ?_
  by_cases c1 : Int32.toInt v0 = 1
  · replace h := (if_pos c1).symm.trans h
    refine xr_table i_X9_landing_4 rfl (off := 39) (fun kk => xi_sw_hit c1) (q := 43) rfl ?_
    refine xr_iload i_X9_landing_43 rfl (q := 45) rfl ?_
    refine xr_iload_n i_X9_landing_45 rfl (q := 46) rfl ?_
    refine xr_iadd i_X9_landing_46 (q := 47) rfl ?_
    refine xr_istore i_X9_landing_47 rfl (L2 := [some (.int v0), some (.int v1), some (.int v2), some (.int v3), some (.int (v2 + v1))]) rfl (q := 49) rfl ?_
    refine xr_goto i_X9_landing_49 (q := 90) t_X9_landing_49 ?_
    refine xr_iload i_X9_landing_90 rfl (q := 92) rfl ?_
    by_cases c3 : 0 ≤ (v2 + v1)
    · replace h := (if_pos c3).symm.trans h
      refine xr_ifCond_ge_p i_X9_landing_92 c3 (q := 99) t_X9_landing_92 (q2 := 95) rfl ?_
      refine xr_iload i_X9_landing_99 rfl (q := 101) rfl ?_
      refine xr_bipush i_X9_landing_101 (q := 103) rfl ?_
      by_cases c2 : (v2 + v1) ≤ ((Int8.ofInt 20).toInt32)
      · replace h := (if_pos c2).symm.trans h
        refine xr_if_icmp_le_p i_X9_landing_103 c2 (q := 111) t_X9_landing_103 (q2 := 106) rfl ?_
        refine xr_iload i_X9_landing_111 rfl (q := 113) rfl ?_
        exact xr_ireturn i_X9_landing_113 rfl h
      · replace h := (if_neg c2).symm.trans h
        refine xr_if_icmp_le_n i_X9_landing_103 c2 (q := 111) t_X9_landing_103 (q2 := 106) rfl ?_
        refine xr_bipush i_X9_landing_106 (q := 108) rfl ?_
        refine xr_goto i_X9_landing_108 (q := 113) t_X9_landing_108 ?_
        exact xr_ireturn i_X9_landing_113 rfl h
    · replace h := (if_neg c3).symm.trans h
      refine xr_ifCond_ge_n i_X9_landing_92 c3 (q := 99) t_X9_landing_92 (q2 := 95) rfl ?_
      refine xr_iconst i_X9_landing_95 (q := 96) rfl ?_
      refine xr_goto i_X9_landing_96 (q := 113) t_X9_landing_96 ?_
      exact xr_ireturn i_X9_landing_113 rfl h
  · replace h := (if_neg c1).symm.trans h
    by_cases c4 : Int32.toInt v0 = 2
    · replace h := (if_pos c4).symm.trans h
      refine xr_table i_X9_landing_4 rfl (off := 36) (fun kk => (xi_sw_miss c1).trans (xi_sw_hit c4)) (q := 40) rfl ?_
      refine xr_bipush i_X9_landing_40 (q := 42) rfl ?_
      exact xr_ireturn i_X9_landing_42 rfl h
    · replace h := (if_neg c4).symm.trans h
      by_cases c5 : Int32.toInt v0 = 3
      · replace h := (if_pos c5).symm.trans h
        refine xr_table i_X9_landing_4 rfl (off := 48) (fun kk => (xi_sw_miss c1).trans ((xi_sw_miss c4).trans (xi_sw_hit c5))) (q := 52) rfl ?_
        refine xr_iload i_X9_landing_52 rfl (q := 54) rfl ?_
        refine xr_iload_n i_X9_landing_54 rfl (q := 55) rfl ?_
        refine xr_iconst i_X9_landing_55 (q := 56) rfl ?_
        by_cases c10 : v3 = (Int32.ofInt 1)
        · replace h := (if_pos c10).symm.trans h
          refine xr_if_icmp_ne_p i_X9_landing_56 c10 (q := 63) t_X9_landing_56 (q2 := 59) rfl ?_
          refine xr_iconst i_X9_landing_59 (q := 60) rfl ?_
          refine xr_goto i_X9_landing_60 (q := 64) t_X9_landing_60 ?_
          refine xr_isub i_X9_landing_64 (q := 65) rfl ?_
          refine xr_istore i_X9_landing_65 rfl (L2 := [some (.int v0), some (.int v1), some (.int v2), some (.int v3), some (.int (v2 - (Int32.ofInt 2)))]) rfl (q := 67) rfl ?_
          refine xr_goto i_X9_landing_67 (q := 90) t_X9_landing_67 ?_
          refine xr_iload i_X9_landing_90 rfl (q := 92) rfl ?_
          by_cases c9 : 0 ≤ (v2 - (Int32.ofInt 2))
          · replace h := (if_pos c9).symm.trans h
            refine xr_ifCond_ge_p i_X9_landing_92 c9 (q := 99) t_X9_landing_92 (q2 := 95) rfl ?_
            refine xr_iload i_X9_landing_99 rfl (q := 101) rfl ?_
            refine xr_bipush i_X9_landing_101 (q := 103) rfl ?_
            by_cases c8 : (v2 - (Int32.ofInt 2)) ≤ ((Int8.ofInt 20).toInt32)
            · replace h := (if_pos c8).symm.trans h
              refine xr_if_icmp_le_p i_X9_landing_103 c8 (q := 111) t_X9_landing_103 (q2 := 106) rfl ?_
              refine xr_iload i_X9_landing_111 rfl (q := 113) rfl ?_
              exact xr_ireturn i_X9_landing_113 rfl h
            · replace h := (if_neg c8).symm.trans h
              refine xr_if_icmp_le_n i_X9_landing_103 c8 (q := 111) t_X9_landing_103 (q2 := 106) rfl ?_
              refine xr_bipush i_X9_landing_106 (q := 108) rfl ?_
              refine xr_goto i_X9_landing_108 (q := 113) t_X9_landing_108 ?_
              exact xr_ireturn i_X9_landing_113 rfl h
          · replace h := (if_neg c9).symm.trans h
            refine xr_ifCond_ge_n i_X9_landing_92 c9 (q := 99) t_X9_landing_92 (q2 := 95) rfl ?_
            refine xr_iconst i_X9_landing_95 (q := 96) rfl ?_
            refine xr_goto i_X9_landing_96 (q := 113) t_X9_landing_96 ?_
            exact xr_ireturn i_X9_landing_113 rfl h
        · replace h := (if_neg c10).symm.trans h
          refine xr_if_icmp_ne_n i_X9_landing_56 c10 (q := 63) t_X9_landing_56 (q2 := 59) rfl ?_
          refine xr_iconst i_X9_landing_63 (q := 64) rfl ?_
          refine xr_isub i_X9_landing_64 (q := 65) rfl ?_
          refine xr_istore i_X9_landing_65 rfl (L2 := [some (.int v0), some (.int v1), some (.int v2), some (.int v3), some (.int (v2 - (Int32.ofInt 0)))]) rfl (q := 67) rfl ?_
          refine xr_goto i_X9_landing_67 (q := 90) t_X9_landing_67 ?_
          refine xr_iload i_X9_landing_90 rfl (q := 92) rfl ?_
          by_cases c7 : 0 ≤ (v2 - (Int32.ofInt 0))
          · replace h := (if_pos c7).symm.trans h
            refine xr_ifCond_ge_p i_X9_landing_92 c7 (q := 99) t_X9_landing_92 (q2 := 95) rfl ?_
            refine xr_iload i_X9_landing_99 rfl (q := 101) rfl ?_
            refine xr_bipush i_X9_landing_101 (q := 103) rfl ?_
            by_cases c6 : (v2 - (Int32.ofInt 0)) ≤ ((Int8.ofInt 20).toInt32)
            · replace h := (if_pos c6).symm.trans h
              refine xr_if_icmp_le_p i_X9_landing_103 c6 (q := 111) t_X9_landing_103 (q2 := 106) rfl ?_
              refine xr_iload i_X9_landing_111 rfl (q := 113) rfl ?_
              exact xr_ireturn i_X9_landing_113 rfl h
            · replace h := (if_neg c6).symm.trans h
              refine xr_if_icmp_le_n i_X9_landing_103 c6 (q := 111) t_X9_landing_103 (q2 := 106) rfl ?_
              refine xr_bipush i_X9_landing_106 (q := 108) rfl ?_
              refine xr_goto i_X9_landing_108 (q := 113) t_X9_landing_108 ?_
              exact xr_ireturn i_X9_landing_113 rfl h
          · replace h := (if_neg c7).symm.trans h
            refine xr_ifCond_ge_n i_X9_landing_92 c7 (q := 99) t_X9_landing_92 (q2 := 95) rfl ?_
            refine xr_iconst i_X9_landing_95 (q := 96) rfl ?_
            refine xr_goto i_X9_landing_96 (q := 113) t_X9_landing_96 ?_
            exact xr_ireturn i_X9_landing_113 rfl h
      · replace h := (if_neg c5).symm.trans h
        by_cases c11 : Int32.toInt v0 = 4
        · replace h := (if_pos c11).symm.trans h
          refine xr_table i_X9_landing_4 rfl (off := 66) (fun kk => (xi_sw_miss c1).trans ((xi_sw_miss c4).trans ((xi_sw_miss c5).trans (xi_sw_hit c11)))) (q := 70) rfl ?_
          refine xr_iload i_X9_landing_70 rfl (q := 72) rfl ?_
          refine xr_iload_n i_X9_landing_72 rfl (q := 73) rfl ?_
          refine xr_iconst i_X9_landing_73 (q := 74) rfl ?_
          by_cases c17 : v3 = (Int32.ofInt 1)
          · replace h := (if_pos c17).symm.trans h
            refine xr_if_icmp_ne_p i_X9_landing_74 c17 (q := 81) t_X9_landing_74 (q2 := 77) rfl ?_
            refine xr_iload_n i_X9_landing_77 rfl (q := 78) rfl ?_
            refine xr_goto i_X9_landing_78 (q := 84) t_X9_landing_78 ?_
            refine xr_iadd i_X9_landing_84 (q := 85) rfl ?_
            refine xr_istore i_X9_landing_85 rfl (L2 := [some (.int v0), some (.int v1), some (.int v2), some (.int v3), some (.int (v2 + v1))]) rfl (q := 87) rfl ?_
            refine xr_goto i_X9_landing_87 (q := 90) t_X9_landing_87 ?_
            refine xr_iload i_X9_landing_90 rfl (q := 92) rfl ?_
            by_cases c16 : 0 ≤ (v2 + v1)
            · replace h := (if_pos c16).symm.trans h
              refine xr_ifCond_ge_p i_X9_landing_92 c16 (q := 99) t_X9_landing_92 (q2 := 95) rfl ?_
              refine xr_iload i_X9_landing_99 rfl (q := 101) rfl ?_
              refine xr_bipush i_X9_landing_101 (q := 103) rfl ?_
              by_cases c15 : (v2 + v1) ≤ ((Int8.ofInt 20).toInt32)
              · replace h := (if_pos c15).symm.trans h
                refine xr_if_icmp_le_p i_X9_landing_103 c15 (q := 111) t_X9_landing_103 (q2 := 106) rfl ?_
                refine xr_iload i_X9_landing_111 rfl (q := 113) rfl ?_
                exact xr_ireturn i_X9_landing_113 rfl h
              · replace h := (if_neg c15).symm.trans h
                refine xr_if_icmp_le_n i_X9_landing_103 c15 (q := 111) t_X9_landing_103 (q2 := 106) rfl ?_
                refine xr_bipush i_X9_landing_106 (q := 108) rfl ?_
                refine xr_goto i_X9_landing_108 (q := 113) t_X9_landing_108 ?_
                exact xr_ireturn i_X9_landing_113 rfl h
            · replace h := (if_neg c16).symm.trans h
              refine xr_ifCond_ge_n i_X9_landing_92 c16 (q := 99) t_X9_landing_92 (q2 := 95) rfl ?_
              refine xr_iconst i_X9_landing_95 (q := 96) rfl ?_
              refine xr_goto i_X9_landing_96 (q := 113) t_X9_landing_96 ?_
              exact xr_ireturn i_X9_landing_113 rfl h
          · replace h := (if_neg c17).symm.trans h
            refine xr_if_icmp_ne_n i_X9_landing_74 c17 (q := 81) t_X9_landing_74 (q2 := 77) rfl ?_
            refine xr_iload_n i_X9_landing_81 rfl (q := 82) rfl ?_
            refine xr_iconst i_X9_landing_82 (q := 83) rfl ?_
            obtain ⟨c12, h⟩ := xi_ifn_some h
            refine xr_idiv i_X9_landing_83 c12 (q := 84) rfl ?_
            refine xr_iadd i_X9_landing_84 (q := 85) rfl ?_
            refine xr_istore i_X9_landing_85 rfl (L2 := [some (.int v0), some (.int v1), some (.int v2), some (.int v3), some (.int (v2 + (v1 / (Int32.ofInt 2))))]) rfl (q := 87) rfl ?_
            refine xr_goto i_X9_landing_87 (q := 90) t_X9_landing_87 ?_
            refine xr_iload i_X9_landing_90 rfl (q := 92) rfl ?_
            by_cases c14 : 0 ≤ (v2 + (v1 / (Int32.ofInt 2)))
            · replace h := (if_pos c14).symm.trans h
              refine xr_ifCond_ge_p i_X9_landing_92 c14 (q := 99) t_X9_landing_92 (q2 := 95) rfl ?_
              refine xr_iload i_X9_landing_99 rfl (q := 101) rfl ?_
              refine xr_bipush i_X9_landing_101 (q := 103) rfl ?_
              by_cases c13 : (v2 + (v1 / (Int32.ofInt 2))) ≤ ((Int8.ofInt 20).toInt32)
              · replace h := (if_pos c13).symm.trans h
                refine xr_if_icmp_le_p i_X9_landing_103 c13 (q := 111) t_X9_landing_103 (q2 := 106) rfl ?_
                refine xr_iload i_X9_landing_111 rfl (q := 113) rfl ?_
                exact xr_ireturn i_X9_landing_113 rfl h
              · replace h := (if_neg c13).symm.trans h
                refine xr_if_icmp_le_n i_X9_landing_103 c13 (q := 111) t_X9_landing_103 (q2 := 106) rfl ?_
                refine xr_bipush i_X9_landing_106 (q := 108) rfl ?_
                refine xr_goto i_X9_landing_108 (q := 113) t_X9_landing_108 ?_
                exact xr_ireturn i_X9_landing_113 rfl h
            · replace h := (if_neg c14).symm.trans h
              refine xr_ifCond_ge_n i_X9_landing_92 c14 (q := 99) t_X9_landing_92 (q2 := 95) rfl ?_
              refine xr_iconst i_X9_landing_95 (q := 96) rfl ?_
              refine xr_goto i_X9_landing_96 (q := 113) t_X9_landing_96 ?_
              exact xr_ireturn i_X9_landing_113 rfl h
        · replace h := (if_neg c11).symm.trans h
          by_cases c18 : Int32.toInt v0 = 5
          · replace h := (if_pos c18).symm.trans h
            refine xr_table i_X9_landing_4 rfl (off := 36) (fun kk => (xi_sw_miss c1).trans ((xi_sw_miss c4).trans ((xi_sw_miss c5).trans ((xi_sw_miss c11).trans (xi_sw_hit c18))))) (q := 40) rfl ?_
            refine xr_bipush i_X9_landing_40 (q := 42) rfl ?_
            exact xr_ireturn i_X9_landing_42 rfl h
          · replace h := (if_neg c18).symm.trans h
            refine xr_table i_X9_landing_4 rfl (off := 86) (fun kk => (xi_sw_miss c1).trans ((xi_sw_miss c4).trans ((xi_sw_miss c5).trans ((xi_sw_miss c11).trans ((xi_sw_miss c18).trans (rfl)))))) (q := 90) rfl ?_
            refine xr_iload i_X9_landing_90 rfl (q := 92) rfl ?_
            by_cases c20 : 0 ≤ v2
            · replace h := (if_pos c20).symm.trans h
              refine xr_ifCond_ge_p i_X9_landing_92 c20 (q := 99) t_X9_landing_92 (q2 := 95) rfl ?_
              refine xr_iload i_X9_landing_99 rfl (q := 101) rfl ?_
              refine xr_bipush i_X9_landing_101 (q := 103) rfl ?_
              by_cases c19 : v2 ≤ ((Int8.ofInt 20).toInt32)
              · replace h := (if_pos c19).symm.trans h
                refine xr_if_icmp_le_p i_X9_landing_103 c19 (q := 111) t_X9_landing_103 (q2 := 106) rfl ?_
                refine xr_iload i_X9_landing_111 rfl (q := 113) rfl ?_
                exact xr_ireturn i_X9_landing_113 rfl h
              · replace h := (if_neg c19).symm.trans h
                refine xr_if_icmp_le_n i_X9_landing_103 c19 (q := 111) t_X9_landing_103 (q2 := 106) rfl ?_
                refine xr_bipush i_X9_landing_106 (q := 108) rfl ?_
                refine xr_goto i_X9_landing_108 (q := 113) t_X9_landing_108 ?_
                exact xr_ireturn i_X9_landing_113 rfl h
            · replace h := (if_neg c20).symm.trans h
              refine xr_ifCond_ge_n i_X9_landing_92 c20 (q := 99) t_X9_landing_92 (q2 := 95) rfl ?_
              refine xr_iconst i_X9_landing_95 (q := 96) rfl ?_
              refine xr_goto i_X9_landing_96 (q := 113) t_X9_landing_96 ?_
              exact xr_ireturn i_X9_landing_113 rfl h
set_option maxRecDepth 100000 in
theorem po_X9_landing {l : Launch} {E : xi_E} {S : xi_S} {D : va_G} {tys : List (ClassId × FieldType)} (hC : xCx E S tys) : xi_Pok l E S D vwCl tys xNs RX9 xTs cX9_landing 5 0 (P_X9_landing S) := ⟨xi_dc_ok, by rw [hC.2]; exact xfo_X9, xkio_X9, xklo_X9, xi_calls_ok (ins := .invokestatic) (fun _ h => absurd h List.not_mem_nil), xi_calls_ok (ins := .invokevirtual) (fun _ h => absurd h List.not_mem_nil)⟩
theorem sn_X9_landing {l : Launch} {E : xi_E} {S : xi_S} {D : va_G} {tys : List (ClassId × FieldType)} (hC : xCx E S tys) : ∀ As m1 r m2, F_X9_landing S As m1 = some (r, m2) → xi_Sound l E S D vwCl tys xNs xTs yX9_landing cX9_landing 5 (some .int) 0 As m1 r m2 := by
  intro As m1 r m2 h
  unfold F_X9_landing at h
  split at h
  · exact xi_meth (P := P_X9_landing S) (by decide) hC.1 (po_X9_landing hC) (Nat.le_of_ble_eq_true rfl) rfl (xe_X9_landing _ _ _ _ _ h)
  · exact xi_no h
theorem i_X9_ball_0 : xi_dc cX9_ball 0 = some (.bipush 10, 2) := by decide +kernel
theorem i_X9_ball_2 : xi_dc cX9_ball 2 = some (.iconst 4, 1) := by decide +kernel
theorem i_X9_ball_3 : xi_dc cX9_ball 3 = some (.iload_n 1, 1) := by decide +kernel
theorem i_X9_ball_4 : xi_dc cX9_ball 4 = some (.imul, 1) := by decide +kernel
theorem i_X9_ball_5 : xi_dc cX9_ball 5 = some (.iadd, 1) := by decide +kernel
theorem i_X9_ball_6 : xi_dc cX9_ball 6 = some (.istore_n 2, 1) := by decide +kernel
theorem i_X9_ball_7 : xi_dc cX9_ball 7 = some (.aload_n 0, 1) := by decide +kernel
theorem i_X9_ball_8 : xi_dc cX9_ball 8 = some (.iload_n 2, 1) := by decide +kernel
theorem i_X9_ball_9 : xi_dc cX9_ball 9 = some (.iaload, 1) := by decide +kernel
theorem i_X9_ball_10 : xi_dc cX9_ball 10 = some (.aload_n 0, 1) := by decide +kernel
theorem i_X9_ball_11 : xi_dc cX9_ball 11 = some (.iload_n 2, 1) := by decide +kernel
theorem i_X9_ball_12 : xi_dc cX9_ball 12 = some (.iconst 3, 1) := by decide +kernel
theorem i_X9_ball_13 : xi_dc cX9_ball 13 = some (.iadd, 1) := by decide +kernel
theorem i_X9_ball_14 : xi_dc cX9_ball 14 = some (.iaload, 1) := by decide +kernel
theorem i_X9_ball_15 : xi_dc cX9_ball 15 = some (.aload_n 0, 1) := by decide +kernel
theorem i_X9_ball_16 : xi_dc cX9_ball 16 = some (.iload_n 2, 1) := by decide +kernel
theorem i_X9_ball_17 : xi_dc cX9_ball 17 = some (.iconst 2, 1) := by decide +kernel
theorem i_X9_ball_18 : xi_dc cX9_ball 18 = some (.iadd, 1) := by decide +kernel
theorem i_X9_ball_19 : xi_dc cX9_ball 19 = some (.iaload, 1) := by decide +kernel
theorem i_X9_ball_20 : xi_dc cX9_ball 20 = some (.aload_n 0, 1) := by decide +kernel
theorem i_X9_ball_21 : xi_dc cX9_ball 21 = some (.iconst 3, 1) := by decide +kernel
theorem i_X9_ball_22 : xi_dc cX9_ball 22 = some (.iaload, 1) := by decide +kernel
theorem i_X9_ball_23 : xi_dc cX9_ball 23 = some (.invokestatic 128, 3) := by decide +kernel
theorem i_X9_ball_26 : xi_dc cX9_ball 26 = some (.ireturn, 1) := by decide +kernel
def P_X9_ball (S : xi_S) : xi_P := (xi_dc cX9_ball, xi_tab xfl_X9, xi_tab xki_X9, xi_tab xkl_X9, xi_tab xcs_X9, xi_tab xcv_X9, xi_calls [(128, xi_wS 4 (F_X9_landing S))], xi_calls [], 1)
theorem cc_X9_ball_128 (S : xi_S) (a0 : Int32) (a1 : Int32) (a2 : Int32) (a3 : Int32) (m : xi_M) : (P_X9_ball S).2.2.2.2.2.2.1 128 [.int a0, .int a1, .int a2, .int a3] m = (E_X9_landing S a0 a1 a2 a3 m) := by
  show xi_calls [(128, xi_wS 4 (F_X9_landing S))] 128 [.int a0, .int a1, .int a2, .int a3] m = _
  refine Eq.trans (b := xi_wS 4 (F_X9_landing S) [.int a0, .int a1, .int a2, .int a3] m) (xi_calls_hit rfl) ?_
  exact xi_wS_eq rfl
def E_X9_ball (S : xi_S) (v0 : Nat) (v1 : Int32) (m : xi_M) : Option xi_R :=
  if S.1 v0 = 0 ∧ ¬ ((((Int8.ofInt 10).toInt32) + ((Int32.ofInt 4) * v1)) < 0 ∨ S.2.1 v0 ≤ Int32.toNatClampNeg (((Int8.ofInt 10).toInt32) + ((Int32.ofInt 4) * v1))) then
    if S.1 v0 = 0 ∧ ¬ (((((Int8.ofInt 10).toInt32) + ((Int32.ofInt 4) * v1)) + (Int32.ofInt 3)) < 0 ∨ S.2.1 v0 ≤ Int32.toNatClampNeg ((((Int8.ofInt 10).toInt32) + ((Int32.ofInt 4) * v1)) + (Int32.ofInt 3))) then
      if S.1 v0 = 0 ∧ ¬ (((((Int8.ofInt 10).toInt32) + ((Int32.ofInt 4) * v1)) + (Int32.ofInt 2)) < 0 ∨ S.2.1 v0 ≤ Int32.toNatClampNeg ((((Int8.ofInt 10).toInt32) + ((Int32.ofInt 4) * v1)) + (Int32.ofInt 2))) then
        if S.1 v0 = 0 ∧ ¬ ((Int32.ofInt 3) < 0 ∨ S.2.1 v0 ≤ Int32.toNatClampNeg (Int32.ofInt 3)) then
          xi_bI (E_X9_landing S (m.1 v0 (Int32.toNatClampNeg (((Int8.ofInt 10).toInt32) + ((Int32.ofInt 4) * v1)))) (m.1 v0 (Int32.toNatClampNeg ((((Int8.ofInt 10).toInt32) + ((Int32.ofInt 4) * v1)) + (Int32.ofInt 3)))) (m.1 v0 (Int32.toNatClampNeg ((((Int8.ofInt 10).toInt32) + ((Int32.ofInt 4) * v1)) + (Int32.ofInt 2)))) (m.1 v0 (Int32.toNatClampNeg (Int32.ofInt 3))) m) fun x6 m5 =>
          some (some (.int x6), m5)
        else none
      else none
    else none
  else none
def F_X9_ball (S : xi_S) : xi_F := fun As m => match As with
  | [.ref v0, .int v1] => E_X9_ball S v0 v1 m
  | _ => none
set_option maxRecDepth 100000 in
set_option maxHeartbeats 4000000 in
theorem xe_X9_ball {S : xi_S} {res : xi_R} (v0 : Nat) (v1 : Int32) (m : xi_M) (h : E_X9_ball S v0 v1 m = some res) : xi_X S (P_X9_ball S) (0, [some (.ref v0), some (.int v1), none], [], m) res := by
  unfold E_X9_ball at h
  refine xr_bipush i_X9_ball_0 (q := 2) rfl ?_
  refine xr_iconst i_X9_ball_2 (q := 3) rfl ?_
  refine xr_iload_n i_X9_ball_3 rfl (q := 4) rfl ?_
  refine xr_imul i_X9_ball_4 (q := 5) rfl ?_
  refine xr_iadd i_X9_ball_5 (q := 6) rfl ?_
  refine xr_istore_n i_X9_ball_6 rfl (L2 := [some (.ref v0), some (.int v1), some (.int (((Int8.ofInt 10).toInt32) + ((Int32.ofInt 4) * v1)))]) rfl (q := 7) rfl ?_
  refine xr_aload_n i_X9_ball_7 rfl (q := 8) rfl ?_
  refine xr_iload_n i_X9_ball_8 rfl (q := 9) rfl ?_
  obtain ⟨c1, h⟩ := xi_if_some h
  refine xr_iaload i_X9_ball_9 c1 (q := 10) rfl ?_
  refine xr_aload_n i_X9_ball_10 rfl (q := 11) rfl ?_
  refine xr_iload_n i_X9_ball_11 rfl (q := 12) rfl ?_
  refine xr_iconst i_X9_ball_12 (q := 13) rfl ?_
  refine xr_iadd i_X9_ball_13 (q := 14) rfl ?_
  obtain ⟨c2, h⟩ := xi_if_some h
  refine xr_iaload i_X9_ball_14 c2 (q := 15) rfl ?_
  refine xr_aload_n i_X9_ball_15 rfl (q := 16) rfl ?_
  refine xr_iload_n i_X9_ball_16 rfl (q := 17) rfl ?_
  refine xr_iconst i_X9_ball_17 (q := 18) rfl ?_
  refine xr_iadd i_X9_ball_18 (q := 19) rfl ?_
  obtain ⟨c3, h⟩ := xi_if_some h
  refine xr_iaload i_X9_ball_19 c3 (q := 20) rfl ?_
  refine xr_aload_n i_X9_ball_20 rfl (q := 21) rfl ?_
  refine xr_iconst i_X9_ball_21 (q := 22) rfl ?_
  obtain ⟨c4, h⟩ := xi_if_some h
  refine xr_iaload i_X9_ball_22 c4 (q := 23) rfl ?_
  obtain ⟨x6, m5, em5, h⟩ := xi_bI_some h
  refine xr_SI i_X9_ball_23 xcse_X9_128 rfl (As := [.int (m.1 v0 (Int32.toNatClampNeg (((Int8.ofInt 10).toInt32) + ((Int32.ofInt 4) * v1)))), .int (m.1 v0 (Int32.toNatClampNeg ((((Int8.ofInt 10).toInt32) + ((Int32.ofInt 4) * v1)) + (Int32.ofInt 3)))), .int (m.1 v0 (Int32.toNatClampNeg ((((Int8.ofInt 10).toInt32) + ((Int32.ofInt 4) * v1)) + (Int32.ofInt 2)))), .int (m.1 v0 (Int32.toNatClampNeg (Int32.ofInt 3)))]) rfl (rest := []) rfl ((cc_X9_ball_128 S _ _ _ _ _).trans em5) (q := 26) rfl ?_
  exact xr_ireturn i_X9_ball_26 rfl h
set_option maxRecDepth 100000 in
theorem po_X9_ball {l : Launch} {E : xi_E} {S : xi_S} {D : va_G} {tys : List (ClassId × FieldType)} (hC : xCx E S tys) : xi_Pok l E S D vwCl tys xNs RX9 xTs cX9_ball 3 1 (P_X9_ball S) := ⟨xi_dc_ok, by rw [hC.2]; exact xfo_X9, xkio_X9, xklo_X9, xi_calls_ok (ins := .invokestatic) (List.forall_mem_cons.mpr ⟨(xc_X9_128 (sn_X9_landing hC) (by decide)), fun _ h => absurd h List.not_mem_nil⟩), xi_calls_ok (ins := .invokevirtual) (fun _ h => absurd h List.not_mem_nil)⟩
theorem sn_X9_ball {l : Launch} {E : xi_E} {S : xi_S} {D : va_G} {tys : List (ClassId × FieldType)} (hC : xCx E S tys) : ∀ As m1 r m2, F_X9_ball S As m1 = some (r, m2) → xi_Sound l E S D vwCl tys xNs xTs yX9_ball cX9_ball 3 (some .int) 1 As m1 r m2 := by
  intro As m1 r m2 h
  unfold F_X9_ball at h
  split at h
  · exact xi_meth (P := P_X9_ball S) (by decide) hC.1 (po_X9_ball hC) (Nat.le_of_ble_eq_true rfl) rfl (xe_X9_ball _ _ _ h)
  · exact xi_no h
theorem i_X9_reach_0 : xi_dc cX9_reach 0 = some (.aload_n 0, 1) := by decide +kernel
theorem i_X9_reach_1 : xi_dc cX9_reach 1 = some (.iload_n 1, 1) := by decide +kernel
theorem i_X9_reach_2 : xi_dc cX9_reach 2 = some (.invokestatic 132, 3) := by decide +kernel
theorem i_X9_reach_5 : xi_dc cX9_reach 5 = some (.ifCond .ne 8, 3) := by decide +kernel
theorem t_X9_reach_5 : ((5 : Nat) : Int) + 8 = ((13 : Nat) : Int) := by decide +kernel
theorem i_X9_reach_8 : xi_dc cX9_reach 8 = some (.bipush (-9), 2) := by decide +kernel
theorem i_X9_reach_10 : xi_dc cX9_reach 10 = some (.goto 33, 3) := by decide +kernel
theorem t_X9_reach_10 : ((10 : Nat) : Int) + 33 = ((43 : Nat) : Int) := by decide +kernel
theorem i_X9_reach_13 : xi_dc cX9_reach 13 = some (.aload_n 0, 1) := by decide +kernel
theorem i_X9_reach_14 : xi_dc cX9_reach 14 = some (.bipush 10, 2) := by decide +kernel
theorem i_X9_reach_16 : xi_dc cX9_reach 16 = some (.iconst 4, 1) := by decide +kernel
theorem i_X9_reach_17 : xi_dc cX9_reach 17 = some (.iload_n 1, 1) := by decide +kernel
theorem i_X9_reach_18 : xi_dc cX9_reach 18 = some (.imul, 1) := by decide +kernel
theorem i_X9_reach_19 : xi_dc cX9_reach 19 = some (.iadd, 1) := by decide +kernel
theorem i_X9_reach_20 : xi_dc cX9_reach 20 = some (.iconst 3, 1) := by decide +kernel
theorem i_X9_reach_21 : xi_dc cX9_reach 21 = some (.iadd, 1) := by decide +kernel
theorem i_X9_reach_22 : xi_dc cX9_reach 22 = some (.iaload, 1) := by decide +kernel
theorem i_X9_reach_23 : xi_dc cX9_reach 23 = some (.iconst 3, 1) := by decide +kernel
theorem i_X9_reach_24 : xi_dc cX9_reach 24 = some (.idiv, 1) := by decide +kernel
theorem i_X9_reach_25 : xi_dc cX9_reach 25 = some (.aload_n 0, 1) := by decide +kernel
theorem i_X9_reach_26 : xi_dc cX9_reach 26 = some (.bipush 10, 2) := by decide +kernel
theorem i_X9_reach_28 : xi_dc cX9_reach 28 = some (.iconst 4, 1) := by decide +kernel
theorem i_X9_reach_29 : xi_dc cX9_reach 29 = some (.iload_n 1, 1) := by decide +kernel
theorem i_X9_reach_30 : xi_dc cX9_reach 30 = some (.imul, 1) := by decide +kernel
theorem i_X9_reach_31 : xi_dc cX9_reach 31 = some (.iadd, 1) := by decide +kernel
theorem i_X9_reach_32 : xi_dc cX9_reach 32 = some (.iaload, 1) := by decide +kernel
theorem i_X9_reach_33 : xi_dc cX9_reach 33 = some (.iconst 5, 1) := by decide +kernel
theorem i_X9_reach_34 : xi_dc cX9_reach 34 = some (.if_icmp .ne 7, 3) := by decide +kernel
theorem t_X9_reach_34 : ((34 : Nat) : Int) + 7 = ((41 : Nat) : Int) := by decide +kernel
theorem i_X9_reach_37 : xi_dc cX9_reach 37 = some (.iconst 1, 1) := by decide +kernel
theorem i_X9_reach_38 : xi_dc cX9_reach 38 = some (.goto 4, 3) := by decide +kernel
theorem t_X9_reach_38 : ((38 : Nat) : Int) + 4 = ((42 : Nat) : Int) := by decide +kernel
theorem i_X9_reach_41 : xi_dc cX9_reach 41 = some (.iconst 0, 1) := by decide +kernel
theorem i_X9_reach_42 : xi_dc cX9_reach 42 = some (.iadd, 1) := by decide +kernel
theorem i_X9_reach_43 : xi_dc cX9_reach 43 = some (.ireturn, 1) := by decide +kernel
def P_X9_reach (S : xi_S) : xi_P := (xi_dc cX9_reach, xi_tab xfl_X9, xi_tab xki_X9, xi_tab xkl_X9, xi_tab xcs_X9, xi_tab xcv_X9, xi_calls [(132, xi_wS 2 (F_X9_isKeeper S))], xi_calls [], 1)
theorem cc_X9_reach_132 (S : xi_S) (a0 : Nat) (a1 : Int32) (m : xi_M) : (P_X9_reach S).2.2.2.2.2.2.1 132 [.ref a0, .int a1] m = (E_X9_isKeeper S a0 a1 m) := by
  show xi_calls [(132, xi_wS 2 (F_X9_isKeeper S))] 132 [.ref a0, .int a1] m = _
  refine Eq.trans (b := xi_wS 2 (F_X9_isKeeper S) [.ref a0, .int a1] m) (xi_calls_hit rfl) ?_
  exact xi_wS_eq rfl
def E_X9_reach (S : xi_S) (v0 : Nat) (v1 : Int32) (m : xi_M) : Option xi_R :=
  xi_bI (E_X9_isKeeper S v0 v1 m) fun x2 m1 =>
  if x2 = 0 then
    some (some (.int ((Int8.ofInt (-9)).toInt32)), m1)
  else
    if S.1 v0 = 0 ∧ ¬ (((((Int8.ofInt 10).toInt32) + ((Int32.ofInt 4) * v1)) + (Int32.ofInt 3)) < 0 ∨ S.2.1 v0 ≤ Int32.toNatClampNeg ((((Int8.ofInt 10).toInt32) + ((Int32.ofInt 4) * v1)) + (Int32.ofInt 3))) then
      if (Int32.ofInt 3) = 0 then none else
      if S.1 v0 = 0 ∧ ¬ ((((Int8.ofInt 10).toInt32) + ((Int32.ofInt 4) * v1)) < 0 ∨ S.2.1 v0 ≤ Int32.toNatClampNeg (((Int8.ofInt 10).toInt32) + ((Int32.ofInt 4) * v1))) then
        if (m1.1 v0 (Int32.toNatClampNeg (((Int8.ofInt 10).toInt32) + ((Int32.ofInt 4) * v1)))) = (Int32.ofInt 5) then
          some (some (.int (((m1.1 v0 (Int32.toNatClampNeg ((((Int8.ofInt 10).toInt32) + ((Int32.ofInt 4) * v1)) + (Int32.ofInt 3)))) / (Int32.ofInt 3)) + (Int32.ofInt 1))), m1)
        else
          some (some (.int (((m1.1 v0 (Int32.toNatClampNeg ((((Int8.ofInt 10).toInt32) + ((Int32.ofInt 4) * v1)) + (Int32.ofInt 3)))) / (Int32.ofInt 3)) + (Int32.ofInt 0))), m1)
      else none
    else none
def F_X9_reach (S : xi_S) : xi_F := fun As m => match As with
  | [.ref v0, .int v1] => E_X9_reach S v0 v1 m
  | _ => none
set_option maxRecDepth 100000 in
set_option maxHeartbeats 4000000 in
theorem xe_X9_reach {S : xi_S} {res : xi_R} (v0 : Nat) (v1 : Int32) (m : xi_M) (h : E_X9_reach S v0 v1 m = some res) : xi_X S (P_X9_reach S) (0, [some (.ref v0), some (.int v1)], [], m) res := by
  unfold E_X9_reach at h
  refine xr_aload_n i_X9_reach_0 rfl (q := 1) rfl ?_
  refine xr_iload_n i_X9_reach_1 rfl (q := 2) rfl ?_
  obtain ⟨x2, m1, em1, h⟩ := xi_bI_some h
  refine xr_SI i_X9_reach_2 xcse_X9_132 rfl (As := [.ref v0, .int v1]) rfl (rest := []) rfl ((cc_X9_reach_132 S _ _ _).trans em1) (q := 5) rfl ?_
  by_cases c7 : x2 = 0
  · replace h := (if_pos c7).symm.trans h
    refine xr_ifCond_ne_p i_X9_reach_5 c7 (q := 13) t_X9_reach_5 (q2 := 8) rfl ?_
    refine xr_bipush i_X9_reach_8 (q := 10) rfl ?_
    refine xr_goto i_X9_reach_10 (q := 43) t_X9_reach_10 ?_
    exact xr_ireturn i_X9_reach_43 rfl h
  · replace h := (if_neg c7).symm.trans h
    refine xr_ifCond_ne_n i_X9_reach_5 c7 (q := 13) t_X9_reach_5 (q2 := 8) rfl ?_
    refine xr_aload_n i_X9_reach_13 rfl (q := 14) rfl ?_
    refine xr_bipush i_X9_reach_14 (q := 16) rfl ?_
    refine xr_iconst i_X9_reach_16 (q := 17) rfl ?_
    refine xr_iload_n i_X9_reach_17 rfl (q := 18) rfl ?_
    refine xr_imul i_X9_reach_18 (q := 19) rfl ?_
    refine xr_iadd i_X9_reach_19 (q := 20) rfl ?_
    refine xr_iconst i_X9_reach_20 (q := 21) rfl ?_
    refine xr_iadd i_X9_reach_21 (q := 22) rfl ?_
    obtain ⟨c3, h⟩ := xi_if_some h
    refine xr_iaload i_X9_reach_22 c3 (q := 23) rfl ?_
    refine xr_iconst i_X9_reach_23 (q := 24) rfl ?_
    obtain ⟨c4, h⟩ := xi_ifn_some h
    refine xr_idiv i_X9_reach_24 c4 (q := 25) rfl ?_
    refine xr_aload_n i_X9_reach_25 rfl (q := 26) rfl ?_
    refine xr_bipush i_X9_reach_26 (q := 28) rfl ?_
    refine xr_iconst i_X9_reach_28 (q := 29) rfl ?_
    refine xr_iload_n i_X9_reach_29 rfl (q := 30) rfl ?_
    refine xr_imul i_X9_reach_30 (q := 31) rfl ?_
    refine xr_iadd i_X9_reach_31 (q := 32) rfl ?_
    obtain ⟨c5, h⟩ := xi_if_some h
    refine xr_iaload i_X9_reach_32 c5 (q := 33) rfl ?_
    refine xr_iconst i_X9_reach_33 (q := 34) rfl ?_
    by_cases c6 : (m1.1 v0 (Int32.toNatClampNeg (((Int8.ofInt 10).toInt32) + ((Int32.ofInt 4) * v1)))) = (Int32.ofInt 5)
    · replace h := (if_pos c6).symm.trans h
      refine xr_if_icmp_ne_p i_X9_reach_34 c6 (q := 41) t_X9_reach_34 (q2 := 37) rfl ?_
      refine xr_iconst i_X9_reach_37 (q := 38) rfl ?_
      refine xr_goto i_X9_reach_38 (q := 42) t_X9_reach_38 ?_
      refine xr_iadd i_X9_reach_42 (q := 43) rfl ?_
      exact xr_ireturn i_X9_reach_43 rfl h
    · replace h := (if_neg c6).symm.trans h
      refine xr_if_icmp_ne_n i_X9_reach_34 c6 (q := 41) t_X9_reach_34 (q2 := 37) rfl ?_
      refine xr_iconst i_X9_reach_41 (q := 42) rfl ?_
      refine xr_iadd i_X9_reach_42 (q := 43) rfl ?_
      exact xr_ireturn i_X9_reach_43 rfl h
set_option maxRecDepth 100000 in
theorem po_X9_reach {l : Launch} {E : xi_E} {S : xi_S} {D : va_G} {tys : List (ClassId × FieldType)} (hC : xCx E S tys) : xi_Pok l E S D vwCl tys xNs RX9 xTs cX9_reach 2 1 (P_X9_reach S) := ⟨xi_dc_ok, by rw [hC.2]; exact xfo_X9, xkio_X9, xklo_X9, xi_calls_ok (ins := .invokestatic) (List.forall_mem_cons.mpr ⟨(xc_X9_132 (sn_X9_isKeeper hC) (by decide)), fun _ h => absurd h List.not_mem_nil⟩), xi_calls_ok (ins := .invokevirtual) (fun _ h => absurd h List.not_mem_nil)⟩
theorem sn_X9_reach {l : Launch} {E : xi_E} {S : xi_S} {D : va_G} {tys : List (ClassId × FieldType)} (hC : xCx E S tys) : ∀ As m1 r m2, F_X9_reach S As m1 = some (r, m2) → xi_Sound l E S D vwCl tys xNs xTs yX9_reach cX9_reach 2 (some .int) 1 As m1 r m2 := by
  intro As m1 r m2 h
  unfold F_X9_reach at h
  split at h
  · exact xi_meth (P := P_X9_reach S) (by decide) hC.1 (po_X9_reach hC) (Nat.le_of_ble_eq_true rfl) rfl (xe_X9_reach _ _ _ h)
  · exact xi_no h
theorem i_X9_isReached_0 : xi_dc cX9_isReached 0 = some (.aload_n 0, 1) := by decide +kernel
theorem i_X9_isReached_1 : xi_dc cX9_isReached 1 = some (.iload_n 1, 1) := by decide +kernel
theorem i_X9_isReached_2 : xi_dc cX9_isReached 2 = some (.invokestatic 132, 3) := by decide +kernel
theorem i_X9_isReached_5 : xi_dc cX9_isReached 5 = some (.ifCond .eq 29, 3) := by decide +kernel
theorem t_X9_isReached_5 : ((5 : Nat) : Int) + 29 = ((34 : Nat) : Int) := by decide +kernel
theorem i_X9_isReached_8 : xi_dc cX9_isReached 8 = some (.aload_n 0, 1) := by decide +kernel
theorem i_X9_isReached_9 : xi_dc cX9_isReached 9 = some (.bipush 10, 2) := by decide +kernel
theorem i_X9_isReached_11 : xi_dc cX9_isReached 11 = some (.iconst 4, 1) := by decide +kernel
theorem i_X9_isReached_12 : xi_dc cX9_isReached 12 = some (.iload_n 1, 1) := by decide +kernel
theorem i_X9_isReached_13 : xi_dc cX9_isReached 13 = some (.imul, 1) := by decide +kernel
theorem i_X9_isReached_14 : xi_dc cX9_isReached 14 = some (.iadd, 1) := by decide +kernel
theorem i_X9_isReached_15 : xi_dc cX9_isReached 15 = some (.iconst 2, 1) := by decide +kernel
theorem i_X9_isReached_16 : xi_dc cX9_isReached 16 = some (.iadd, 1) := by decide +kernel
theorem i_X9_isReached_17 : xi_dc cX9_isReached 17 = some (.iaload, 1) := by decide +kernel
theorem i_X9_isReached_18 : xi_dc cX9_isReached 18 = some (.iload_n 2, 1) := by decide +kernel
theorem i_X9_isReached_19 : xi_dc cX9_isReached 19 = some (.invokestatic 136, 3) := by decide +kernel
theorem i_X9_isReached_22 : xi_dc cX9_isReached 22 = some (.aload_n 0, 1) := by decide +kernel
theorem i_X9_isReached_23 : xi_dc cX9_isReached 23 = some (.iload_n 1, 1) := by decide +kernel
theorem i_X9_isReached_24 : xi_dc cX9_isReached 24 = some (.invokestatic 139, 3) := by decide +kernel
theorem i_X9_isReached_27 : xi_dc cX9_isReached 27 = some (.if_icmp .gt 7, 3) := by decide +kernel
theorem t_X9_isReached_27 : ((27 : Nat) : Int) + 7 = ((34 : Nat) : Int) := by decide +kernel
theorem i_X9_isReached_30 : xi_dc cX9_isReached 30 = some (.iconst 1, 1) := by decide +kernel
theorem i_X9_isReached_31 : xi_dc cX9_isReached 31 = some (.goto 4, 3) := by decide +kernel
theorem t_X9_isReached_31 : ((31 : Nat) : Int) + 4 = ((35 : Nat) : Int) := by decide +kernel
theorem i_X9_isReached_34 : xi_dc cX9_isReached 34 = some (.iconst 0, 1) := by decide +kernel
theorem i_X9_isReached_35 : xi_dc cX9_isReached 35 = some (.ireturn, 1) := by decide +kernel
def P_X9_isReached (S : xi_S) : xi_P := (xi_dc cX9_isReached, xi_tab xfl_X9, xi_tab xki_X9, xi_tab xkl_X9, xi_tab xcs_X9, xi_tab xcv_X9, xi_calls [(132, xi_wS 2 (F_X9_isKeeper S)), (136, xi_wS 2 (F_X9_apart S)), (139, xi_wS 2 (F_X9_reach S))], xi_calls [], 2)
theorem cc_X9_isReached_132 (S : xi_S) (a0 : Nat) (a1 : Int32) (m : xi_M) : (P_X9_isReached S).2.2.2.2.2.2.1 132 [.ref a0, .int a1] m = (E_X9_isKeeper S a0 a1 m) := by
  show xi_calls [(132, xi_wS 2 (F_X9_isKeeper S)), (136, xi_wS 2 (F_X9_apart S)), (139, xi_wS 2 (F_X9_reach S))] 132 [.ref a0, .int a1] m = _
  refine Eq.trans (b := xi_wS 2 (F_X9_isKeeper S) [.ref a0, .int a1] m) (xi_calls_hit rfl) ?_
  exact xi_wS_eq rfl
theorem cc_X9_isReached_136 (S : xi_S) (a0 : Int32) (a1 : Int32) (m : xi_M) : (P_X9_isReached S).2.2.2.2.2.2.1 136 [.int a0, .int a1] m = (E_X9_apart S a0 a1 m) := by
  show xi_calls [(132, xi_wS 2 (F_X9_isKeeper S)), (136, xi_wS 2 (F_X9_apart S)), (139, xi_wS 2 (F_X9_reach S))] 136 [.int a0, .int a1] m = _
  refine Eq.trans (b := xi_calls [(136, xi_wS 2 (F_X9_apart S)), (139, xi_wS 2 (F_X9_reach S))] 136 [.int a0, .int a1] m) (xi_calls_miss rfl) ?_
  refine Eq.trans (b := xi_wS 2 (F_X9_apart S) [.int a0, .int a1] m) (xi_calls_hit rfl) ?_
  exact xi_wS_eq rfl
theorem cc_X9_isReached_139 (S : xi_S) (a0 : Nat) (a1 : Int32) (m : xi_M) : (P_X9_isReached S).2.2.2.2.2.2.1 139 [.ref a0, .int a1] m = (E_X9_reach S a0 a1 m) := by
  show xi_calls [(132, xi_wS 2 (F_X9_isKeeper S)), (136, xi_wS 2 (F_X9_apart S)), (139, xi_wS 2 (F_X9_reach S))] 139 [.ref a0, .int a1] m = _
  refine Eq.trans (b := xi_calls [(136, xi_wS 2 (F_X9_apart S)), (139, xi_wS 2 (F_X9_reach S))] 139 [.ref a0, .int a1] m) (xi_calls_miss rfl) ?_
  refine Eq.trans (b := xi_calls [(139, xi_wS 2 (F_X9_reach S))] 139 [.ref a0, .int a1] m) (xi_calls_miss rfl) ?_
  refine Eq.trans (b := xi_wS 2 (F_X9_reach S) [.ref a0, .int a1] m) (xi_calls_hit rfl) ?_
  exact xi_wS_eq rfl
def E_X9_isReached (S : xi_S) (v0 : Nat) (v1 : Int32) (v2 : Int32) (m : xi_M) : Option xi_R :=
  xi_bI (E_X9_isKeeper S v0 v1 m) fun x2 m1 =>
  if x2 = 0 then
    if (Int32.ofInt 0) = 0 ∨ (Int32.ofInt 0) = 1 then some (some (.int (Int32.ofInt 0)), m1) else none
  else
    if S.1 v0 = 0 ∧ ¬ (((((Int8.ofInt 10).toInt32) + ((Int32.ofInt 4) * v1)) + (Int32.ofInt 2)) < 0 ∨ S.2.1 v0 ≤ Int32.toNatClampNeg ((((Int8.ofInt 10).toInt32) + ((Int32.ofInt 4) * v1)) + (Int32.ofInt 2))) then
      xi_bI (E_X9_apart S (m1.1 v0 (Int32.toNatClampNeg ((((Int8.ofInt 10).toInt32) + ((Int32.ofInt 4) * v1)) + (Int32.ofInt 2)))) v2 m1) fun x5 m4 =>
      xi_bI (E_X9_reach S v0 v1 m4) fun x7 m6 =>
      if x7 < x5 then
        if (Int32.ofInt 0) = 0 ∨ (Int32.ofInt 0) = 1 then some (some (.int (Int32.ofInt 0)), m6) else none
      else
        if (Int32.ofInt 1) = 0 ∨ (Int32.ofInt 1) = 1 then some (some (.int (Int32.ofInt 1)), m6) else none
    else none
def F_X9_isReached (S : xi_S) : xi_F := fun As m => match As with
  | [.ref v0, .int v1, .int v2] => E_X9_isReached S v0 v1 v2 m
  | _ => none
set_option maxRecDepth 100000 in
set_option maxHeartbeats 4000000 in
theorem xe_X9_isReached {S : xi_S} {res : xi_R} (v0 : Nat) (v1 : Int32) (v2 : Int32) (m : xi_M) (h : E_X9_isReached S v0 v1 v2 m = some res) : xi_X S (P_X9_isReached S) (0, [some (.ref v0), some (.int v1), some (.int v2)], [], m) res := by
  unfold E_X9_isReached at h
  refine xr_aload_n i_X9_isReached_0 rfl (q := 1) rfl ?_
  refine xr_iload_n i_X9_isReached_1 rfl (q := 2) rfl ?_
  obtain ⟨x2, m1, em1, h⟩ := xi_bI_some h
  refine xr_SI i_X9_isReached_2 xcse_X9_132 rfl (As := [.ref v0, .int v1]) rfl (rest := []) rfl ((cc_X9_isReached_132 S _ _ _).trans em1) (q := 5) rfl ?_
  by_cases c9 : x2 = 0
  · replace h := (if_pos c9).symm.trans h
    refine xr_ifCond_eq_p i_X9_isReached_5 c9 (q := 34) t_X9_isReached_5 (q2 := 8) rfl ?_
    refine xr_iconst i_X9_isReached_34 (q := 35) rfl ?_
    exact xr_zreturn i_X9_isReached_35 rfl h
  · replace h := (if_neg c9).symm.trans h
    refine xr_ifCond_eq_n i_X9_isReached_5 c9 (q := 34) t_X9_isReached_5 (q2 := 8) rfl ?_
    refine xr_aload_n i_X9_isReached_8 rfl (q := 9) rfl ?_
    refine xr_bipush i_X9_isReached_9 (q := 11) rfl ?_
    refine xr_iconst i_X9_isReached_11 (q := 12) rfl ?_
    refine xr_iload_n i_X9_isReached_12 rfl (q := 13) rfl ?_
    refine xr_imul i_X9_isReached_13 (q := 14) rfl ?_
    refine xr_iadd i_X9_isReached_14 (q := 15) rfl ?_
    refine xr_iconst i_X9_isReached_15 (q := 16) rfl ?_
    refine xr_iadd i_X9_isReached_16 (q := 17) rfl ?_
    obtain ⟨c3, h⟩ := xi_if_some h
    refine xr_iaload i_X9_isReached_17 c3 (q := 18) rfl ?_
    refine xr_iload_n i_X9_isReached_18 rfl (q := 19) rfl ?_
    obtain ⟨x5, m4, em4, h⟩ := xi_bI_some h
    refine xr_SI i_X9_isReached_19 xcse_X9_136 rfl (As := [.int (m1.1 v0 (Int32.toNatClampNeg ((((Int8.ofInt 10).toInt32) + ((Int32.ofInt 4) * v1)) + (Int32.ofInt 2)))), .int v2]) rfl (rest := []) rfl ((cc_X9_isReached_136 S _ _ _).trans em4) (q := 22) rfl ?_
    refine xr_aload_n i_X9_isReached_22 rfl (q := 23) rfl ?_
    refine xr_iload_n i_X9_isReached_23 rfl (q := 24) rfl ?_
    obtain ⟨x7, m6, em6, h⟩ := xi_bI_some h
    refine xr_SI i_X9_isReached_24 xcse_X9_139 rfl (As := [.ref v0, .int v1]) rfl (rest := [.int x5]) rfl ((cc_X9_isReached_139 S _ _ _).trans em6) (q := 27) rfl ?_
    by_cases c8 : x7 < x5
    · replace h := (if_pos c8).symm.trans h
      refine xr_if_icmp_gt_p i_X9_isReached_27 c8 (q := 34) t_X9_isReached_27 (q2 := 30) rfl ?_
      refine xr_iconst i_X9_isReached_34 (q := 35) rfl ?_
      exact xr_zreturn i_X9_isReached_35 rfl h
    · replace h := (if_neg c8).symm.trans h
      refine xr_if_icmp_gt_n i_X9_isReached_27 c8 (q := 34) t_X9_isReached_27 (q2 := 30) rfl ?_
      refine xr_iconst i_X9_isReached_30 (q := 31) rfl ?_
      refine xr_goto i_X9_isReached_31 (q := 35) t_X9_isReached_31 ?_
      exact xr_zreturn i_X9_isReached_35 rfl h
set_option maxRecDepth 100000 in
theorem po_X9_isReached {l : Launch} {E : xi_E} {S : xi_S} {D : va_G} {tys : List (ClassId × FieldType)} (hC : xCx E S tys) : xi_Pok l E S D vwCl tys xNs RX9 xTs cX9_isReached 3 2 (P_X9_isReached S) := ⟨xi_dc_ok, by rw [hC.2]; exact xfo_X9, xkio_X9, xklo_X9, xi_calls_ok (ins := .invokestatic) (List.forall_mem_cons.mpr ⟨(xc_X9_132 (sn_X9_isKeeper hC) (by decide)), List.forall_mem_cons.mpr ⟨(xc_X9_136 (sn_X9_apart hC) (by decide)), List.forall_mem_cons.mpr ⟨(xc_X9_139 (sn_X9_reach hC) (by decide)), fun _ h => absurd h List.not_mem_nil⟩⟩⟩), xi_calls_ok (ins := .invokevirtual) (fun _ h => absurd h List.not_mem_nil)⟩
theorem sn_X9_isReached {l : Launch} {E : xi_E} {S : xi_S} {D : va_G} {tys : List (ClassId × FieldType)} (hC : xCx E S tys) : ∀ As m1 r m2, F_X9_isReached S As m1 = some (r, m2) → xi_Sound l E S D vwCl tys xNs xTs yX9_isReached cX9_isReached 3 (some .boolean) 2 As m1 r m2 := by
  intro As m1 r m2 h
  unfold F_X9_isReached at h
  split at h
  · exact xi_meth (P := P_X9_isReached S) (by decide) hC.1 (po_X9_isReached hC) (Nat.le_of_ble_eq_true rfl) rfl (xe_X9_isReached _ _ _ _ h)
  · exact xi_no h
theorem i_X9_isKept_0 : xi_dc cX9_isKept 0 = some (.iconst 0, 1) := by decide +kernel
theorem i_X9_isKept_1 : xi_dc cX9_isKept 1 = some (.istore_n 3, 1) := by decide +kernel
theorem i_X9_isKept_2 : xi_dc cX9_isKept 2 = some (.iconst 0, 1) := by decide +kernel
theorem i_X9_isKept_3 : xi_dc cX9_isKept 3 = some (.istore 4, 2) := by decide +kernel
theorem i_X9_isKept_5 : xi_dc cX9_isKept 5 = some (.iload 4, 2) := by decide +kernel
theorem i_X9_isKept_7 : xi_dc cX9_isKept 7 = some (.aload_n 0, 1) := by decide +kernel
theorem i_X9_isKept_8 : xi_dc cX9_isKept 8 = some (.iconst 1, 1) := by decide +kernel
theorem i_X9_isKept_9 : xi_dc cX9_isKept 9 = some (.iaload, 1) := by decide +kernel
theorem i_X9_isKept_10 : xi_dc cX9_isKept 10 = some (.if_icmp .ge 44, 3) := by decide +kernel
theorem t_X9_isKept_10 : ((10 : Nat) : Int) + 44 = ((54 : Nat) : Int) := by decide +kernel
theorem i_X9_isKept_13 : xi_dc cX9_isKept 13 = some (.iload_n 3, 1) := by decide +kernel
theorem i_X9_isKept_14 : xi_dc cX9_isKept 14 = some (.ifCond .ne 28, 3) := by decide +kernel
theorem t_X9_isKept_14 : ((14 : Nat) : Int) + 28 = ((42 : Nat) : Int) := by decide +kernel
theorem i_X9_isKept_17 : xi_dc cX9_isKept 17 = some (.aload_n 0, 1) := by decide +kernel
theorem i_X9_isKept_18 : xi_dc cX9_isKept 18 = some (.bipush 10, 2) := by decide +kernel
theorem i_X9_isKept_20 : xi_dc cX9_isKept 20 = some (.iconst 4, 1) := by decide +kernel
theorem i_X9_isKept_21 : xi_dc cX9_isKept 21 = some (.iload 4, 2) := by decide +kernel
theorem i_X9_isKept_23 : xi_dc cX9_isKept 23 = some (.imul, 1) := by decide +kernel
theorem i_X9_isKept_24 : xi_dc cX9_isKept 24 = some (.iadd, 1) := by decide +kernel
theorem i_X9_isKept_25 : xi_dc cX9_isKept 25 = some (.iconst 1, 1) := by decide +kernel
theorem i_X9_isKept_26 : xi_dc cX9_isKept 26 = some (.iadd, 1) := by decide +kernel
theorem i_X9_isKept_27 : xi_dc cX9_isKept 27 = some (.iaload, 1) := by decide +kernel
theorem i_X9_isKept_28 : xi_dc cX9_isKept 28 = some (.iload_n 1, 1) := by decide +kernel
theorem i_X9_isKept_29 : xi_dc cX9_isKept 29 = some (.if_icmp .ne 17, 3) := by decide +kernel
theorem t_X9_isKept_29 : ((29 : Nat) : Int) + 17 = ((46 : Nat) : Int) := by decide +kernel
theorem i_X9_isKept_32 : xi_dc cX9_isKept 32 = some (.aload_n 0, 1) := by decide +kernel
theorem i_X9_isKept_33 : xi_dc cX9_isKept 33 = some (.iload 4, 2) := by decide +kernel
theorem i_X9_isKept_35 : xi_dc cX9_isKept 35 = some (.iload_n 2, 1) := by decide +kernel
theorem i_X9_isKept_36 : xi_dc cX9_isKept 36 = some (.invokestatic 143, 3) := by decide +kernel
theorem i_X9_isKept_39 : xi_dc cX9_isKept 39 = some (.ifCond .eq 7, 3) := by decide +kernel
theorem t_X9_isKept_39 : ((39 : Nat) : Int) + 7 = ((46 : Nat) : Int) := by decide +kernel
theorem i_X9_isKept_42 : xi_dc cX9_isKept 42 = some (.iconst 1, 1) := by decide +kernel
theorem i_X9_isKept_43 : xi_dc cX9_isKept 43 = some (.goto 4, 3) := by decide +kernel
theorem t_X9_isKept_43 : ((43 : Nat) : Int) + 4 = ((47 : Nat) : Int) := by decide +kernel
theorem i_X9_isKept_46 : xi_dc cX9_isKept 46 = some (.iconst 0, 1) := by decide +kernel
theorem i_X9_isKept_47 : xi_dc cX9_isKept 47 = some (.istore_n 3, 1) := by decide +kernel
theorem i_X9_isKept_48 : xi_dc cX9_isKept 48 = some (.iinc 4 1, 3) := by decide +kernel
theorem i_X9_isKept_51 : xi_dc cX9_isKept 51 = some (.goto (-46), 3) := by decide +kernel
theorem t_X9_isKept_51 : ((51 : Nat) : Int) + (-46) = ((5 : Nat) : Int) := by decide +kernel
theorem i_X9_isKept_54 : xi_dc cX9_isKept 54 = some (.iload_n 3, 1) := by decide +kernel
theorem i_X9_isKept_55 : xi_dc cX9_isKept 55 = some (.ireturn, 1) := by decide +kernel
def P_X9_isKept (S : xi_S) : xi_P := (xi_dc cX9_isKept, xi_tab xfl_X9, xi_tab xki_X9, xi_tab xkl_X9, xi_tab xcs_X9, xi_tab xcv_X9, xi_calls [(143, xi_wS 3 (F_X9_isReached S))], xi_calls [], 2)
theorem cc_X9_isKept_143 (S : xi_S) (a0 : Nat) (a1 : Int32) (a2 : Int32) (m : xi_M) : (P_X9_isKept S).2.2.2.2.2.2.1 143 [.ref a0, .int a1, .int a2] m = (E_X9_isReached S a0 a1 a2 m) := by
  show xi_calls [(143, xi_wS 3 (F_X9_isReached S))] 143 [.ref a0, .int a1, .int a2] m = _
  refine Eq.trans (b := xi_wS 3 (F_X9_isReached S) [.ref a0, .int a1, .int a2] m) (xi_calls_hit rfl) ?_
  exact xi_wS_eq rfl
def G_X9_isKept_5 (S : xi_S) : Nat → Nat → Int32 → Int32 → Int32 → Int32 → xi_M → Option xi_R
  | 0, _, _, _, _, _, _ => none
  | n + 1, v0, v1, v2, v3, v4, m =>
    if S.1 v0 = 0 ∧ ¬ ((Int32.ofInt 1) < 0 ∨ S.2.1 v0 ≤ Int32.toNatClampNeg (Int32.ofInt 1)) then
      if (m.1 v0 (Int32.toNatClampNeg (Int32.ofInt 1))) ≤ v4 then
        if v3 = 0 ∨ v3 = 1 then some (some (.int v3), m) else none
      else
        if v3 = 0 then
          if S.1 v0 = 0 ∧ ¬ (((((Int8.ofInt 10).toInt32) + ((Int32.ofInt 4) * v4)) + (Int32.ofInt 1)) < 0 ∨ S.2.1 v0 ≤ Int32.toNatClampNeg ((((Int8.ofInt 10).toInt32) + ((Int32.ofInt 4) * v4)) + (Int32.ofInt 1))) then
            if (m.1 v0 (Int32.toNatClampNeg ((((Int8.ofInt 10).toInt32) + ((Int32.ofInt 4) * v4)) + (Int32.ofInt 1)))) = v1 then
              xi_bI (E_X9_isReached S v0 v4 v2 m) fun x4 m3 =>
              if x4 = 0 then
                G_X9_isKept_5 S n v0 v1 v2 (Int32.ofInt 0) (v4 + Int32.ofInt 1) m3
              else
                G_X9_isKept_5 S n v0 v1 v2 (Int32.ofInt 1) (v4 + Int32.ofInt 1) m3
            else
              G_X9_isKept_5 S n v0 v1 v2 (Int32.ofInt 0) (v4 + Int32.ofInt 1) m
          else none
        else
          G_X9_isKept_5 S n v0 v1 v2 (Int32.ofInt 1) (v4 + Int32.ofInt 1) m
    else none
set_option maxRecDepth 100000 in
set_option maxHeartbeats 4000000 in
theorem xs_X9_isKept_5 {S : xi_S} {res : xi_R} : ∀ (n : Nat) (v0 : Nat) (v1 : Int32) (v2 : Int32) (v3 : Int32) (v4 : Int32) (m : xi_M), G_X9_isKept_5 S n v0 v1 v2 v3 v4 m = some res → xi_X S (P_X9_isKept S) (5, [some (.ref v0), some (.int v1), some (.int v2), some (.int v3), some (.int v4)], [], m) res := by
  intro n
  induction n with
  | zero => intro v0 v1 v2 v3 v4 m h; exact xi_no h
  | succ n ih =>
    intro v0 v1 v2 v3 v4 m h
    unfold G_X9_isKept_5 at h
    refine xr_iload i_X9_isKept_5 rfl (q := 7) rfl ?_
    refine xr_aload_n i_X9_isKept_7 rfl (q := 8) rfl ?_
    refine xr_iconst i_X9_isKept_8 (q := 9) rfl ?_
    obtain ⟨c1, h⟩ := xi_if_some h
    refine xr_iaload i_X9_isKept_9 c1 (q := 10) rfl ?_
    by_cases c8 : (m.1 v0 (Int32.toNatClampNeg (Int32.ofInt 1))) ≤ v4
    · replace h := (if_pos c8).symm.trans h
      refine xr_if_icmp_ge_p i_X9_isKept_10 c8 (q := 54) t_X9_isKept_10 (q2 := 13) rfl ?_
      refine xr_iload_n i_X9_isKept_54 rfl (q := 55) rfl ?_
      exact xr_zreturn i_X9_isKept_55 rfl h
    · replace h := (if_neg c8).symm.trans h
      refine xr_if_icmp_ge_n i_X9_isKept_10 c8 (q := 54) t_X9_isKept_10 (q2 := 13) rfl ?_
      refine xr_iload_n i_X9_isKept_13 rfl (q := 14) rfl ?_
      by_cases c7 : v3 = 0
      · replace h := (if_pos c7).symm.trans h
        refine xr_ifCond_ne_p i_X9_isKept_14 c7 (q := 42) t_X9_isKept_14 (q2 := 17) rfl ?_
        refine xr_aload_n i_X9_isKept_17 rfl (q := 18) rfl ?_
        refine xr_bipush i_X9_isKept_18 (q := 20) rfl ?_
        refine xr_iconst i_X9_isKept_20 (q := 21) rfl ?_
        refine xr_iload i_X9_isKept_21 rfl (q := 23) rfl ?_
        refine xr_imul i_X9_isKept_23 (q := 24) rfl ?_
        refine xr_iadd i_X9_isKept_24 (q := 25) rfl ?_
        refine xr_iconst i_X9_isKept_25 (q := 26) rfl ?_
        refine xr_iadd i_X9_isKept_26 (q := 27) rfl ?_
        obtain ⟨c2, h⟩ := xi_if_some h
        refine xr_iaload i_X9_isKept_27 c2 (q := 28) rfl ?_
        refine xr_iload_n i_X9_isKept_28 rfl (q := 29) rfl ?_
        by_cases c6 : (m.1 v0 (Int32.toNatClampNeg ((((Int8.ofInt 10).toInt32) + ((Int32.ofInt 4) * v4)) + (Int32.ofInt 1)))) = v1
        · replace h := (if_pos c6).symm.trans h
          refine xr_if_icmp_ne_p i_X9_isKept_29 c6 (q := 46) t_X9_isKept_29 (q2 := 32) rfl ?_
          refine xr_aload_n i_X9_isKept_32 rfl (q := 33) rfl ?_
          refine xr_iload i_X9_isKept_33 rfl (q := 35) rfl ?_
          refine xr_iload_n i_X9_isKept_35 rfl (q := 36) rfl ?_
          obtain ⟨x4, m3, em3, h⟩ := xi_bI_some h
          refine xr_SI i_X9_isKept_36 xcse_X9_143 rfl (As := [.ref v0, .int v4, .int v2]) rfl (rest := []) rfl ((cc_X9_isKept_143 S _ _ _ _).trans em3) (q := 39) rfl ?_
          by_cases c5 : x4 = 0
          · replace h := (if_pos c5).symm.trans h
            refine xr_ifCond_eq_p i_X9_isKept_39 c5 (q := 46) t_X9_isKept_39 (q2 := 42) rfl ?_
            refine xr_iconst i_X9_isKept_46 (q := 47) rfl ?_
            refine xr_istore_n i_X9_isKept_47 rfl (L2 := [some (.ref v0), some (.int v1), some (.int v2), some (.int (Int32.ofInt 0)), some (.int v4)]) rfl (q := 48) rfl ?_
            refine xr_iinc i_X9_isKept_48 rfl rfl (L2 := [some (.ref v0), some (.int v1), some (.int v2), some (.int (Int32.ofInt 0)), some (.int (v4 + Int32.ofInt 1))]) rfl (q := 51) rfl ?_
            refine xr_goto i_X9_isKept_51 (q := 5) t_X9_isKept_51 ?_
            exact xi_X_le (xi_le_s (xi_le_s (xi_le_s (xi_le_s (xi_le_s xi_le_z))))) (ih _ _ _ _ _ _ h)
          · replace h := (if_neg c5).symm.trans h
            refine xr_ifCond_eq_n i_X9_isKept_39 c5 (q := 46) t_X9_isKept_39 (q2 := 42) rfl ?_
            refine xr_iconst i_X9_isKept_42 (q := 43) rfl ?_
            refine xr_goto i_X9_isKept_43 (q := 47) t_X9_isKept_43 ?_
            refine xr_istore_n i_X9_isKept_47 rfl (L2 := [some (.ref v0), some (.int v1), some (.int v2), some (.int (Int32.ofInt 1)), some (.int v4)]) rfl (q := 48) rfl ?_
            refine xr_iinc i_X9_isKept_48 rfl rfl (L2 := [some (.ref v0), some (.int v1), some (.int v2), some (.int (Int32.ofInt 1)), some (.int (v4 + Int32.ofInt 1))]) rfl (q := 51) rfl ?_
            refine xr_goto i_X9_isKept_51 (q := 5) t_X9_isKept_51 ?_
            exact xi_X_le (xi_le_s (xi_le_s (xi_le_s (xi_le_s (xi_le_s xi_le_z))))) (ih _ _ _ _ _ _ h)
        · replace h := (if_neg c6).symm.trans h
          refine xr_if_icmp_ne_n i_X9_isKept_29 c6 (q := 46) t_X9_isKept_29 (q2 := 32) rfl ?_
          refine xr_iconst i_X9_isKept_46 (q := 47) rfl ?_
          refine xr_istore_n i_X9_isKept_47 rfl (L2 := [some (.ref v0), some (.int v1), some (.int v2), some (.int (Int32.ofInt 0)), some (.int v4)]) rfl (q := 48) rfl ?_
          refine xr_iinc i_X9_isKept_48 rfl rfl (L2 := [some (.ref v0), some (.int v1), some (.int v2), some (.int (Int32.ofInt 0)), some (.int (v4 + Int32.ofInt 1))]) rfl (q := 51) rfl ?_
          refine xr_goto i_X9_isKept_51 (q := 5) t_X9_isKept_51 ?_
          exact xi_X_le (xi_le_s (xi_le_s (xi_le_s (xi_le_s (xi_le_s xi_le_z))))) (ih _ _ _ _ _ _ h)
      · replace h := (if_neg c7).symm.trans h
        refine xr_ifCond_ne_n i_X9_isKept_14 c7 (q := 42) t_X9_isKept_14 (q2 := 17) rfl ?_
        refine xr_iconst i_X9_isKept_42 (q := 43) rfl ?_
        refine xr_goto i_X9_isKept_43 (q := 47) t_X9_isKept_43 ?_
        refine xr_istore_n i_X9_isKept_47 rfl (L2 := [some (.ref v0), some (.int v1), some (.int v2), some (.int (Int32.ofInt 1)), some (.int v4)]) rfl (q := 48) rfl ?_
        refine xr_iinc i_X9_isKept_48 rfl rfl (L2 := [some (.ref v0), some (.int v1), some (.int v2), some (.int (Int32.ofInt 1)), some (.int (v4 + Int32.ofInt 1))]) rfl (q := 51) rfl ?_
        refine xr_goto i_X9_isKept_51 (q := 5) t_X9_isKept_51 ?_
        exact xi_X_le (xi_le_s (xi_le_s (xi_le_s (xi_le_s (xi_le_s xi_le_z))))) (ih _ _ _ _ _ _ h)
def E_X9_isKept (S : xi_S) (v0 : Nat) (v1 : Int32) (v2 : Int32) (m : xi_M) : Option xi_R :=
  G_X9_isKept_5 S 10000 v0 v1 v2 (Int32.ofInt 0) (Int32.ofInt 0) m
def F_X9_isKept (S : xi_S) : xi_F := fun As m => match As with
  | [.ref v0, .int v1, .int v2] => E_X9_isKept S v0 v1 v2 m
  | _ => none
set_option maxRecDepth 100000 in
set_option maxHeartbeats 4000000 in
theorem xe_X9_isKept {S : xi_S} {res : xi_R} (v0 : Nat) (v1 : Int32) (v2 : Int32) (m : xi_M) (h : E_X9_isKept S v0 v1 v2 m = some res) : xi_X S (P_X9_isKept S) (0, [some (.ref v0), some (.int v1), some (.int v2), none, none], [], m) res := by
  unfold E_X9_isKept at h
  refine xr_iconst i_X9_isKept_0 (q := 1) rfl ?_
  refine xr_istore_n i_X9_isKept_1 rfl (L2 := [some (.ref v0), some (.int v1), some (.int v2), some (.int (Int32.ofInt 0)), none]) rfl (q := 2) rfl ?_
  refine xr_iconst i_X9_isKept_2 (q := 3) rfl ?_
  refine xr_istore i_X9_isKept_3 rfl (L2 := [some (.ref v0), some (.int v1), some (.int v2), some (.int (Int32.ofInt 0)), some (.int (Int32.ofInt 0))]) rfl (q := 5) rfl ?_
  exact xi_X_le (xi_le_s (xi_le_s (xi_le_s (xi_le_s (xi_le_s xi_le_z))))) (xs_X9_isKept_5 10000 _ _ _ _ _ _ h)
set_option maxRecDepth 100000 in
theorem po_X9_isKept {l : Launch} {E : xi_E} {S : xi_S} {D : va_G} {tys : List (ClassId × FieldType)} (hC : xCx E S tys) : xi_Pok l E S D vwCl tys xNs RX9 xTs cX9_isKept 5 3 (P_X9_isKept S) := ⟨xi_dc_ok, by rw [hC.2]; exact xfo_X9, xkio_X9, xklo_X9, xi_calls_ok (ins := .invokestatic) (List.forall_mem_cons.mpr ⟨(xc_X9_143 (sn_X9_isReached hC) (by decide)), fun _ h => absurd h List.not_mem_nil⟩), xi_calls_ok (ins := .invokevirtual) (fun _ h => absurd h List.not_mem_nil)⟩
theorem sn_X9_isKept {l : Launch} {E : xi_E} {S : xi_S} {D : va_G} {tys : List (ClassId × FieldType)} (hC : xCx E S tys) : ∀ As m1 r m2, F_X9_isKept S As m1 = some (r, m2) → xi_Sound l E S D vwCl tys xNs xTs yX9_isKept cX9_isKept 5 (some .boolean) 3 As m1 r m2 := by
  intro As m1 r m2 h
  unfold F_X9_isKept at h
  split at h
  · exact xi_meth (P := P_X9_isKept S) (by decide) hC.1 (po_X9_isKept hC) (Nat.le_of_ble_eq_true rfl) rfl (xe_X9_isKept _ _ _ _ h)
  · exact xi_no h
theorem i_X9_isWithin_0 : xi_dc cX9_isWithin 0 = some (.iload_n 0, 1) := by decide +kernel
theorem i_X9_isWithin_1 : xi_dc cX9_isWithin 1 = some (.iconst 1, 1) := by decide +kernel
theorem i_X9_isWithin_2 : xi_dc cX9_isWithin 2 = some (.if_icmp .ne 12, 3) := by decide +kernel
theorem t_X9_isWithin_2 : ((2 : Nat) : Int) + 12 = ((14 : Nat) : Int) := by decide +kernel
theorem i_X9_isWithin_5 : xi_dc cX9_isWithin 5 = some (.iload_n 3, 1) := by decide +kernel
theorem i_X9_isWithin_6 : xi_dc cX9_isWithin 6 = some (.iload_n 1, 1) := by decide +kernel
theorem i_X9_isWithin_7 : xi_dc cX9_isWithin 7 = some (.iload_n 2, 1) := by decide +kernel
theorem i_X9_isWithin_8 : xi_dc cX9_isWithin 8 = some (.invokestatic 63, 3) := by decide +kernel
theorem i_X9_isWithin_11 : xi_dc cX9_isWithin 11 = some (.goto 13, 3) := by decide +kernel
theorem t_X9_isWithin_11 : ((11 : Nat) : Int) + 13 = ((24 : Nat) : Int) := by decide +kernel
theorem i_X9_isWithin_14 : xi_dc cX9_isWithin 14 = some (.iload_n 3, 1) := by decide +kernel
theorem i_X9_isWithin_15 : xi_dc cX9_isWithin 15 = some (.iload_n 1, 1) := by decide +kernel
theorem i_X9_isWithin_16 : xi_dc cX9_isWithin 16 = some (.iconst 1, 1) := by decide +kernel
theorem i_X9_isWithin_17 : xi_dc cX9_isWithin 17 = some (.iadd, 1) := by decide +kernel
theorem i_X9_isWithin_18 : xi_dc cX9_isWithin 18 = some (.iload_n 2, 1) := by decide +kernel
theorem i_X9_isWithin_19 : xi_dc cX9_isWithin 19 = some (.iconst 1, 1) := by decide +kernel
theorem i_X9_isWithin_20 : xi_dc cX9_isWithin 20 = some (.isub, 1) := by decide +kernel
theorem i_X9_isWithin_21 : xi_dc cX9_isWithin 21 = some (.invokestatic 63, 3) := by decide +kernel
theorem i_X9_isWithin_24 : xi_dc cX9_isWithin 24 = some (.ireturn, 1) := by decide +kernel
def P_X9_isWithin (S : xi_S) : xi_P := (xi_dc cX9_isWithin, xi_tab xfl_X9, xi_tab xki_X9, xi_tab xkl_X9, xi_tab xcs_X9, xi_tab xcv_X9, xi_calls [(63, xi_wS 3 (F_X9_in0 S))], xi_calls [], 2)
theorem cc_X9_isWithin_63 (S : xi_S) (a0 : Int32) (a1 : Int32) (a2 : Int32) (m : xi_M) : (P_X9_isWithin S).2.2.2.2.2.2.1 63 [.int a0, .int a1, .int a2] m = (E_X9_in0 S a0 a1 a2 m) := by
  show xi_calls [(63, xi_wS 3 (F_X9_in0 S))] 63 [.int a0, .int a1, .int a2] m = _
  refine Eq.trans (b := xi_wS 3 (F_X9_in0 S) [.int a0, .int a1, .int a2] m) (xi_calls_hit rfl) ?_
  exact xi_wS_eq rfl
def E_X9_isWithin (S : xi_S) (v0 : Int32) (v1 : Int32) (v2 : Int32) (v3 : Int32) (m : xi_M) : Option xi_R :=
  if v0 = (Int32.ofInt 1) then
    xi_bI (E_X9_in0 S v3 v1 v2 m) fun x4 m3 =>
    if x4 = 0 ∨ x4 = 1 then some (some (.int x4), m3) else none
  else
    xi_bI (E_X9_in0 S v3 (v1 + (Int32.ofInt 1)) (v2 - (Int32.ofInt 1)) m) fun x2 m1 =>
    if x2 = 0 ∨ x2 = 1 then some (some (.int x2), m1) else none
def F_X9_isWithin (S : xi_S) : xi_F := fun As m => match As with
  | [.int v0, .int v1, .int v2, .int v3] => E_X9_isWithin S v0 v1 v2 v3 m
  | _ => none
set_option maxRecDepth 100000 in
set_option maxHeartbeats 4000000 in
theorem xe_X9_isWithin {S : xi_S} {res : xi_R} (v0 : Int32) (v1 : Int32) (v2 : Int32) (v3 : Int32) (m : xi_M) (h : E_X9_isWithin S v0 v1 v2 v3 m = some res) : xi_X S (P_X9_isWithin S) (0, [some (.int v0), some (.int v1), some (.int v2), some (.int v3)], [], m) res := by
  unfold E_X9_isWithin at h
  refine xr_iload_n i_X9_isWithin_0 rfl (q := 1) rfl ?_
  refine xr_iconst i_X9_isWithin_1 (q := 2) rfl ?_
  by_cases c5 : v0 = (Int32.ofInt 1)
  · replace h := (if_pos c5).symm.trans h
    refine xr_if_icmp_ne_p i_X9_isWithin_2 c5 (q := 14) t_X9_isWithin_2 (q2 := 5) rfl ?_
    refine xr_iload_n i_X9_isWithin_5 rfl (q := 6) rfl ?_
    refine xr_iload_n i_X9_isWithin_6 rfl (q := 7) rfl ?_
    refine xr_iload_n i_X9_isWithin_7 rfl (q := 8) rfl ?_
    obtain ⟨x4, m3, em3, h⟩ := xi_bI_some h
    refine xr_SI i_X9_isWithin_8 xcse_X9_63 rfl (As := [.int v3, .int v1, .int v2]) rfl (rest := []) rfl ((cc_X9_isWithin_63 S _ _ _ _).trans em3) (q := 11) rfl ?_
    refine xr_goto i_X9_isWithin_11 (q := 24) t_X9_isWithin_11 ?_
    exact xr_zreturn i_X9_isWithin_24 rfl h
  · replace h := (if_neg c5).symm.trans h
    refine xr_if_icmp_ne_n i_X9_isWithin_2 c5 (q := 14) t_X9_isWithin_2 (q2 := 5) rfl ?_
    refine xr_iload_n i_X9_isWithin_14 rfl (q := 15) rfl ?_
    refine xr_iload_n i_X9_isWithin_15 rfl (q := 16) rfl ?_
    refine xr_iconst i_X9_isWithin_16 (q := 17) rfl ?_
    refine xr_iadd i_X9_isWithin_17 (q := 18) rfl ?_
    refine xr_iload_n i_X9_isWithin_18 rfl (q := 19) rfl ?_
    refine xr_iconst i_X9_isWithin_19 (q := 20) rfl ?_
    refine xr_isub i_X9_isWithin_20 (q := 21) rfl ?_
    obtain ⟨x2, m1, em1, h⟩ := xi_bI_some h
    refine xr_SI i_X9_isWithin_21 xcse_X9_63 rfl (As := [.int v3, .int (v1 + (Int32.ofInt 1)), .int (v2 - (Int32.ofInt 1))]) rfl (rest := []) rfl ((cc_X9_isWithin_63 S _ _ _ _).trans em1) (q := 24) rfl ?_
    exact xr_zreturn i_X9_isWithin_24 rfl h
set_option maxRecDepth 100000 in
theorem po_X9_isWithin {l : Launch} {E : xi_E} {S : xi_S} {D : va_G} {tys : List (ClassId × FieldType)} (hC : xCx E S tys) : xi_Pok l E S D vwCl tys xNs RX9 xTs cX9_isWithin 4 1 (P_X9_isWithin S) := ⟨xi_dc_ok, by rw [hC.2]; exact xfo_X9, xkio_X9, xklo_X9, xi_calls_ok (ins := .invokestatic) (List.forall_mem_cons.mpr ⟨(xc_X9_63 (sn_X9_in0 hC) (by decide)), fun _ h => absurd h List.not_mem_nil⟩), xi_calls_ok (ins := .invokevirtual) (fun _ h => absurd h List.not_mem_nil)⟩
theorem sn_X9_isWithin {l : Launch} {E : xi_E} {S : xi_S} {D : va_G} {tys : List (ClassId × FieldType)} (hC : xCx E S tys) : ∀ As m1 r m2, F_X9_isWithin S As m1 = some (r, m2) → xi_Sound l E S D vwCl tys xNs xTs yX9_isWithin cX9_isWithin 4 (some .boolean) 1 As m1 r m2 := by
  intro As m1 r m2 h
  unfold F_X9_isWithin at h
  split at h
  · exact xi_meth (P := P_X9_isWithin S) (by decide) hC.1 (po_X9_isWithin hC) (Nat.le_of_ble_eq_true rfl) rfl (xe_X9_isWithin _ _ _ _ _ h)
  · exact xi_no h
theorem i_X9_isIn_0 : xi_dc cX9_isIn 0 = some (.aload_n 0, 1) := by decide +kernel
theorem i_X9_isIn_1 : xi_dc cX9_isIn 1 = some (.iconst 0, 1) := by decide +kernel
theorem i_X9_isIn_2 : xi_dc cX9_isIn 2 = some (.iaload, 1) := by decide +kernel
theorem i_X9_isIn_3 : xi_dc cX9_isIn 3 = some (.aload_n 0, 1) := by decide +kernel
theorem i_X9_isIn_4 : xi_dc cX9_isIn 4 = some (.bipush 6, 2) := by decide +kernel
theorem i_X9_isIn_6 : xi_dc cX9_isIn 6 = some (.iconst 2, 1) := by decide +kernel
theorem i_X9_isIn_7 : xi_dc cX9_isIn 7 = some (.iload_n 1, 1) := by decide +kernel
theorem i_X9_isIn_8 : xi_dc cX9_isIn 8 = some (.imul, 1) := by decide +kernel
theorem i_X9_isIn_9 : xi_dc cX9_isIn 9 = some (.iadd, 1) := by decide +kernel
theorem i_X9_isIn_10 : xi_dc cX9_isIn 10 = some (.iaload, 1) := by decide +kernel
theorem i_X9_isIn_11 : xi_dc cX9_isIn 11 = some (.aload_n 0, 1) := by decide +kernel
theorem i_X9_isIn_12 : xi_dc cX9_isIn 12 = some (.bipush 6, 2) := by decide +kernel
theorem i_X9_isIn_14 : xi_dc cX9_isIn 14 = some (.iconst 2, 1) := by decide +kernel
theorem i_X9_isIn_15 : xi_dc cX9_isIn 15 = some (.iload_n 1, 1) := by decide +kernel
theorem i_X9_isIn_16 : xi_dc cX9_isIn 16 = some (.imul, 1) := by decide +kernel
theorem i_X9_isIn_17 : xi_dc cX9_isIn 17 = some (.iadd, 1) := by decide +kernel
theorem i_X9_isIn_18 : xi_dc cX9_isIn 18 = some (.iconst 1, 1) := by decide +kernel
theorem i_X9_isIn_19 : xi_dc cX9_isIn 19 = some (.iadd, 1) := by decide +kernel
theorem i_X9_isIn_20 : xi_dc cX9_isIn 20 = some (.iaload, 1) := by decide +kernel
theorem i_X9_isIn_21 : xi_dc cX9_isIn 21 = some (.iload_n 2, 1) := by decide +kernel
theorem i_X9_isIn_22 : xi_dc cX9_isIn 22 = some (.invokestatic 147, 3) := by decide +kernel
theorem i_X9_isIn_25 : xi_dc cX9_isIn 25 = some (.ifCond .eq 16, 3) := by decide +kernel
theorem t_X9_isIn_25 : ((25 : Nat) : Int) + 16 = ((41 : Nat) : Int) := by decide +kernel
theorem i_X9_isIn_28 : xi_dc cX9_isIn 28 = some (.aload_n 0, 1) := by decide +kernel
theorem i_X9_isIn_29 : xi_dc cX9_isIn 29 = some (.iload_n 1, 1) := by decide +kernel
theorem i_X9_isIn_30 : xi_dc cX9_isIn 30 = some (.iload_n 2, 1) := by decide +kernel
theorem i_X9_isIn_31 : xi_dc cX9_isIn 31 = some (.invokestatic 151, 3) := by decide +kernel
theorem i_X9_isIn_34 : xi_dc cX9_isIn 34 = some (.ifCond .ne 7, 3) := by decide +kernel
theorem t_X9_isIn_34 : ((34 : Nat) : Int) + 7 = ((41 : Nat) : Int) := by decide +kernel
theorem i_X9_isIn_37 : xi_dc cX9_isIn 37 = some (.iconst 1, 1) := by decide +kernel
theorem i_X9_isIn_38 : xi_dc cX9_isIn 38 = some (.goto 4, 3) := by decide +kernel
theorem t_X9_isIn_38 : ((38 : Nat) : Int) + 4 = ((42 : Nat) : Int) := by decide +kernel
theorem i_X9_isIn_41 : xi_dc cX9_isIn 41 = some (.iconst 0, 1) := by decide +kernel
theorem i_X9_isIn_42 : xi_dc cX9_isIn 42 = some (.ireturn, 1) := by decide +kernel
def P_X9_isIn (S : xi_S) : xi_P := (xi_dc cX9_isIn, xi_tab xfl_X9, xi_tab xki_X9, xi_tab xkl_X9, xi_tab xcs_X9, xi_tab xcv_X9, xi_calls [(147, xi_wS 4 (F_X9_isWithin S)), (151, xi_wS 3 (F_X9_isKept S))], xi_calls [], 2)
theorem cc_X9_isIn_147 (S : xi_S) (a0 : Int32) (a1 : Int32) (a2 : Int32) (a3 : Int32) (m : xi_M) : (P_X9_isIn S).2.2.2.2.2.2.1 147 [.int a0, .int a1, .int a2, .int a3] m = (E_X9_isWithin S a0 a1 a2 a3 m) := by
  show xi_calls [(147, xi_wS 4 (F_X9_isWithin S)), (151, xi_wS 3 (F_X9_isKept S))] 147 [.int a0, .int a1, .int a2, .int a3] m = _
  refine Eq.trans (b := xi_wS 4 (F_X9_isWithin S) [.int a0, .int a1, .int a2, .int a3] m) (xi_calls_hit rfl) ?_
  exact xi_wS_eq rfl
theorem cc_X9_isIn_151 (S : xi_S) (a0 : Nat) (a1 : Int32) (a2 : Int32) (m : xi_M) : (P_X9_isIn S).2.2.2.2.2.2.1 151 [.ref a0, .int a1, .int a2] m = (E_X9_isKept S a0 a1 a2 m) := by
  show xi_calls [(147, xi_wS 4 (F_X9_isWithin S)), (151, xi_wS 3 (F_X9_isKept S))] 151 [.ref a0, .int a1, .int a2] m = _
  refine Eq.trans (b := xi_calls [(151, xi_wS 3 (F_X9_isKept S))] 151 [.ref a0, .int a1, .int a2] m) (xi_calls_miss rfl) ?_
  refine Eq.trans (b := xi_wS 3 (F_X9_isKept S) [.ref a0, .int a1, .int a2] m) (xi_calls_hit rfl) ?_
  exact xi_wS_eq rfl
def E_X9_isIn (S : xi_S) (v0 : Nat) (v1 : Int32) (v2 : Int32) (m : xi_M) : Option xi_R :=
  if S.1 v0 = 0 ∧ ¬ ((Int32.ofInt 0) < 0 ∨ S.2.1 v0 ≤ Int32.toNatClampNeg (Int32.ofInt 0)) then
    if S.1 v0 = 0 ∧ ¬ ((((Int8.ofInt 6).toInt32) + ((Int32.ofInt 2) * v1)) < 0 ∨ S.2.1 v0 ≤ Int32.toNatClampNeg (((Int8.ofInt 6).toInt32) + ((Int32.ofInt 2) * v1))) then
      if S.1 v0 = 0 ∧ ¬ (((((Int8.ofInt 6).toInt32) + ((Int32.ofInt 2) * v1)) + (Int32.ofInt 1)) < 0 ∨ S.2.1 v0 ≤ Int32.toNatClampNeg ((((Int8.ofInt 6).toInt32) + ((Int32.ofInt 2) * v1)) + (Int32.ofInt 1))) then
        xi_bI (E_X9_isWithin S (m.1 v0 (Int32.toNatClampNeg (Int32.ofInt 0))) (m.1 v0 (Int32.toNatClampNeg (((Int8.ofInt 6).toInt32) + ((Int32.ofInt 2) * v1)))) (m.1 v0 (Int32.toNatClampNeg ((((Int8.ofInt 6).toInt32) + ((Int32.ofInt 2) * v1)) + (Int32.ofInt 1)))) v2 m) fun x5 m4 =>
        if x5 = 0 then
          if (Int32.ofInt 0) = 0 ∨ (Int32.ofInt 0) = 1 then some (some (.int (Int32.ofInt 0)), m4) else none
        else
          xi_bI (E_X9_isKept S v0 v1 v2 m4) fun x7 m6 =>
          if x7 = 0 then
            if (Int32.ofInt 1) = 0 ∨ (Int32.ofInt 1) = 1 then some (some (.int (Int32.ofInt 1)), m6) else none
          else
            if (Int32.ofInt 0) = 0 ∨ (Int32.ofInt 0) = 1 then some (some (.int (Int32.ofInt 0)), m6) else none
      else none
    else none
  else none
def F_X9_isIn (S : xi_S) : xi_F := fun As m => match As with
  | [.ref v0, .int v1, .int v2] => E_X9_isIn S v0 v1 v2 m
  | _ => none
set_option maxRecDepth 100000 in
set_option maxHeartbeats 4000000 in
theorem xe_X9_isIn {S : xi_S} {res : xi_R} (v0 : Nat) (v1 : Int32) (v2 : Int32) (m : xi_M) (h : E_X9_isIn S v0 v1 v2 m = some res) : xi_X S (P_X9_isIn S) (0, [some (.ref v0), some (.int v1), some (.int v2)], [], m) res := by
  unfold E_X9_isIn at h
  refine xr_aload_n i_X9_isIn_0 rfl (q := 1) rfl ?_
  refine xr_iconst i_X9_isIn_1 (q := 2) rfl ?_
  obtain ⟨c1, h⟩ := xi_if_some h
  refine xr_iaload i_X9_isIn_2 c1 (q := 3) rfl ?_
  refine xr_aload_n i_X9_isIn_3 rfl (q := 4) rfl ?_
  refine xr_bipush i_X9_isIn_4 (q := 6) rfl ?_
  refine xr_iconst i_X9_isIn_6 (q := 7) rfl ?_
  refine xr_iload_n i_X9_isIn_7 rfl (q := 8) rfl ?_
  refine xr_imul i_X9_isIn_8 (q := 9) rfl ?_
  refine xr_iadd i_X9_isIn_9 (q := 10) rfl ?_
  obtain ⟨c2, h⟩ := xi_if_some h
  refine xr_iaload i_X9_isIn_10 c2 (q := 11) rfl ?_
  refine xr_aload_n i_X9_isIn_11 rfl (q := 12) rfl ?_
  refine xr_bipush i_X9_isIn_12 (q := 14) rfl ?_
  refine xr_iconst i_X9_isIn_14 (q := 15) rfl ?_
  refine xr_iload_n i_X9_isIn_15 rfl (q := 16) rfl ?_
  refine xr_imul i_X9_isIn_16 (q := 17) rfl ?_
  refine xr_iadd i_X9_isIn_17 (q := 18) rfl ?_
  refine xr_iconst i_X9_isIn_18 (q := 19) rfl ?_
  refine xr_iadd i_X9_isIn_19 (q := 20) rfl ?_
  obtain ⟨c3, h⟩ := xi_if_some h
  refine xr_iaload i_X9_isIn_20 c3 (q := 21) rfl ?_
  refine xr_iload_n i_X9_isIn_21 rfl (q := 22) rfl ?_
  obtain ⟨x5, m4, em4, h⟩ := xi_bI_some h
  refine xr_SI i_X9_isIn_22 xcse_X9_147 rfl (As := [.int (m.1 v0 (Int32.toNatClampNeg (Int32.ofInt 0))), .int (m.1 v0 (Int32.toNatClampNeg (((Int8.ofInt 6).toInt32) + ((Int32.ofInt 2) * v1)))), .int (m.1 v0 (Int32.toNatClampNeg ((((Int8.ofInt 6).toInt32) + ((Int32.ofInt 2) * v1)) + (Int32.ofInt 1)))), .int v2]) rfl (rest := []) rfl ((cc_X9_isIn_147 S _ _ _ _ _).trans em4) (q := 25) rfl ?_
  by_cases c9 : x5 = 0
  · replace h := (if_pos c9).symm.trans h
    refine xr_ifCond_eq_p i_X9_isIn_25 c9 (q := 41) t_X9_isIn_25 (q2 := 28) rfl ?_
    refine xr_iconst i_X9_isIn_41 (q := 42) rfl ?_
    exact xr_zreturn i_X9_isIn_42 rfl h
  · replace h := (if_neg c9).symm.trans h
    refine xr_ifCond_eq_n i_X9_isIn_25 c9 (q := 41) t_X9_isIn_25 (q2 := 28) rfl ?_
    refine xr_aload_n i_X9_isIn_28 rfl (q := 29) rfl ?_
    refine xr_iload_n i_X9_isIn_29 rfl (q := 30) rfl ?_
    refine xr_iload_n i_X9_isIn_30 rfl (q := 31) rfl ?_
    obtain ⟨x7, m6, em6, h⟩ := xi_bI_some h
    refine xr_SI i_X9_isIn_31 xcse_X9_151 rfl (As := [.ref v0, .int v1, .int v2]) rfl (rest := []) rfl ((cc_X9_isIn_151 S _ _ _ _).trans em6) (q := 34) rfl ?_
    by_cases c8 : x7 = 0
    · replace h := (if_pos c8).symm.trans h
      refine xr_ifCond_ne_p i_X9_isIn_34 c8 (q := 41) t_X9_isIn_34 (q2 := 37) rfl ?_
      refine xr_iconst i_X9_isIn_37 (q := 38) rfl ?_
      refine xr_goto i_X9_isIn_38 (q := 42) t_X9_isIn_38 ?_
      exact xr_zreturn i_X9_isIn_42 rfl h
    · replace h := (if_neg c8).symm.trans h
      refine xr_ifCond_ne_n i_X9_isIn_34 c8 (q := 41) t_X9_isIn_34 (q2 := 37) rfl ?_
      refine xr_iconst i_X9_isIn_41 (q := 42) rfl ?_
      exact xr_zreturn i_X9_isIn_42 rfl h
set_option maxRecDepth 100000 in
theorem po_X9_isIn {l : Launch} {E : xi_E} {S : xi_S} {D : va_G} {tys : List (ClassId × FieldType)} (hC : xCx E S tys) : xi_Pok l E S D vwCl tys xNs RX9 xTs cX9_isIn 3 4 (P_X9_isIn S) := ⟨xi_dc_ok, by rw [hC.2]; exact xfo_X9, xkio_X9, xklo_X9, xi_calls_ok (ins := .invokestatic) (List.forall_mem_cons.mpr ⟨(xc_X9_147 (sn_X9_isWithin hC) (by decide)), List.forall_mem_cons.mpr ⟨(xc_X9_151 (sn_X9_isKept hC) (by decide)), fun _ h => absurd h List.not_mem_nil⟩⟩), xi_calls_ok (ins := .invokevirtual) (fun _ h => absurd h List.not_mem_nil)⟩
theorem sn_X9_isIn {l : Launch} {E : xi_E} {S : xi_S} {D : va_G} {tys : List (ClassId × FieldType)} (hC : xCx E S tys) : ∀ As m1 r m2, F_X9_isIn S As m1 = some (r, m2) → xi_Sound l E S D vwCl tys xNs xTs yX9_isIn cX9_isIn 3 (some .boolean) 4 As m1 r m2 := by
  intro As m1 r m2 h
  unfold F_X9_isIn at h
  split at h
  · exact xi_meth (P := P_X9_isIn S) (by decide) hC.1 (po_X9_isIn hC) (Nat.le_of_ble_eq_true rfl) rfl (xe_X9_isIn _ _ _ _ h)
  · exact xi_no h
theorem i_X9_isScored_0 : xi_dc cX9_isScored 0 = some (.aload_n 0, 1) := by decide +kernel
theorem i_X9_isScored_1 : xi_dc cX9_isScored 1 = some (.iload_n 1, 1) := by decide +kernel
theorem i_X9_isScored_2 : xi_dc cX9_isScored 2 = some (.invokestatic 154, 3) := by decide +kernel
theorem i_X9_isScored_5 : xi_dc cX9_isScored 5 = some (.istore_n 2, 1) := by decide +kernel
theorem i_X9_isScored_6 : xi_dc cX9_isScored 6 = some (.iload_n 2, 1) := by decide +kernel
theorem i_X9_isScored_7 : xi_dc cX9_isScored 7 = some (.bipush (-9), 2) := by decide +kernel
theorem i_X9_isScored_9 : xi_dc cX9_isScored 9 = some (.if_icmp .eq 27, 3) := by decide +kernel
theorem t_X9_isScored_9 : ((9 : Nat) : Int) + 27 = ((36 : Nat) : Int) := by decide +kernel
theorem i_X9_isScored_12 : xi_dc cX9_isScored 12 = some (.aload_n 0, 1) := by decide +kernel
theorem i_X9_isScored_13 : xi_dc cX9_isScored 13 = some (.iconst 1, 1) := by decide +kernel
theorem i_X9_isScored_14 : xi_dc cX9_isScored 14 = some (.aload_n 0, 1) := by decide +kernel
theorem i_X9_isScored_15 : xi_dc cX9_isScored 15 = some (.bipush 10, 2) := by decide +kernel
theorem i_X9_isScored_17 : xi_dc cX9_isScored 17 = some (.iconst 4, 1) := by decide +kernel
theorem i_X9_isScored_18 : xi_dc cX9_isScored 18 = some (.iload_n 1, 1) := by decide +kernel
theorem i_X9_isScored_19 : xi_dc cX9_isScored 19 = some (.imul, 1) := by decide +kernel
theorem i_X9_isScored_20 : xi_dc cX9_isScored 20 = some (.iadd, 1) := by decide +kernel
theorem i_X9_isScored_21 : xi_dc cX9_isScored 21 = some (.iconst 1, 1) := by decide +kernel
theorem i_X9_isScored_22 : xi_dc cX9_isScored 22 = some (.iadd, 1) := by decide +kernel
theorem i_X9_isScored_23 : xi_dc cX9_isScored 23 = some (.iaload, 1) := by decide +kernel
theorem i_X9_isScored_24 : xi_dc cX9_isScored 24 = some (.isub, 1) := by decide +kernel
theorem i_X9_isScored_25 : xi_dc cX9_isScored 25 = some (.iload_n 2, 1) := by decide +kernel
theorem i_X9_isScored_26 : xi_dc cX9_isScored 26 = some (.invokestatic 157, 3) := by decide +kernel
theorem i_X9_isScored_29 : xi_dc cX9_isScored 29 = some (.ifCond .eq 7, 3) := by decide +kernel
theorem t_X9_isScored_29 : ((29 : Nat) : Int) + 7 = ((36 : Nat) : Int) := by decide +kernel
theorem i_X9_isScored_32 : xi_dc cX9_isScored 32 = some (.iconst 1, 1) := by decide +kernel
theorem i_X9_isScored_33 : xi_dc cX9_isScored 33 = some (.goto 4, 3) := by decide +kernel
theorem t_X9_isScored_33 : ((33 : Nat) : Int) + 4 = ((37 : Nat) : Int) := by decide +kernel
theorem i_X9_isScored_36 : xi_dc cX9_isScored 36 = some (.iconst 0, 1) := by decide +kernel
theorem i_X9_isScored_37 : xi_dc cX9_isScored 37 = some (.ireturn, 1) := by decide +kernel
def P_X9_isScored (S : xi_S) : xi_P := (xi_dc cX9_isScored, xi_tab xfl_X9, xi_tab xki_X9, xi_tab xkl_X9, xi_tab xcs_X9, xi_tab xcv_X9, xi_calls [(154, xi_wS 2 (F_X9_ball S)), (157, xi_wS 3 (F_X9_isIn S))], xi_calls [], 2)
theorem cc_X9_isScored_154 (S : xi_S) (a0 : Nat) (a1 : Int32) (m : xi_M) : (P_X9_isScored S).2.2.2.2.2.2.1 154 [.ref a0, .int a1] m = (E_X9_ball S a0 a1 m) := by
  show xi_calls [(154, xi_wS 2 (F_X9_ball S)), (157, xi_wS 3 (F_X9_isIn S))] 154 [.ref a0, .int a1] m = _
  refine Eq.trans (b := xi_wS 2 (F_X9_ball S) [.ref a0, .int a1] m) (xi_calls_hit rfl) ?_
  exact xi_wS_eq rfl
theorem cc_X9_isScored_157 (S : xi_S) (a0 : Nat) (a1 : Int32) (a2 : Int32) (m : xi_M) : (P_X9_isScored S).2.2.2.2.2.2.1 157 [.ref a0, .int a1, .int a2] m = (E_X9_isIn S a0 a1 a2 m) := by
  show xi_calls [(154, xi_wS 2 (F_X9_ball S)), (157, xi_wS 3 (F_X9_isIn S))] 157 [.ref a0, .int a1, .int a2] m = _
  refine Eq.trans (b := xi_calls [(157, xi_wS 3 (F_X9_isIn S))] 157 [.ref a0, .int a1, .int a2] m) (xi_calls_miss rfl) ?_
  refine Eq.trans (b := xi_wS 3 (F_X9_isIn S) [.ref a0, .int a1, .int a2] m) (xi_calls_hit rfl) ?_
  exact xi_wS_eq rfl
def E_X9_isScored (S : xi_S) (v0 : Nat) (v1 : Int32) (m : xi_M) : Option xi_R :=
  xi_bI (E_X9_ball S v0 v1 m) fun x2 m1 =>
  if x2 = ((Int8.ofInt (-9)).toInt32) then
    if (Int32.ofInt 0) = 0 ∨ (Int32.ofInt 0) = 1 then some (some (.int (Int32.ofInt 0)), m1) else none
  else
    if S.1 v0 = 0 ∧ ¬ (((((Int8.ofInt 10).toInt32) + ((Int32.ofInt 4) * v1)) + (Int32.ofInt 1)) < 0 ∨ S.2.1 v0 ≤ Int32.toNatClampNeg ((((Int8.ofInt 10).toInt32) + ((Int32.ofInt 4) * v1)) + (Int32.ofInt 1))) then
      xi_bI (E_X9_isIn S v0 ((Int32.ofInt 1) - (m1.1 v0 (Int32.toNatClampNeg ((((Int8.ofInt 10).toInt32) + ((Int32.ofInt 4) * v1)) + (Int32.ofInt 1))))) x2 m1) fun x5 m4 =>
      if x5 = 0 then
        if (Int32.ofInt 0) = 0 ∨ (Int32.ofInt 0) = 1 then some (some (.int (Int32.ofInt 0)), m4) else none
      else
        if (Int32.ofInt 1) = 0 ∨ (Int32.ofInt 1) = 1 then some (some (.int (Int32.ofInt 1)), m4) else none
    else none
def F_X9_isScored (S : xi_S) : xi_F := fun As m => match As with
  | [.ref v0, .int v1] => E_X9_isScored S v0 v1 m
  | _ => none
set_option maxRecDepth 100000 in
set_option maxHeartbeats 4000000 in
theorem xe_X9_isScored {S : xi_S} {res : xi_R} (v0 : Nat) (v1 : Int32) (m : xi_M) (h : E_X9_isScored S v0 v1 m = some res) : xi_X S (P_X9_isScored S) (0, [some (.ref v0), some (.int v1), none], [], m) res := by
  unfold E_X9_isScored at h
  refine xr_aload_n i_X9_isScored_0 rfl (q := 1) rfl ?_
  refine xr_iload_n i_X9_isScored_1 rfl (q := 2) rfl ?_
  obtain ⟨x2, m1, em1, h⟩ := xi_bI_some h
  refine xr_SI i_X9_isScored_2 xcse_X9_154 rfl (As := [.ref v0, .int v1]) rfl (rest := []) rfl ((cc_X9_isScored_154 S _ _ _).trans em1) (q := 5) rfl ?_
  refine xr_istore_n i_X9_isScored_5 rfl (L2 := [some (.ref v0), some (.int v1), some (.int x2)]) rfl (q := 6) rfl ?_
  refine xr_iload_n i_X9_isScored_6 rfl (q := 7) rfl ?_
  refine xr_bipush i_X9_isScored_7 (q := 9) rfl ?_
  by_cases c7 : x2 = ((Int8.ofInt (-9)).toInt32)
  · replace h := (if_pos c7).symm.trans h
    refine xr_if_icmp_eq_p i_X9_isScored_9 c7 (q := 36) t_X9_isScored_9 (q2 := 12) rfl ?_
    refine xr_iconst i_X9_isScored_36 (q := 37) rfl ?_
    exact xr_zreturn i_X9_isScored_37 rfl h
  · replace h := (if_neg c7).symm.trans h
    refine xr_if_icmp_eq_n i_X9_isScored_9 c7 (q := 36) t_X9_isScored_9 (q2 := 12) rfl ?_
    refine xr_aload_n i_X9_isScored_12 rfl (q := 13) rfl ?_
    refine xr_iconst i_X9_isScored_13 (q := 14) rfl ?_
    refine xr_aload_n i_X9_isScored_14 rfl (q := 15) rfl ?_
    refine xr_bipush i_X9_isScored_15 (q := 17) rfl ?_
    refine xr_iconst i_X9_isScored_17 (q := 18) rfl ?_
    refine xr_iload_n i_X9_isScored_18 rfl (q := 19) rfl ?_
    refine xr_imul i_X9_isScored_19 (q := 20) rfl ?_
    refine xr_iadd i_X9_isScored_20 (q := 21) rfl ?_
    refine xr_iconst i_X9_isScored_21 (q := 22) rfl ?_
    refine xr_iadd i_X9_isScored_22 (q := 23) rfl ?_
    obtain ⟨c3, h⟩ := xi_if_some h
    refine xr_iaload i_X9_isScored_23 c3 (q := 24) rfl ?_
    refine xr_isub i_X9_isScored_24 (q := 25) rfl ?_
    refine xr_iload_n i_X9_isScored_25 rfl (q := 26) rfl ?_
    obtain ⟨x5, m4, em4, h⟩ := xi_bI_some h
    refine xr_SI i_X9_isScored_26 xcse_X9_157 rfl (As := [.ref v0, .int ((Int32.ofInt 1) - (m1.1 v0 (Int32.toNatClampNeg ((((Int8.ofInt 10).toInt32) + ((Int32.ofInt 4) * v1)) + (Int32.ofInt 1))))), .int x2]) rfl (rest := []) rfl ((cc_X9_isScored_157 S _ _ _ _).trans em4) (q := 29) rfl ?_
    by_cases c6 : x5 = 0
    · replace h := (if_pos c6).symm.trans h
      refine xr_ifCond_eq_p i_X9_isScored_29 c6 (q := 36) t_X9_isScored_29 (q2 := 32) rfl ?_
      refine xr_iconst i_X9_isScored_36 (q := 37) rfl ?_
      exact xr_zreturn i_X9_isScored_37 rfl h
    · replace h := (if_neg c6).symm.trans h
      refine xr_ifCond_eq_n i_X9_isScored_29 c6 (q := 36) t_X9_isScored_29 (q2 := 32) rfl ?_
      refine xr_iconst i_X9_isScored_32 (q := 33) rfl ?_
      refine xr_goto i_X9_isScored_33 (q := 37) t_X9_isScored_33 ?_
      exact xr_zreturn i_X9_isScored_37 rfl h
set_option maxRecDepth 100000 in
theorem po_X9_isScored {l : Launch} {E : xi_E} {S : xi_S} {D : va_G} {tys : List (ClassId × FieldType)} (hC : xCx E S tys) : xi_Pok l E S D vwCl tys xNs RX9 xTs cX9_isScored 3 5 (P_X9_isScored S) := ⟨xi_dc_ok, by rw [hC.2]; exact xfo_X9, xkio_X9, xklo_X9, xi_calls_ok (ins := .invokestatic) (List.forall_mem_cons.mpr ⟨(xc_X9_154 (sn_X9_ball hC) (by decide)), List.forall_mem_cons.mpr ⟨(xc_X9_157 (sn_X9_isIn hC) (by decide)), fun _ h => absurd h List.not_mem_nil⟩⟩), xi_calls_ok (ins := .invokevirtual) (fun _ h => absurd h List.not_mem_nil)⟩
theorem sn_X9_isScored {l : Launch} {E : xi_E} {S : xi_S} {D : va_G} {tys : List (ClassId × FieldType)} (hC : xCx E S tys) : ∀ As m1 r m2, F_X9_isScored S As m1 = some (r, m2) → xi_Sound l E S D vwCl tys xNs xTs yX9_isScored cX9_isScored 3 (some .boolean) 5 As m1 r m2 := by
  intro As m1 r m2 h
  unfold F_X9_isScored at h
  split at h
  · exact xi_meth (P := P_X9_isScored S) (by decide) hC.1 (po_X9_isScored hC) (Nat.le_of_ble_eq_true rfl) rfl (xe_X9_isScored _ _ _ h)
  · exact xi_no h
theorem i_X9_scored_0 : xi_dc cX9_scored 0 = some (.iconst 0, 1) := by decide +kernel
theorem i_X9_scored_1 : xi_dc cX9_scored 1 = some (.istore_n 1, 1) := by decide +kernel
theorem i_X9_scored_2 : xi_dc cX9_scored 2 = some (.iconst 0, 1) := by decide +kernel
theorem i_X9_scored_3 : xi_dc cX9_scored 3 = some (.istore_n 2, 1) := by decide +kernel
theorem i_X9_scored_4 : xi_dc cX9_scored 4 = some (.iload_n 2, 1) := by decide +kernel
theorem i_X9_scored_5 : xi_dc cX9_scored 5 = some (.aload_n 0, 1) := by decide +kernel
theorem i_X9_scored_6 : xi_dc cX9_scored 6 = some (.iconst 1, 1) := by decide +kernel
theorem i_X9_scored_7 : xi_dc cX9_scored 7 = some (.iaload, 1) := by decide +kernel
theorem i_X9_scored_8 : xi_dc cX9_scored 8 = some (.if_icmp .ge 27, 3) := by decide +kernel
theorem t_X9_scored_8 : ((8 : Nat) : Int) + 27 = ((35 : Nat) : Int) := by decide +kernel
theorem i_X9_scored_11 : xi_dc cX9_scored 11 = some (.iload_n 1, 1) := by decide +kernel
theorem i_X9_scored_12 : xi_dc cX9_scored 12 = some (.aload_n 0, 1) := by decide +kernel
theorem i_X9_scored_13 : xi_dc cX9_scored 13 = some (.iload_n 2, 1) := by decide +kernel
theorem i_X9_scored_14 : xi_dc cX9_scored 14 = some (.invokestatic 160, 3) := by decide +kernel
theorem i_X9_scored_17 : xi_dc cX9_scored 17 = some (.ifCond .eq 9, 3) := by decide +kernel
theorem t_X9_scored_17 : ((17 : Nat) : Int) + 9 = ((26 : Nat) : Int) := by decide +kernel
theorem i_X9_scored_20 : xi_dc cX9_scored 20 = some (.iconst 1, 1) := by decide +kernel
theorem i_X9_scored_21 : xi_dc cX9_scored 21 = some (.iload_n 2, 1) := by decide +kernel
theorem i_X9_scored_22 : xi_dc cX9_scored 22 = some (.ishl, 1) := by decide +kernel
theorem i_X9_scored_23 : xi_dc cX9_scored 23 = some (.goto 4, 3) := by decide +kernel
theorem t_X9_scored_23 : ((23 : Nat) : Int) + 4 = ((27 : Nat) : Int) := by decide +kernel
theorem i_X9_scored_26 : xi_dc cX9_scored 26 = some (.iconst 0, 1) := by decide +kernel
theorem i_X9_scored_27 : xi_dc cX9_scored 27 = some (.ior, 1) := by decide +kernel
theorem i_X9_scored_28 : xi_dc cX9_scored 28 = some (.istore_n 1, 1) := by decide +kernel
theorem i_X9_scored_29 : xi_dc cX9_scored 29 = some (.iinc 2 1, 3) := by decide +kernel
theorem i_X9_scored_32 : xi_dc cX9_scored 32 = some (.goto (-28), 3) := by decide +kernel
theorem t_X9_scored_32 : ((32 : Nat) : Int) + (-28) = ((4 : Nat) : Int) := by decide +kernel
theorem i_X9_scored_35 : xi_dc cX9_scored 35 = some (.iload_n 1, 1) := by decide +kernel
theorem i_X9_scored_36 : xi_dc cX9_scored 36 = some (.ireturn, 1) := by decide +kernel
def P_X9_scored (S : xi_S) : xi_P := (xi_dc cX9_scored, xi_tab xfl_X9, xi_tab xki_X9, xi_tab xkl_X9, xi_tab xcs_X9, xi_tab xcv_X9, xi_calls [(160, xi_wS 2 (F_X9_isScored S))], xi_calls [], 1)
theorem cc_X9_scored_160 (S : xi_S) (a0 : Nat) (a1 : Int32) (m : xi_M) : (P_X9_scored S).2.2.2.2.2.2.1 160 [.ref a0, .int a1] m = (E_X9_isScored S a0 a1 m) := by
  show xi_calls [(160, xi_wS 2 (F_X9_isScored S))] 160 [.ref a0, .int a1] m = _
  refine Eq.trans (b := xi_wS 2 (F_X9_isScored S) [.ref a0, .int a1] m) (xi_calls_hit rfl) ?_
  exact xi_wS_eq rfl
def G_X9_scored_4 (S : xi_S) : Nat → Nat → Int32 → Int32 → xi_M → Option xi_R
  | 0, _, _, _, _ => none
  | n + 1, v0, v1, v2, m =>
    if S.1 v0 = 0 ∧ ¬ ((Int32.ofInt 1) < 0 ∨ S.2.1 v0 ≤ Int32.toNatClampNeg (Int32.ofInt 1)) then
      if (m.1 v0 (Int32.toNatClampNeg (Int32.ofInt 1))) ≤ v2 then
        some (some (.int v1), m)
      else
        xi_bI (E_X9_isScored S v0 v2 m) fun x3 m2 =>
        if x3 = 0 then
          G_X9_scored_4 S n v0 (v1 ||| (Int32.ofInt 0)) (v2 + Int32.ofInt 1) m2
        else
          G_X9_scored_4 S n v0 (v1 ||| ((Int32.ofInt 1) <<< (v2 &&& 31))) (v2 + Int32.ofInt 1) m2
    else none
set_option maxRecDepth 100000 in
set_option maxHeartbeats 4000000 in
theorem xs_X9_scored_4 {S : xi_S} {res : xi_R} : ∀ (n : Nat) (v0 : Nat) (v1 : Int32) (v2 : Int32) (m : xi_M), G_X9_scored_4 S n v0 v1 v2 m = some res → xi_X S (P_X9_scored S) (4, [some (.ref v0), some (.int v1), some (.int v2)], [], m) res := by
  intro n
  induction n with
  | zero => intro v0 v1 v2 m h; exact xi_no h
  | succ n ih =>
    intro v0 v1 v2 m h
    unfold G_X9_scored_4 at h
    refine xr_iload_n i_X9_scored_4 rfl (q := 5) rfl ?_
    refine xr_aload_n i_X9_scored_5 rfl (q := 6) rfl ?_
    refine xr_iconst i_X9_scored_6 (q := 7) rfl ?_
    obtain ⟨c1, h⟩ := xi_if_some h
    refine xr_iaload i_X9_scored_7 c1 (q := 8) rfl ?_
    by_cases c5 : (m.1 v0 (Int32.toNatClampNeg (Int32.ofInt 1))) ≤ v2
    · replace h := (if_pos c5).symm.trans h
      refine xr_if_icmp_ge_p i_X9_scored_8 c5 (q := 35) t_X9_scored_8 (q2 := 11) rfl ?_
      refine xr_iload_n i_X9_scored_35 rfl (q := 36) rfl ?_
      exact xr_ireturn i_X9_scored_36 rfl h
    · replace h := (if_neg c5).symm.trans h
      refine xr_if_icmp_ge_n i_X9_scored_8 c5 (q := 35) t_X9_scored_8 (q2 := 11) rfl ?_
      refine xr_iload_n i_X9_scored_11 rfl (q := 12) rfl ?_
      refine xr_aload_n i_X9_scored_12 rfl (q := 13) rfl ?_
      refine xr_iload_n i_X9_scored_13 rfl (q := 14) rfl ?_
      obtain ⟨x3, m2, em2, h⟩ := xi_bI_some h
      refine xr_SI i_X9_scored_14 xcse_X9_160 rfl (As := [.ref v0, .int v2]) rfl (rest := [.int v1]) rfl ((cc_X9_scored_160 S _ _ _).trans em2) (q := 17) rfl ?_
      by_cases c4 : x3 = 0
      · replace h := (if_pos c4).symm.trans h
        refine xr_ifCond_eq_p i_X9_scored_17 c4 (q := 26) t_X9_scored_17 (q2 := 20) rfl ?_
        refine xr_iconst i_X9_scored_26 (q := 27) rfl ?_
        refine xr_ior i_X9_scored_27 (q := 28) rfl ?_
        refine xr_istore_n i_X9_scored_28 rfl (L2 := [some (.ref v0), some (.int (v1 ||| (Int32.ofInt 0))), some (.int v2)]) rfl (q := 29) rfl ?_
        refine xr_iinc i_X9_scored_29 rfl rfl (L2 := [some (.ref v0), some (.int (v1 ||| (Int32.ofInt 0))), some (.int (v2 + Int32.ofInt 1))]) rfl (q := 32) rfl ?_
        refine xr_goto i_X9_scored_32 (q := 4) t_X9_scored_32 ?_
        exact xi_X_le (xi_le_s (xi_le_s (xi_le_s xi_le_z))) (ih _ _ _ _ h)
      · replace h := (if_neg c4).symm.trans h
        refine xr_ifCond_eq_n i_X9_scored_17 c4 (q := 26) t_X9_scored_17 (q2 := 20) rfl ?_
        refine xr_iconst i_X9_scored_20 (q := 21) rfl ?_
        refine xr_iload_n i_X9_scored_21 rfl (q := 22) rfl ?_
        refine xr_ishl i_X9_scored_22 (q := 23) rfl ?_
        refine xr_goto i_X9_scored_23 (q := 27) t_X9_scored_23 ?_
        refine xr_ior i_X9_scored_27 (q := 28) rfl ?_
        refine xr_istore_n i_X9_scored_28 rfl (L2 := [some (.ref v0), some (.int (v1 ||| ((Int32.ofInt 1) <<< (v2 &&& 31)))), some (.int v2)]) rfl (q := 29) rfl ?_
        refine xr_iinc i_X9_scored_29 rfl rfl (L2 := [some (.ref v0), some (.int (v1 ||| ((Int32.ofInt 1) <<< (v2 &&& 31)))), some (.int (v2 + Int32.ofInt 1))]) rfl (q := 32) rfl ?_
        refine xr_goto i_X9_scored_32 (q := 4) t_X9_scored_32 ?_
        exact xi_X_le (xi_le_s (xi_le_s (xi_le_s xi_le_z))) (ih _ _ _ _ h)
def E_X9_scored (S : xi_S) (v0 : Nat) (m : xi_M) : Option xi_R :=
  G_X9_scored_4 S 10000 v0 (Int32.ofInt 0) (Int32.ofInt 0) m
def F_X9_scored (S : xi_S) : xi_F := fun As m => match As with
  | [.ref v0] => E_X9_scored S v0 m
  | _ => none
set_option maxRecDepth 100000 in
set_option maxHeartbeats 4000000 in
theorem xe_X9_scored {S : xi_S} {res : xi_R} (v0 : Nat) (m : xi_M) (h : E_X9_scored S v0 m = some res) : xi_X S (P_X9_scored S) (0, [some (.ref v0), none, none], [], m) res := by
  unfold E_X9_scored at h
  refine xr_iconst i_X9_scored_0 (q := 1) rfl ?_
  refine xr_istore_n i_X9_scored_1 rfl (L2 := [some (.ref v0), some (.int (Int32.ofInt 0)), none]) rfl (q := 2) rfl ?_
  refine xr_iconst i_X9_scored_2 (q := 3) rfl ?_
  refine xr_istore_n i_X9_scored_3 rfl (L2 := [some (.ref v0), some (.int (Int32.ofInt 0)), some (.int (Int32.ofInt 0))]) rfl (q := 4) rfl ?_
  exact xi_X_le (xi_le_s (xi_le_s (xi_le_s xi_le_z))) (xs_X9_scored_4 10000 _ _ _ _ h)
set_option maxRecDepth 100000 in
theorem po_X9_scored {l : Launch} {E : xi_E} {S : xi_S} {D : va_G} {tys : List (ClassId × FieldType)} (hC : xCx E S tys) : xi_Pok l E S D vwCl tys xNs RX9 xTs cX9_scored 3 6 (P_X9_scored S) := ⟨xi_dc_ok, by rw [hC.2]; exact xfo_X9, xkio_X9, xklo_X9, xi_calls_ok (ins := .invokestatic) (List.forall_mem_cons.mpr ⟨(xc_X9_160 (sn_X9_isScored hC) (by decide)), fun _ h => absurd h List.not_mem_nil⟩), xi_calls_ok (ins := .invokevirtual) (fun _ h => absurd h List.not_mem_nil)⟩
theorem sn_X9_scored {l : Launch} {E : xi_E} {S : xi_S} {D : va_G} {tys : List (ClassId × FieldType)} (hC : xCx E S tys) : ∀ As m1 r m2, F_X9_scored S As m1 = some (r, m2) → xi_Sound l E S D vwCl tys xNs xTs yX9_scored cX9_scored 3 (some .int) 6 As m1 r m2 := by
  intro As m1 r m2 h
  unfold F_X9_scored at h
  split at h
  · exact xi_meth (P := P_X9_scored S) (by decide) hC.1 (po_X9_scored hC) (Nat.le_of_ble_eq_true rfl) rfl (xe_X9_scored _ _ h)
  · exact xi_no h
theorem i_X9_ahead_0 : xi_dc cX9_ahead 0 = some (.iconst 0, 1) := by decide +kernel
theorem i_X9_ahead_1 : xi_dc cX9_ahead 1 = some (.istore_n 1, 1) := by decide +kernel
theorem i_X9_ahead_2 : xi_dc cX9_ahead 2 = some (.iconst 0, 1) := by decide +kernel
theorem i_X9_ahead_3 : xi_dc cX9_ahead 3 = some (.istore_n 2, 1) := by decide +kernel
theorem i_X9_ahead_4 : xi_dc cX9_ahead 4 = some (.iload_n 2, 1) := by decide +kernel
theorem i_X9_ahead_5 : xi_dc cX9_ahead 5 = some (.aload_n 0, 1) := by decide +kernel
theorem i_X9_ahead_6 : xi_dc cX9_ahead 6 = some (.iconst 1, 1) := by decide +kernel
theorem i_X9_ahead_7 : xi_dc cX9_ahead 7 = some (.iaload, 1) := by decide +kernel
theorem i_X9_ahead_8 : xi_dc cX9_ahead 8 = some (.if_icmp .ge 42, 3) := by decide +kernel
theorem t_X9_ahead_8 : ((8 : Nat) : Int) + 42 = ((50 : Nat) : Int) := by decide +kernel
theorem i_X9_ahead_11 : xi_dc cX9_ahead 11 = some (.iload_n 1, 1) := by decide +kernel
theorem i_X9_ahead_12 : xi_dc cX9_ahead 12 = some (.aload_n 0, 1) := by decide +kernel
theorem i_X9_ahead_13 : xi_dc cX9_ahead 13 = some (.iload_n 2, 1) := by decide +kernel
theorem i_X9_ahead_14 : xi_dc cX9_ahead 14 = some (.invokestatic 160, 3) := by decide +kernel
theorem i_X9_ahead_17 : xi_dc cX9_ahead 17 = some (.ifCond .ne 7, 3) := by decide +kernel
theorem t_X9_ahead_17 : ((17 : Nat) : Int) + 7 = ((24 : Nat) : Int) := by decide +kernel
theorem i_X9_ahead_20 : xi_dc cX9_ahead 20 = some (.iconst 0, 1) := by decide +kernel
theorem i_X9_ahead_21 : xi_dc cX9_ahead 21 = some (.goto 21, 3) := by decide +kernel
theorem t_X9_ahead_21 : ((21 : Nat) : Int) + 21 = ((42 : Nat) : Int) := by decide +kernel
theorem i_X9_ahead_24 : xi_dc cX9_ahead 24 = some (.aload_n 0, 1) := by decide +kernel
theorem i_X9_ahead_25 : xi_dc cX9_ahead 25 = some (.bipush 10, 2) := by decide +kernel
theorem i_X9_ahead_27 : xi_dc cX9_ahead 27 = some (.iconst 4, 1) := by decide +kernel
theorem i_X9_ahead_28 : xi_dc cX9_ahead 28 = some (.iload_n 2, 1) := by decide +kernel
theorem i_X9_ahead_29 : xi_dc cX9_ahead 29 = some (.imul, 1) := by decide +kernel
theorem i_X9_ahead_30 : xi_dc cX9_ahead 30 = some (.iadd, 1) := by decide +kernel
theorem i_X9_ahead_31 : xi_dc cX9_ahead 31 = some (.iconst 1, 1) := by decide +kernel
theorem i_X9_ahead_32 : xi_dc cX9_ahead 32 = some (.iadd, 1) := by decide +kernel
theorem i_X9_ahead_33 : xi_dc cX9_ahead 33 = some (.iaload, 1) := by decide +kernel
theorem i_X9_ahead_34 : xi_dc cX9_ahead 34 = some (.ifCond .ne 7, 3) := by decide +kernel
theorem t_X9_ahead_34 : ((34 : Nat) : Int) + 7 = ((41 : Nat) : Int) := by decide +kernel
theorem i_X9_ahead_37 : xi_dc cX9_ahead 37 = some (.iconst 1, 1) := by decide +kernel
theorem i_X9_ahead_38 : xi_dc cX9_ahead 38 = some (.goto 4, 3) := by decide +kernel
theorem t_X9_ahead_38 : ((38 : Nat) : Int) + 4 = ((42 : Nat) : Int) := by decide +kernel
theorem i_X9_ahead_41 : xi_dc cX9_ahead 41 = some (.iconst (-1), 1) := by decide +kernel
theorem i_X9_ahead_42 : xi_dc cX9_ahead 42 = some (.iadd, 1) := by decide +kernel
theorem i_X9_ahead_43 : xi_dc cX9_ahead 43 = some (.istore_n 1, 1) := by decide +kernel
theorem i_X9_ahead_44 : xi_dc cX9_ahead 44 = some (.iinc 2 1, 3) := by decide +kernel
theorem i_X9_ahead_47 : xi_dc cX9_ahead 47 = some (.goto (-43), 3) := by decide +kernel
theorem t_X9_ahead_47 : ((47 : Nat) : Int) + (-43) = ((4 : Nat) : Int) := by decide +kernel
theorem i_X9_ahead_50 : xi_dc cX9_ahead 50 = some (.iload_n 1, 1) := by decide +kernel
theorem i_X9_ahead_51 : xi_dc cX9_ahead 51 = some (.ireturn, 1) := by decide +kernel
def P_X9_ahead (S : xi_S) : xi_P := (xi_dc cX9_ahead, xi_tab xfl_X9, xi_tab xki_X9, xi_tab xkl_X9, xi_tab xcs_X9, xi_tab xcv_X9, xi_calls [(160, xi_wS 2 (F_X9_isScored S))], xi_calls [], 1)
theorem cc_X9_ahead_160 (S : xi_S) (a0 : Nat) (a1 : Int32) (m : xi_M) : (P_X9_ahead S).2.2.2.2.2.2.1 160 [.ref a0, .int a1] m = (E_X9_isScored S a0 a1 m) := by
  show xi_calls [(160, xi_wS 2 (F_X9_isScored S))] 160 [.ref a0, .int a1] m = _
  refine Eq.trans (b := xi_wS 2 (F_X9_isScored S) [.ref a0, .int a1] m) (xi_calls_hit rfl) ?_
  exact xi_wS_eq rfl
def G_X9_ahead_4 (S : xi_S) : Nat → Nat → Int32 → Int32 → xi_M → Option xi_R
  | 0, _, _, _, _ => none
  | n + 1, v0, v1, v2, m =>
    if S.1 v0 = 0 ∧ ¬ ((Int32.ofInt 1) < 0 ∨ S.2.1 v0 ≤ Int32.toNatClampNeg (Int32.ofInt 1)) then
      if (m.1 v0 (Int32.toNatClampNeg (Int32.ofInt 1))) ≤ v2 then
        some (some (.int v1), m)
      else
        xi_bI (E_X9_isScored S v0 v2 m) fun x3 m2 =>
        if x3 = 0 then
          G_X9_ahead_4 S n v0 (v1 + (Int32.ofInt 0)) (v2 + Int32.ofInt 1) m2
        else
          if S.1 v0 = 0 ∧ ¬ (((((Int8.ofInt 10).toInt32) + ((Int32.ofInt 4) * v2)) + (Int32.ofInt 1)) < 0 ∨ S.2.1 v0 ≤ Int32.toNatClampNeg ((((Int8.ofInt 10).toInt32) + ((Int32.ofInt 4) * v2)) + (Int32.ofInt 1))) then
            if (m2.1 v0 (Int32.toNatClampNeg ((((Int8.ofInt 10).toInt32) + ((Int32.ofInt 4) * v2)) + (Int32.ofInt 1)))) = 0 then
              G_X9_ahead_4 S n v0 (v1 + (Int32.ofInt 1)) (v2 + Int32.ofInt 1) m2
            else
              G_X9_ahead_4 S n v0 (v1 + (Int32.ofInt (-1))) (v2 + Int32.ofInt 1) m2
          else none
    else none
set_option maxRecDepth 100000 in
set_option maxHeartbeats 4000000 in
theorem xs_X9_ahead_4 {S : xi_S} {res : xi_R} : ∀ (n : Nat) (v0 : Nat) (v1 : Int32) (v2 : Int32) (m : xi_M), G_X9_ahead_4 S n v0 v1 v2 m = some res → xi_X S (P_X9_ahead S) (4, [some (.ref v0), some (.int v1), some (.int v2)], [], m) res := by
  intro n
  induction n with
  | zero => intro v0 v1 v2 m h; exact xi_no h
  | succ n ih =>
    intro v0 v1 v2 m h
    unfold G_X9_ahead_4 at h
    refine xr_iload_n i_X9_ahead_4 rfl (q := 5) rfl ?_
    refine xr_aload_n i_X9_ahead_5 rfl (q := 6) rfl ?_
    refine xr_iconst i_X9_ahead_6 (q := 7) rfl ?_
    obtain ⟨c1, h⟩ := xi_if_some h
    refine xr_iaload i_X9_ahead_7 c1 (q := 8) rfl ?_
    by_cases c7 : (m.1 v0 (Int32.toNatClampNeg (Int32.ofInt 1))) ≤ v2
    · replace h := (if_pos c7).symm.trans h
      refine xr_if_icmp_ge_p i_X9_ahead_8 c7 (q := 50) t_X9_ahead_8 (q2 := 11) rfl ?_
      refine xr_iload_n i_X9_ahead_50 rfl (q := 51) rfl ?_
      exact xr_ireturn i_X9_ahead_51 rfl h
    · replace h := (if_neg c7).symm.trans h
      refine xr_if_icmp_ge_n i_X9_ahead_8 c7 (q := 50) t_X9_ahead_8 (q2 := 11) rfl ?_
      refine xr_iload_n i_X9_ahead_11 rfl (q := 12) rfl ?_
      refine xr_aload_n i_X9_ahead_12 rfl (q := 13) rfl ?_
      refine xr_iload_n i_X9_ahead_13 rfl (q := 14) rfl ?_
      obtain ⟨x3, m2, em2, h⟩ := xi_bI_some h
      refine xr_SI i_X9_ahead_14 xcse_X9_160 rfl (As := [.ref v0, .int v2]) rfl (rest := [.int v1]) rfl ((cc_X9_ahead_160 S _ _ _).trans em2) (q := 17) rfl ?_
      by_cases c6 : x3 = 0
      · replace h := (if_pos c6).symm.trans h
        refine xr_ifCond_ne_p i_X9_ahead_17 c6 (q := 24) t_X9_ahead_17 (q2 := 20) rfl ?_
        refine xr_iconst i_X9_ahead_20 (q := 21) rfl ?_
        refine xr_goto i_X9_ahead_21 (q := 42) t_X9_ahead_21 ?_
        refine xr_iadd i_X9_ahead_42 (q := 43) rfl ?_
        refine xr_istore_n i_X9_ahead_43 rfl (L2 := [some (.ref v0), some (.int (v1 + (Int32.ofInt 0))), some (.int v2)]) rfl (q := 44) rfl ?_
        refine xr_iinc i_X9_ahead_44 rfl rfl (L2 := [some (.ref v0), some (.int (v1 + (Int32.ofInt 0))), some (.int (v2 + Int32.ofInt 1))]) rfl (q := 47) rfl ?_
        refine xr_goto i_X9_ahead_47 (q := 4) t_X9_ahead_47 ?_
        exact xi_X_le (xi_le_s (xi_le_s (xi_le_s xi_le_z))) (ih _ _ _ _ h)
      · replace h := (if_neg c6).symm.trans h
        refine xr_ifCond_ne_n i_X9_ahead_17 c6 (q := 24) t_X9_ahead_17 (q2 := 20) rfl ?_
        refine xr_aload_n i_X9_ahead_24 rfl (q := 25) rfl ?_
        refine xr_bipush i_X9_ahead_25 (q := 27) rfl ?_
        refine xr_iconst i_X9_ahead_27 (q := 28) rfl ?_
        refine xr_iload_n i_X9_ahead_28 rfl (q := 29) rfl ?_
        refine xr_imul i_X9_ahead_29 (q := 30) rfl ?_
        refine xr_iadd i_X9_ahead_30 (q := 31) rfl ?_
        refine xr_iconst i_X9_ahead_31 (q := 32) rfl ?_
        refine xr_iadd i_X9_ahead_32 (q := 33) rfl ?_
        obtain ⟨c4, h⟩ := xi_if_some h
        refine xr_iaload i_X9_ahead_33 c4 (q := 34) rfl ?_
        by_cases c5 : (m2.1 v0 (Int32.toNatClampNeg ((((Int8.ofInt 10).toInt32) + ((Int32.ofInt 4) * v2)) + (Int32.ofInt 1)))) = 0
        · replace h := (if_pos c5).symm.trans h
          refine xr_ifCond_ne_p i_X9_ahead_34 c5 (q := 41) t_X9_ahead_34 (q2 := 37) rfl ?_
          refine xr_iconst i_X9_ahead_37 (q := 38) rfl ?_
          refine xr_goto i_X9_ahead_38 (q := 42) t_X9_ahead_38 ?_
          refine xr_iadd i_X9_ahead_42 (q := 43) rfl ?_
          refine xr_istore_n i_X9_ahead_43 rfl (L2 := [some (.ref v0), some (.int (v1 + (Int32.ofInt 1))), some (.int v2)]) rfl (q := 44) rfl ?_
          refine xr_iinc i_X9_ahead_44 rfl rfl (L2 := [some (.ref v0), some (.int (v1 + (Int32.ofInt 1))), some (.int (v2 + Int32.ofInt 1))]) rfl (q := 47) rfl ?_
          refine xr_goto i_X9_ahead_47 (q := 4) t_X9_ahead_47 ?_
          exact xi_X_le (xi_le_s (xi_le_s (xi_le_s xi_le_z))) (ih _ _ _ _ h)
        · replace h := (if_neg c5).symm.trans h
          refine xr_ifCond_ne_n i_X9_ahead_34 c5 (q := 41) t_X9_ahead_34 (q2 := 37) rfl ?_
          refine xr_iconst i_X9_ahead_41 (q := 42) rfl ?_
          refine xr_iadd i_X9_ahead_42 (q := 43) rfl ?_
          refine xr_istore_n i_X9_ahead_43 rfl (L2 := [some (.ref v0), some (.int (v1 + (Int32.ofInt (-1)))), some (.int v2)]) rfl (q := 44) rfl ?_
          refine xr_iinc i_X9_ahead_44 rfl rfl (L2 := [some (.ref v0), some (.int (v1 + (Int32.ofInt (-1)))), some (.int (v2 + Int32.ofInt 1))]) rfl (q := 47) rfl ?_
          refine xr_goto i_X9_ahead_47 (q := 4) t_X9_ahead_47 ?_
          exact xi_X_le (xi_le_s (xi_le_s (xi_le_s xi_le_z))) (ih _ _ _ _ h)
def E_X9_ahead (S : xi_S) (v0 : Nat) (m : xi_M) : Option xi_R :=
  G_X9_ahead_4 S 10000 v0 (Int32.ofInt 0) (Int32.ofInt 0) m
def F_X9_ahead (S : xi_S) : xi_F := fun As m => match As with
  | [.ref v0] => E_X9_ahead S v0 m
  | _ => none
set_option maxRecDepth 100000 in
set_option maxHeartbeats 4000000 in
theorem xe_X9_ahead {S : xi_S} {res : xi_R} (v0 : Nat) (m : xi_M) (h : E_X9_ahead S v0 m = some res) : xi_X S (P_X9_ahead S) (0, [some (.ref v0), none, none], [], m) res := by
  unfold E_X9_ahead at h
  refine xr_iconst i_X9_ahead_0 (q := 1) rfl ?_
  refine xr_istore_n i_X9_ahead_1 rfl (L2 := [some (.ref v0), some (.int (Int32.ofInt 0)), none]) rfl (q := 2) rfl ?_
  refine xr_iconst i_X9_ahead_2 (q := 3) rfl ?_
  refine xr_istore_n i_X9_ahead_3 rfl (L2 := [some (.ref v0), some (.int (Int32.ofInt 0)), some (.int (Int32.ofInt 0))]) rfl (q := 4) rfl ?_
  exact xi_X_le (xi_le_s (xi_le_s (xi_le_s xi_le_z))) (xs_X9_ahead_4 10000 _ _ _ _ h)
set_option maxRecDepth 100000 in
theorem po_X9_ahead {l : Launch} {E : xi_E} {S : xi_S} {D : va_G} {tys : List (ClassId × FieldType)} (hC : xCx E S tys) : xi_Pok l E S D vwCl tys xNs RX9 xTs cX9_ahead 3 6 (P_X9_ahead S) := ⟨xi_dc_ok, by rw [hC.2]; exact xfo_X9, xkio_X9, xklo_X9, xi_calls_ok (ins := .invokestatic) (List.forall_mem_cons.mpr ⟨(xc_X9_160 (sn_X9_isScored hC) (by decide)), fun _ h => absurd h List.not_mem_nil⟩), xi_calls_ok (ins := .invokevirtual) (fun _ h => absurd h List.not_mem_nil)⟩
theorem sn_X9_ahead {l : Launch} {E : xi_E} {S : xi_S} {D : va_G} {tys : List (ClassId × FieldType)} (hC : xCx E S tys) : ∀ As m1 r m2, F_X9_ahead S As m1 = some (r, m2) → xi_Sound l E S D vwCl tys xNs xTs yX9_ahead cX9_ahead 3 (some .int) 6 As m1 r m2 := by
  intro As m1 r m2 h
  unfold F_X9_ahead at h
  split at h
  · exact xi_meth (P := P_X9_ahead S) (by decide) hC.1 (po_X9_ahead hC) (Nat.le_of_ble_eq_true rfl) rfl (xe_X9_ahead _ _ h)
  · exact xi_no h
theorem i_X9_plays_0 : xi_dc cX9_plays 0 = some (.aload_n 0, 1) := by decide +kernel
theorem i_X9_plays_1 : xi_dc cX9_plays 1 = some (.invokestatic 163, 3) := by decide +kernel
theorem i_X9_plays_4 : xi_dc cX9_plays 4 = some (.istore_n 1, 1) := by decide +kernel
theorem i_X9_plays_5 : xi_dc cX9_plays 5 = some (.iconst 0, 1) := by decide +kernel
theorem i_X9_plays_6 : xi_dc cX9_plays 6 = some (.istore_n 2, 1) := by decide +kernel
theorem i_X9_plays_7 : xi_dc cX9_plays 7 = some (.iload_n 2, 1) := by decide +kernel
theorem i_X9_plays_8 : xi_dc cX9_plays 8 = some (.aload_n 0, 1) := by decide +kernel
theorem i_X9_plays_9 : xi_dc cX9_plays 9 = some (.iconst 1, 1) := by decide +kernel
theorem i_X9_plays_10 : xi_dc cX9_plays 10 = some (.iaload, 1) := by decide +kernel
theorem i_X9_plays_11 : xi_dc cX9_plays 11 = some (.if_icmp .ge 31, 3) := by decide +kernel
theorem t_X9_plays_11 : ((11 : Nat) : Int) + 31 = ((42 : Nat) : Int) := by decide +kernel
theorem i_X9_plays_14 : xi_dc cX9_plays 14 = some (.aload_n 0, 1) := by decide +kernel
theorem i_X9_plays_15 : xi_dc cX9_plays 15 = some (.iconst 4, 1) := by decide +kernel
theorem i_X9_plays_16 : xi_dc cX9_plays 16 = some (.aload_n 0, 1) := by decide +kernel
theorem i_X9_plays_17 : xi_dc cX9_plays 17 = some (.bipush 10, 2) := by decide +kernel
theorem i_X9_plays_19 : xi_dc cX9_plays 19 = some (.iconst 4, 1) := by decide +kernel
theorem i_X9_plays_20 : xi_dc cX9_plays 20 = some (.iload_n 2, 1) := by decide +kernel
theorem i_X9_plays_21 : xi_dc cX9_plays 21 = some (.imul, 1) := by decide +kernel
theorem i_X9_plays_22 : xi_dc cX9_plays 22 = some (.iadd, 1) := by decide +kernel
theorem i_X9_plays_23 : xi_dc cX9_plays 23 = some (.iconst 1, 1) := by decide +kernel
theorem i_X9_plays_24 : xi_dc cX9_plays 24 = some (.iadd, 1) := by decide +kernel
theorem i_X9_plays_25 : xi_dc cX9_plays 25 = some (.iaload, 1) := by decide +kernel
theorem i_X9_plays_26 : xi_dc cX9_plays 26 = some (.iadd, 1) := by decide +kernel
theorem i_X9_plays_27 : xi_dc cX9_plays 27 = some (.dup2, 1) := by decide +kernel
theorem i_X9_plays_28 : xi_dc cX9_plays 28 = some (.iaload, 1) := by decide +kernel
theorem i_X9_plays_29 : xi_dc cX9_plays 29 = some (.iload_n 1, 1) := by decide +kernel
theorem i_X9_plays_30 : xi_dc cX9_plays 30 = some (.iload_n 2, 1) := by decide +kernel
theorem i_X9_plays_31 : xi_dc cX9_plays 31 = some (.ishr, 1) := by decide +kernel
theorem i_X9_plays_32 : xi_dc cX9_plays 32 = some (.iconst 1, 1) := by decide +kernel
theorem i_X9_plays_33 : xi_dc cX9_plays 33 = some (.iand, 1) := by decide +kernel
theorem i_X9_plays_34 : xi_dc cX9_plays 34 = some (.iadd, 1) := by decide +kernel
theorem i_X9_plays_35 : xi_dc cX9_plays 35 = some (.iastore, 1) := by decide +kernel
theorem i_X9_plays_36 : xi_dc cX9_plays 36 = some (.iinc 2 1, 3) := by decide +kernel
theorem i_X9_plays_39 : xi_dc cX9_plays 39 = some (.goto (-32), 3) := by decide +kernel
theorem t_X9_plays_39 : ((39 : Nat) : Int) + (-32) = ((7 : Nat) : Int) := by decide +kernel
theorem i_X9_plays_42 : xi_dc cX9_plays 42 = some (.aload_n 0, 1) := by decide +kernel
theorem i_X9_plays_43 : xi_dc cX9_plays 43 = some (.iconst 2, 1) := by decide +kernel
theorem i_X9_plays_44 : xi_dc cX9_plays 44 = some (.dup2, 1) := by decide +kernel
theorem i_X9_plays_45 : xi_dc cX9_plays 45 = some (.iaload, 1) := by decide +kernel
theorem i_X9_plays_46 : xi_dc cX9_plays 46 = some (.iconst 1, 1) := by decide +kernel
theorem i_X9_plays_47 : xi_dc cX9_plays 47 = some (.iadd, 1) := by decide +kernel
theorem i_X9_plays_48 : xi_dc cX9_plays 48 = some (.iastore, 1) := by decide +kernel
theorem i_X9_plays_49 : xi_dc cX9_plays 49 = some (.iload_n 1, 1) := by decide +kernel
theorem i_X9_plays_50 : xi_dc cX9_plays 50 = some (.ireturn, 1) := by decide +kernel
def P_X9_plays (S : xi_S) : xi_P := (xi_dc cX9_plays, xi_tab xfl_X9, xi_tab xki_X9, xi_tab xkl_X9, xi_tab xcs_X9, xi_tab xcv_X9, xi_calls [(163, xi_wS 1 (F_X9_scored S))], xi_calls [], 1)
theorem cc_X9_plays_163 (S : xi_S) (a0 : Nat) (m : xi_M) : (P_X9_plays S).2.2.2.2.2.2.1 163 [.ref a0] m = (E_X9_scored S a0 m) := by
  show xi_calls [(163, xi_wS 1 (F_X9_scored S))] 163 [.ref a0] m = _
  refine Eq.trans (b := xi_wS 1 (F_X9_scored S) [.ref a0] m) (xi_calls_hit rfl) ?_
  exact xi_wS_eq rfl
def G_X9_plays_7 (S : xi_S) : Nat → Nat → Int32 → Int32 → xi_M → Option xi_R
  | 0, _, _, _, _ => none
  | n + 1, v0, v1, v2, m =>
    if S.1 v0 = 0 ∧ ¬ ((Int32.ofInt 1) < 0 ∨ S.2.1 v0 ≤ Int32.toNatClampNeg (Int32.ofInt 1)) then
      if (m.1 v0 (Int32.toNatClampNeg (Int32.ofInt 1))) ≤ v2 then
        if S.1 v0 = 0 ∧ ¬ ((Int32.ofInt 2) < 0 ∨ S.2.1 v0 ≤ Int32.toNatClampNeg (Int32.ofInt 2)) then
          if S.1 v0 = 0 ∧ ¬ ((Int32.ofInt 2) < 0 ∨ S.2.1 v0 ≤ Int32.toNatClampNeg (Int32.ofInt 2)) then
            some (some (.int v1), (xi_wI m v0 (Int32.toNatClampNeg (Int32.ofInt 2)) ((m.1 v0 (Int32.toNatClampNeg (Int32.ofInt 2))) + (Int32.ofInt 1))))
          else none
        else none
      else
        if S.1 v0 = 0 ∧ ¬ (((((Int8.ofInt 10).toInt32) + ((Int32.ofInt 4) * v2)) + (Int32.ofInt 1)) < 0 ∨ S.2.1 v0 ≤ Int32.toNatClampNeg ((((Int8.ofInt 10).toInt32) + ((Int32.ofInt 4) * v2)) + (Int32.ofInt 1))) then
          if S.1 v0 = 0 ∧ ¬ (((Int32.ofInt 4) + (m.1 v0 (Int32.toNatClampNeg ((((Int8.ofInt 10).toInt32) + ((Int32.ofInt 4) * v2)) + (Int32.ofInt 1))))) < 0 ∨ S.2.1 v0 ≤ Int32.toNatClampNeg ((Int32.ofInt 4) + (m.1 v0 (Int32.toNatClampNeg ((((Int8.ofInt 10).toInt32) + ((Int32.ofInt 4) * v2)) + (Int32.ofInt 1)))))) then
            if S.1 v0 = 0 ∧ ¬ (((Int32.ofInt 4) + (m.1 v0 (Int32.toNatClampNeg ((((Int8.ofInt 10).toInt32) + ((Int32.ofInt 4) * v2)) + (Int32.ofInt 1))))) < 0 ∨ S.2.1 v0 ≤ Int32.toNatClampNeg ((Int32.ofInt 4) + (m.1 v0 (Int32.toNatClampNeg ((((Int8.ofInt 10).toInt32) + ((Int32.ofInt 4) * v2)) + (Int32.ofInt 1)))))) then
              G_X9_plays_7 S n v0 v1 (v2 + Int32.ofInt 1) (xi_wI m v0 (Int32.toNatClampNeg ((Int32.ofInt 4) + (m.1 v0 (Int32.toNatClampNeg ((((Int8.ofInt 10).toInt32) + ((Int32.ofInt 4) * v2)) + (Int32.ofInt 1)))))) ((m.1 v0 (Int32.toNatClampNeg ((Int32.ofInt 4) + (m.1 v0 (Int32.toNatClampNeg ((((Int8.ofInt 10).toInt32) + ((Int32.ofInt 4) * v2)) + (Int32.ofInt 1))))))) + ((v1 >>> (v2 &&& 31)) &&& (Int32.ofInt 1))))
            else none
          else none
        else none
    else none
set_option maxRecDepth 100000 in
set_option maxHeartbeats 4000000 in
theorem xs_X9_plays_7 {S : xi_S} {res : xi_R} : ∀ (n : Nat) (v0 : Nat) (v1 : Int32) (v2 : Int32) (m : xi_M), G_X9_plays_7 S n v0 v1 v2 m = some res → xi_X S (P_X9_plays S) (7, [some (.ref v0), some (.int v1), some (.int v2)], [], m) res := by
  intro n
  induction n with
  | zero => intro v0 v1 v2 m h; exact xi_no h
  | succ n ih =>
    intro v0 v1 v2 m h
    unfold G_X9_plays_7 at h
    refine xr_iload_n i_X9_plays_7 rfl (q := 8) rfl ?_
    refine xr_aload_n i_X9_plays_8 rfl (q := 9) rfl ?_
    refine xr_iconst i_X9_plays_9 (q := 10) rfl ?_
    obtain ⟨c1, h⟩ := xi_if_some h
    refine xr_iaload i_X9_plays_10 c1 (q := 11) rfl ?_
    by_cases c7 : (m.1 v0 (Int32.toNatClampNeg (Int32.ofInt 1))) ≤ v2
    · replace h := (if_pos c7).symm.trans h
      refine xr_if_icmp_ge_p i_X9_plays_11 c7 (q := 42) t_X9_plays_11 (q2 := 14) rfl ?_
      refine xr_aload_n i_X9_plays_42 rfl (q := 43) rfl ?_
      refine xr_iconst i_X9_plays_43 (q := 44) rfl ?_
      refine xr_dup2 i_X9_plays_44 (q := 45) rfl ?_
      obtain ⟨c2, h⟩ := xi_if_some h
      refine xr_iaload i_X9_plays_45 c2 (q := 46) rfl ?_
      refine xr_iconst i_X9_plays_46 (q := 47) rfl ?_
      refine xr_iadd i_X9_plays_47 (q := 48) rfl ?_
      obtain ⟨c3, h⟩ := xi_if_some h
      refine xr_iastore i_X9_plays_48 c3 (q := 49) rfl ?_
      refine xr_iload_n i_X9_plays_49 rfl (q := 50) rfl ?_
      exact xr_ireturn i_X9_plays_50 rfl h
    · replace h := (if_neg c7).symm.trans h
      refine xr_if_icmp_ge_n i_X9_plays_11 c7 (q := 42) t_X9_plays_11 (q2 := 14) rfl ?_
      refine xr_aload_n i_X9_plays_14 rfl (q := 15) rfl ?_
      refine xr_iconst i_X9_plays_15 (q := 16) rfl ?_
      refine xr_aload_n i_X9_plays_16 rfl (q := 17) rfl ?_
      refine xr_bipush i_X9_plays_17 (q := 19) rfl ?_
      refine xr_iconst i_X9_plays_19 (q := 20) rfl ?_
      refine xr_iload_n i_X9_plays_20 rfl (q := 21) rfl ?_
      refine xr_imul i_X9_plays_21 (q := 22) rfl ?_
      refine xr_iadd i_X9_plays_22 (q := 23) rfl ?_
      refine xr_iconst i_X9_plays_23 (q := 24) rfl ?_
      refine xr_iadd i_X9_plays_24 (q := 25) rfl ?_
      obtain ⟨c4, h⟩ := xi_if_some h
      refine xr_iaload i_X9_plays_25 c4 (q := 26) rfl ?_
      refine xr_iadd i_X9_plays_26 (q := 27) rfl ?_
      refine xr_dup2 i_X9_plays_27 (q := 28) rfl ?_
      obtain ⟨c5, h⟩ := xi_if_some h
      refine xr_iaload i_X9_plays_28 c5 (q := 29) rfl ?_
      refine xr_iload_n i_X9_plays_29 rfl (q := 30) rfl ?_
      refine xr_iload_n i_X9_plays_30 rfl (q := 31) rfl ?_
      refine xr_ishr i_X9_plays_31 (q := 32) rfl ?_
      refine xr_iconst i_X9_plays_32 (q := 33) rfl ?_
      refine xr_iand i_X9_plays_33 (q := 34) rfl ?_
      refine xr_iadd i_X9_plays_34 (q := 35) rfl ?_
      obtain ⟨c6, h⟩ := xi_if_some h
      refine xr_iastore i_X9_plays_35 c6 (q := 36) rfl ?_
      refine xr_iinc i_X9_plays_36 rfl rfl (L2 := [some (.ref v0), some (.int v1), some (.int (v2 + Int32.ofInt 1))]) rfl (q := 39) rfl ?_
      refine xr_goto i_X9_plays_39 (q := 7) t_X9_plays_39 ?_
      exact xi_X_le (xi_le_s (xi_le_s (xi_le_s xi_le_z))) (ih _ _ _ _ h)
def E_X9_plays (S : xi_S) (v0 : Nat) (m : xi_M) : Option xi_R :=
  xi_bI (E_X9_scored S v0 m) fun x2 m1 =>
  G_X9_plays_7 S 10000 v0 x2 (Int32.ofInt 0) m1
def F_X9_plays (S : xi_S) : xi_F := fun As m => match As with
  | [.ref v0] => E_X9_plays S v0 m
  | _ => none
set_option maxRecDepth 100000 in
set_option maxHeartbeats 4000000 in
theorem xe_X9_plays {S : xi_S} {res : xi_R} (v0 : Nat) (m : xi_M) (h : E_X9_plays S v0 m = some res) : xi_X S (P_X9_plays S) (0, [some (.ref v0), none, none], [], m) res := by
  unfold E_X9_plays at h
  refine xr_aload_n i_X9_plays_0 rfl (q := 1) rfl ?_
  obtain ⟨x2, m1, em1, h⟩ := xi_bI_some h
  refine xr_SI i_X9_plays_1 xcse_X9_163 rfl (As := [.ref v0]) rfl (rest := []) rfl ((cc_X9_plays_163 S _ _).trans em1) (q := 4) rfl ?_
  refine xr_istore_n i_X9_plays_4 rfl (L2 := [some (.ref v0), some (.int x2), none]) rfl (q := 5) rfl ?_
  refine xr_iconst i_X9_plays_5 (q := 6) rfl ?_
  refine xr_istore_n i_X9_plays_6 rfl (L2 := [some (.ref v0), some (.int x2), some (.int (Int32.ofInt 0))]) rfl (q := 7) rfl ?_
  exact xi_X_le (xi_le_s (xi_le_s (xi_le_s xi_le_z))) (xs_X9_plays_7 10000 _ _ _ _ h)
set_option maxRecDepth 100000 in
theorem po_X9_plays {l : Launch} {E : xi_E} {S : xi_S} {D : va_G} {tys : List (ClassId × FieldType)} (hC : xCx E S tys) : xi_Pok l E S D vwCl tys xNs RX9 xTs cX9_plays 3 7 (P_X9_plays S) := ⟨xi_dc_ok, by rw [hC.2]; exact xfo_X9, xkio_X9, xklo_X9, xi_calls_ok (ins := .invokestatic) (List.forall_mem_cons.mpr ⟨(xc_X9_163 (sn_X9_scored hC) (by decide)), fun _ h => absurd h List.not_mem_nil⟩), xi_calls_ok (ins := .invokevirtual) (fun _ h => absurd h List.not_mem_nil)⟩
theorem sn_X9_plays {l : Launch} {E : xi_E} {S : xi_S} {D : va_G} {tys : List (ClassId × FieldType)} (hC : xCx E S tys) : ∀ As m1 r m2, F_X9_plays S As m1 = some (r, m2) → xi_Sound l E S D vwCl tys xNs xTs yX9_plays cX9_plays 3 (some .int) 7 As m1 r m2 := by
  intro As m1 r m2 h
  unfold F_X9_plays at h
  split at h
  · exact xi_meth (P := P_X9_plays S) (by decide) hC.1 (po_X9_plays hC) (Nat.le_of_ble_eq_true rfl) rfl (xe_X9_plays _ _ h)
  · exact xi_no h
theorem i_X9_mayMove_0 : xi_dc cX9_mayMove 0 = some (.aload_n 0, 1) := by decide +kernel
theorem i_X9_mayMove_1 : xi_dc cX9_mayMove 1 = some (.bipush 6, 2) := by decide +kernel
theorem i_X9_mayMove_3 : xi_dc cX9_mayMove 3 = some (.iload_n 1, 1) := by decide +kernel
theorem i_X9_mayMove_4 : xi_dc cX9_mayMove 4 = some (.iadd, 1) := by decide +kernel
theorem i_X9_mayMove_5 : xi_dc cX9_mayMove 5 = some (.iaload, 1) := by decide +kernel
theorem i_X9_mayMove_6 : xi_dc cX9_mayMove 6 = some (.iload_n 2, 1) := by decide +kernel
theorem i_X9_mayMove_7 : xi_dc cX9_mayMove 7 = some (.iadd, 1) := by decide +kernel
theorem i_X9_mayMove_8 : xi_dc cX9_mayMove 8 = some (.istore_n 3, 1) := by decide +kernel
theorem i_X9_mayMove_9 : xi_dc cX9_mayMove 9 = some (.iload_n 3, 1) := by decide +kernel
theorem i_X9_mayMove_10 : xi_dc cX9_mayMove 10 = some (.iconst 0, 1) := by decide +kernel
theorem i_X9_mayMove_11 : xi_dc cX9_mayMove 11 = some (.bipush 20, 2) := by decide +kernel
theorem i_X9_mayMove_13 : xi_dc cX9_mayMove 13 = some (.invokestatic 63, 3) := by decide +kernel
theorem i_X9_mayMove_16 : xi_dc cX9_mayMove 16 = some (.ifCond .eq 40, 3) := by decide +kernel
theorem t_X9_mayMove_16 : ((16 : Nat) : Int) + 40 = ((56 : Nat) : Int) := by decide +kernel
theorem i_X9_mayMove_19 : xi_dc cX9_mayMove 19 = some (.iload_n 1, 1) := by decide +kernel
theorem i_X9_mayMove_20 : xi_dc cX9_mayMove 20 = some (.iconst 2, 1) := by decide +kernel
theorem i_X9_mayMove_21 : xi_dc cX9_mayMove 21 = some (.irem, 1) := by decide +kernel
theorem i_X9_mayMove_22 : xi_dc cX9_mayMove 22 = some (.ifCond .ne 18, 3) := by decide +kernel
theorem t_X9_mayMove_22 : ((22 : Nat) : Int) + 18 = ((40 : Nat) : Int) := by decide +kernel
theorem i_X9_mayMove_25 : xi_dc cX9_mayMove 25 = some (.iload_n 3, 1) := by decide +kernel
theorem i_X9_mayMove_26 : xi_dc cX9_mayMove 26 = some (.aload_n 0, 1) := by decide +kernel
theorem i_X9_mayMove_27 : xi_dc cX9_mayMove 27 = some (.bipush 6, 2) := by decide +kernel
theorem i_X9_mayMove_29 : xi_dc cX9_mayMove 29 = some (.iload_n 1, 1) := by decide +kernel
theorem i_X9_mayMove_30 : xi_dc cX9_mayMove 30 = some (.iadd, 1) := by decide +kernel
theorem i_X9_mayMove_31 : xi_dc cX9_mayMove 31 = some (.iconst 1, 1) := by decide +kernel
theorem i_X9_mayMove_32 : xi_dc cX9_mayMove 32 = some (.iadd, 1) := by decide +kernel
theorem i_X9_mayMove_33 : xi_dc cX9_mayMove 33 = some (.iaload, 1) := by decide +kernel
theorem i_X9_mayMove_34 : xi_dc cX9_mayMove 34 = some (.if_icmp .ge 22, 3) := by decide +kernel
theorem t_X9_mayMove_34 : ((34 : Nat) : Int) + 22 = ((56 : Nat) : Int) := by decide +kernel
theorem i_X9_mayMove_37 : xi_dc cX9_mayMove 37 = some (.goto 15, 3) := by decide +kernel
theorem t_X9_mayMove_37 : ((37 : Nat) : Int) + 15 = ((52 : Nat) : Int) := by decide +kernel
theorem i_X9_mayMove_40 : xi_dc cX9_mayMove 40 = some (.iload_n 3, 1) := by decide +kernel
theorem i_X9_mayMove_41 : xi_dc cX9_mayMove 41 = some (.aload_n 0, 1) := by decide +kernel
theorem i_X9_mayMove_42 : xi_dc cX9_mayMove 42 = some (.bipush 6, 2) := by decide +kernel
theorem i_X9_mayMove_44 : xi_dc cX9_mayMove 44 = some (.iload_n 1, 1) := by decide +kernel
theorem i_X9_mayMove_45 : xi_dc cX9_mayMove 45 = some (.iadd, 1) := by decide +kernel
theorem i_X9_mayMove_46 : xi_dc cX9_mayMove 46 = some (.iconst 1, 1) := by decide +kernel
theorem i_X9_mayMove_47 : xi_dc cX9_mayMove 47 = some (.isub, 1) := by decide +kernel
theorem i_X9_mayMove_48 : xi_dc cX9_mayMove 48 = some (.iaload, 1) := by decide +kernel
theorem i_X9_mayMove_49 : xi_dc cX9_mayMove 49 = some (.if_icmp .le 7, 3) := by decide +kernel
theorem t_X9_mayMove_49 : ((49 : Nat) : Int) + 7 = ((56 : Nat) : Int) := by decide +kernel
theorem i_X9_mayMove_52 : xi_dc cX9_mayMove 52 = some (.iconst 1, 1) := by decide +kernel
theorem i_X9_mayMove_53 : xi_dc cX9_mayMove 53 = some (.goto 4, 3) := by decide +kernel
theorem t_X9_mayMove_53 : ((53 : Nat) : Int) + 4 = ((57 : Nat) : Int) := by decide +kernel
theorem i_X9_mayMove_56 : xi_dc cX9_mayMove 56 = some (.iconst 0, 1) := by decide +kernel
theorem i_X9_mayMove_57 : xi_dc cX9_mayMove 57 = some (.ireturn, 1) := by decide +kernel
def P_X9_mayMove (S : xi_S) : xi_P := (xi_dc cX9_mayMove, xi_tab xfl_X9, xi_tab xki_X9, xi_tab xkl_X9, xi_tab xcs_X9, xi_tab xcv_X9, xi_calls [(63, xi_wS 3 (F_X9_in0 S))], xi_calls [], 2)
theorem cc_X9_mayMove_63 (S : xi_S) (a0 : Int32) (a1 : Int32) (a2 : Int32) (m : xi_M) : (P_X9_mayMove S).2.2.2.2.2.2.1 63 [.int a0, .int a1, .int a2] m = (E_X9_in0 S a0 a1 a2 m) := by
  show xi_calls [(63, xi_wS 3 (F_X9_in0 S))] 63 [.int a0, .int a1, .int a2] m = _
  refine Eq.trans (b := xi_wS 3 (F_X9_in0 S) [.int a0, .int a1, .int a2] m) (xi_calls_hit rfl) ?_
  exact xi_wS_eq rfl
def E_X9_mayMove (S : xi_S) (v0 : Nat) (v1 : Int32) (v2 : Int32) (m : xi_M) : Option xi_R :=
  if S.1 v0 = 0 ∧ ¬ ((((Int8.ofInt 6).toInt32) + v1) < 0 ∨ S.2.1 v0 ≤ Int32.toNatClampNeg (((Int8.ofInt 6).toInt32) + v1)) then
    xi_bI (E_X9_in0 S ((m.1 v0 (Int32.toNatClampNeg (((Int8.ofInt 6).toInt32) + v1))) + v2) (Int32.ofInt 0) ((Int8.ofInt 20).toInt32) m) fun x3 m2 =>
    if x3 = 0 then
      if (Int32.ofInt 0) = 0 ∨ (Int32.ofInt 0) = 1 then some (some (.int (Int32.ofInt 0)), m2) else none
    else
      if (Int32.ofInt 2) = 0 then none else
      if (v1 - v1 / (Int32.ofInt 2) * (Int32.ofInt 2)) = 0 then
        if S.1 v0 = 0 ∧ ¬ (((((Int8.ofInt 6).toInt32) + v1) + (Int32.ofInt 1)) < 0 ∨ S.2.1 v0 ≤ Int32.toNatClampNeg ((((Int8.ofInt 6).toInt32) + v1) + (Int32.ofInt 1))) then
          if (m2.1 v0 (Int32.toNatClampNeg ((((Int8.ofInt 6).toInt32) + v1) + (Int32.ofInt 1)))) ≤ ((m.1 v0 (Int32.toNatClampNeg (((Int8.ofInt 6).toInt32) + v1))) + v2) then
            if (Int32.ofInt 0) = 0 ∨ (Int32.ofInt 0) = 1 then some (some (.int (Int32.ofInt 0)), m2) else none
          else
            if (Int32.ofInt 1) = 0 ∨ (Int32.ofInt 1) = 1 then some (some (.int (Int32.ofInt 1)), m2) else none
        else none
      else
        if S.1 v0 = 0 ∧ ¬ (((((Int8.ofInt 6).toInt32) + v1) - (Int32.ofInt 1)) < 0 ∨ S.2.1 v0 ≤ Int32.toNatClampNeg ((((Int8.ofInt 6).toInt32) + v1) - (Int32.ofInt 1))) then
          if ((m.1 v0 (Int32.toNatClampNeg (((Int8.ofInt 6).toInt32) + v1))) + v2) ≤ (m2.1 v0 (Int32.toNatClampNeg ((((Int8.ofInt 6).toInt32) + v1) - (Int32.ofInt 1)))) then
            if (Int32.ofInt 0) = 0 ∨ (Int32.ofInt 0) = 1 then some (some (.int (Int32.ofInt 0)), m2) else none
          else
            if (Int32.ofInt 1) = 0 ∨ (Int32.ofInt 1) = 1 then some (some (.int (Int32.ofInt 1)), m2) else none
        else none
  else none
def F_X9_mayMove (S : xi_S) : xi_F := fun As m => match As with
  | [.ref v0, .int v1, .int v2] => E_X9_mayMove S v0 v1 v2 m
  | _ => none
set_option maxRecDepth 100000 in
set_option maxHeartbeats 4000000 in
theorem xe_X9_mayMove {S : xi_S} {res : xi_R} (v0 : Nat) (v1 : Int32) (v2 : Int32) (m : xi_M) (h : E_X9_mayMove S v0 v1 v2 m = some res) : xi_X S (P_X9_mayMove S) (0, [some (.ref v0), some (.int v1), some (.int v2), none], [], m) res := by
  unfold E_X9_mayMove at h
  refine xr_aload_n i_X9_mayMove_0 rfl (q := 1) rfl ?_
  refine xr_bipush i_X9_mayMove_1 (q := 3) rfl ?_
  refine xr_iload_n i_X9_mayMove_3 rfl (q := 4) rfl ?_
  refine xr_iadd i_X9_mayMove_4 (q := 5) rfl ?_
  obtain ⟨c1, h⟩ := xi_if_some h
  refine xr_iaload i_X9_mayMove_5 c1 (q := 6) rfl ?_
  refine xr_iload_n i_X9_mayMove_6 rfl (q := 7) rfl ?_
  refine xr_iadd i_X9_mayMove_7 (q := 8) rfl ?_
  refine xr_istore_n i_X9_mayMove_8 rfl (L2 := [some (.ref v0), some (.int v1), some (.int v2), some (.int ((m.1 v0 (Int32.toNatClampNeg (((Int8.ofInt 6).toInt32) + v1))) + v2))]) rfl (q := 9) rfl ?_
  refine xr_iload_n i_X9_mayMove_9 rfl (q := 10) rfl ?_
  refine xr_iconst i_X9_mayMove_10 (q := 11) rfl ?_
  refine xr_bipush i_X9_mayMove_11 (q := 13) rfl ?_
  obtain ⟨x3, m2, em2, h⟩ := xi_bI_some h
  refine xr_SI i_X9_mayMove_13 xcse_X9_63 rfl (As := [.int ((m.1 v0 (Int32.toNatClampNeg (((Int8.ofInt 6).toInt32) + v1))) + v2), .int (Int32.ofInt 0), .int ((Int8.ofInt 20).toInt32)]) rfl (rest := []) rfl ((cc_X9_mayMove_63 S _ _ _ _).trans em2) (q := 16) rfl ?_
  by_cases c10 : x3 = 0
  · replace h := (if_pos c10).symm.trans h
    refine xr_ifCond_eq_p i_X9_mayMove_16 c10 (q := 56) t_X9_mayMove_16 (q2 := 19) rfl ?_
    refine xr_iconst i_X9_mayMove_56 (q := 57) rfl ?_
    exact xr_zreturn i_X9_mayMove_57 rfl h
  · replace h := (if_neg c10).symm.trans h
    refine xr_ifCond_eq_n i_X9_mayMove_16 c10 (q := 56) t_X9_mayMove_16 (q2 := 19) rfl ?_
    refine xr_iload_n i_X9_mayMove_19 rfl (q := 20) rfl ?_
    refine xr_iconst i_X9_mayMove_20 (q := 21) rfl ?_
    obtain ⟨c4, h⟩ := xi_ifn_some h
    refine xr_irem i_X9_mayMove_21 c4 (q := 22) rfl ?_
    by_cases c9 : (v1 - v1 / (Int32.ofInt 2) * (Int32.ofInt 2)) = 0
    · replace h := (if_pos c9).symm.trans h
      refine xr_ifCond_ne_p i_X9_mayMove_22 c9 (q := 40) t_X9_mayMove_22 (q2 := 25) rfl ?_
      refine xr_iload_n i_X9_mayMove_25 rfl (q := 26) rfl ?_
      refine xr_aload_n i_X9_mayMove_26 rfl (q := 27) rfl ?_
      refine xr_bipush i_X9_mayMove_27 (q := 29) rfl ?_
      refine xr_iload_n i_X9_mayMove_29 rfl (q := 30) rfl ?_
      refine xr_iadd i_X9_mayMove_30 (q := 31) rfl ?_
      refine xr_iconst i_X9_mayMove_31 (q := 32) rfl ?_
      refine xr_iadd i_X9_mayMove_32 (q := 33) rfl ?_
      obtain ⟨c7, h⟩ := xi_if_some h
      refine xr_iaload i_X9_mayMove_33 c7 (q := 34) rfl ?_
      by_cases c8 : (m2.1 v0 (Int32.toNatClampNeg ((((Int8.ofInt 6).toInt32) + v1) + (Int32.ofInt 1)))) ≤ ((m.1 v0 (Int32.toNatClampNeg (((Int8.ofInt 6).toInt32) + v1))) + v2)
      · replace h := (if_pos c8).symm.trans h
        refine xr_if_icmp_ge_p i_X9_mayMove_34 c8 (q := 56) t_X9_mayMove_34 (q2 := 37) rfl ?_
        refine xr_iconst i_X9_mayMove_56 (q := 57) rfl ?_
        exact xr_zreturn i_X9_mayMove_57 rfl h
      · replace h := (if_neg c8).symm.trans h
        refine xr_if_icmp_ge_n i_X9_mayMove_34 c8 (q := 56) t_X9_mayMove_34 (q2 := 37) rfl ?_
        refine xr_goto i_X9_mayMove_37 (q := 52) t_X9_mayMove_37 ?_
        refine xr_iconst i_X9_mayMove_52 (q := 53) rfl ?_
        refine xr_goto i_X9_mayMove_53 (q := 57) t_X9_mayMove_53 ?_
        exact xr_zreturn i_X9_mayMove_57 rfl h
    · replace h := (if_neg c9).symm.trans h
      refine xr_ifCond_ne_n i_X9_mayMove_22 c9 (q := 40) t_X9_mayMove_22 (q2 := 25) rfl ?_
      refine xr_iload_n i_X9_mayMove_40 rfl (q := 41) rfl ?_
      refine xr_aload_n i_X9_mayMove_41 rfl (q := 42) rfl ?_
      refine xr_bipush i_X9_mayMove_42 (q := 44) rfl ?_
      refine xr_iload_n i_X9_mayMove_44 rfl (q := 45) rfl ?_
      refine xr_iadd i_X9_mayMove_45 (q := 46) rfl ?_
      refine xr_iconst i_X9_mayMove_46 (q := 47) rfl ?_
      refine xr_isub i_X9_mayMove_47 (q := 48) rfl ?_
      obtain ⟨c5, h⟩ := xi_if_some h
      refine xr_iaload i_X9_mayMove_48 c5 (q := 49) rfl ?_
      by_cases c6 : ((m.1 v0 (Int32.toNatClampNeg (((Int8.ofInt 6).toInt32) + v1))) + v2) ≤ (m2.1 v0 (Int32.toNatClampNeg ((((Int8.ofInt 6).toInt32) + v1) - (Int32.ofInt 1))))
      · replace h := (if_pos c6).symm.trans h
        refine xr_if_icmp_le_p i_X9_mayMove_49 c6 (q := 56) t_X9_mayMove_49 (q2 := 52) rfl ?_
        refine xr_iconst i_X9_mayMove_56 (q := 57) rfl ?_
        exact xr_zreturn i_X9_mayMove_57 rfl h
      · replace h := (if_neg c6).symm.trans h
        refine xr_if_icmp_le_n i_X9_mayMove_49 c6 (q := 56) t_X9_mayMove_49 (q2 := 52) rfl ?_
        refine xr_iconst i_X9_mayMove_52 (q := 53) rfl ?_
        refine xr_goto i_X9_mayMove_53 (q := 57) t_X9_mayMove_53 ?_
        exact xr_zreturn i_X9_mayMove_57 rfl h
set_option maxRecDepth 100000 in
theorem po_X9_mayMove {l : Launch} {E : xi_E} {S : xi_S} {D : va_G} {tys : List (ClassId × FieldType)} (hC : xCx E S tys) : xi_Pok l E S D vwCl tys xNs RX9 xTs cX9_mayMove 4 1 (P_X9_mayMove S) := ⟨xi_dc_ok, by rw [hC.2]; exact xfo_X9, xkio_X9, xklo_X9, xi_calls_ok (ins := .invokestatic) (List.forall_mem_cons.mpr ⟨(xc_X9_63 (sn_X9_in0 hC) (by decide)), fun _ h => absurd h List.not_mem_nil⟩), xi_calls_ok (ins := .invokevirtual) (fun _ h => absurd h List.not_mem_nil)⟩
theorem sn_X9_mayMove {l : Launch} {E : xi_E} {S : xi_S} {D : va_G} {tys : List (ClassId × FieldType)} (hC : xCx E S tys) : ∀ As m1 r m2, F_X9_mayMove S As m1 = some (r, m2) → xi_Sound l E S D vwCl tys xNs xTs yX9_mayMove cX9_mayMove 4 (some .boolean) 1 As m1 r m2 := by
  intro As m1 r m2 h
  unfold F_X9_mayMove at h
  split at h
  · exact xi_meth (P := P_X9_mayMove S) (by decide) hC.1 (po_X9_mayMove hC) (Nat.le_of_ble_eq_true rfl) rfl (xe_X9_mayMove _ _ _ _ h)
  · exact xi_no h
theorem i_X9_seenBy_0 : xi_dc cX9_seenBy 0 = some (.iconst 0, 1) := by decide +kernel
theorem i_X9_seenBy_1 : xi_dc cX9_seenBy 1 = some (.istore_n 2, 1) := by decide +kernel
theorem i_X9_seenBy_2 : xi_dc cX9_seenBy 2 = some (.iconst 0, 1) := by decide +kernel
theorem i_X9_seenBy_3 : xi_dc cX9_seenBy 3 = some (.istore_n 3, 1) := by decide +kernel
theorem i_X9_seenBy_4 : xi_dc cX9_seenBy 4 = some (.iload_n 3, 1) := by decide +kernel
theorem i_X9_seenBy_5 : xi_dc cX9_seenBy 5 = some (.aload_n 0, 1) := by decide +kernel
theorem i_X9_seenBy_6 : xi_dc cX9_seenBy 6 = some (.iconst 1, 1) := by decide +kernel
theorem i_X9_seenBy_7 : xi_dc cX9_seenBy 7 = some (.iaload, 1) := by decide +kernel
theorem i_X9_seenBy_8 : xi_dc cX9_seenBy 8 = some (.if_icmp .ge 58, 3) := by decide +kernel
theorem t_X9_seenBy_8 : ((8 : Nat) : Int) + 58 = ((66 : Nat) : Int) := by decide +kernel
theorem i_X9_seenBy_11 : xi_dc cX9_seenBy 11 = some (.iload_n 2, 1) := by decide +kernel
theorem i_X9_seenBy_12 : xi_dc cX9_seenBy 12 = some (.aload_n 0, 1) := by decide +kernel
theorem i_X9_seenBy_13 : xi_dc cX9_seenBy 13 = some (.bipush 10, 2) := by decide +kernel
theorem i_X9_seenBy_15 : xi_dc cX9_seenBy 15 = some (.iconst 4, 1) := by decide +kernel
theorem i_X9_seenBy_16 : xi_dc cX9_seenBy 16 = some (.iload_n 3, 1) := by decide +kernel
theorem i_X9_seenBy_17 : xi_dc cX9_seenBy 17 = some (.imul, 1) := by decide +kernel
theorem i_X9_seenBy_18 : xi_dc cX9_seenBy 18 = some (.iadd, 1) := by decide +kernel
theorem i_X9_seenBy_19 : xi_dc cX9_seenBy 19 = some (.iconst 1, 1) := by decide +kernel
theorem i_X9_seenBy_20 : xi_dc cX9_seenBy 20 = some (.iadd, 1) := by decide +kernel
theorem i_X9_seenBy_21 : xi_dc cX9_seenBy 21 = some (.iaload, 1) := by decide +kernel
theorem i_X9_seenBy_22 : xi_dc cX9_seenBy 22 = some (.iload_n 1, 1) := by decide +kernel
theorem i_X9_seenBy_23 : xi_dc cX9_seenBy 23 = some (.iconst 2, 1) := by decide +kernel
theorem i_X9_seenBy_24 : xi_dc cX9_seenBy 24 = some (.idiv, 1) := by decide +kernel
theorem i_X9_seenBy_25 : xi_dc cX9_seenBy 25 = some (.if_icmp .ne 32, 3) := by decide +kernel
theorem t_X9_seenBy_25 : ((25 : Nat) : Int) + 32 = ((57 : Nat) : Int) := by decide +kernel
theorem i_X9_seenBy_28 : xi_dc cX9_seenBy 28 = some (.aload_n 0, 1) := by decide +kernel
theorem i_X9_seenBy_29 : xi_dc cX9_seenBy 29 = some (.bipush 10, 2) := by decide +kernel
theorem i_X9_seenBy_31 : xi_dc cX9_seenBy 31 = some (.iconst 4, 1) := by decide +kernel
theorem i_X9_seenBy_32 : xi_dc cX9_seenBy 32 = some (.iload_n 3, 1) := by decide +kernel
theorem i_X9_seenBy_33 : xi_dc cX9_seenBy 33 = some (.imul, 1) := by decide +kernel
theorem i_X9_seenBy_34 : xi_dc cX9_seenBy 34 = some (.iadd, 1) := by decide +kernel
theorem i_X9_seenBy_35 : xi_dc cX9_seenBy 35 = some (.iconst 2, 1) := by decide +kernel
theorem i_X9_seenBy_36 : xi_dc cX9_seenBy 36 = some (.iadd, 1) := by decide +kernel
theorem i_X9_seenBy_37 : xi_dc cX9_seenBy 37 = some (.iaload, 1) := by decide +kernel
theorem i_X9_seenBy_38 : xi_dc cX9_seenBy 38 = some (.aload_n 0, 1) := by decide +kernel
theorem i_X9_seenBy_39 : xi_dc cX9_seenBy 39 = some (.bipush 6, 2) := by decide +kernel
theorem i_X9_seenBy_41 : xi_dc cX9_seenBy 41 = some (.iload_n 1, 1) := by decide +kernel
theorem i_X9_seenBy_42 : xi_dc cX9_seenBy 42 = some (.iadd, 1) := by decide +kernel
theorem i_X9_seenBy_43 : xi_dc cX9_seenBy 43 = some (.iaload, 1) := by decide +kernel
theorem i_X9_seenBy_44 : xi_dc cX9_seenBy 44 = some (.invokestatic 136, 3) := by decide +kernel
theorem i_X9_seenBy_47 : xi_dc cX9_seenBy 47 = some (.iconst 3, 1) := by decide +kernel
theorem i_X9_seenBy_48 : xi_dc cX9_seenBy 48 = some (.if_icmp .gt 9, 3) := by decide +kernel
theorem t_X9_seenBy_48 : ((48 : Nat) : Int) + 9 = ((57 : Nat) : Int) := by decide +kernel
theorem i_X9_seenBy_51 : xi_dc cX9_seenBy 51 = some (.iconst 1, 1) := by decide +kernel
theorem i_X9_seenBy_52 : xi_dc cX9_seenBy 52 = some (.iload_n 3, 1) := by decide +kernel
theorem i_X9_seenBy_53 : xi_dc cX9_seenBy 53 = some (.ishl, 1) := by decide +kernel
theorem i_X9_seenBy_54 : xi_dc cX9_seenBy 54 = some (.goto 4, 3) := by decide +kernel
theorem t_X9_seenBy_54 : ((54 : Nat) : Int) + 4 = ((58 : Nat) : Int) := by decide +kernel
theorem i_X9_seenBy_57 : xi_dc cX9_seenBy 57 = some (.iconst 0, 1) := by decide +kernel
theorem i_X9_seenBy_58 : xi_dc cX9_seenBy 58 = some (.ior, 1) := by decide +kernel
theorem i_X9_seenBy_59 : xi_dc cX9_seenBy 59 = some (.istore_n 2, 1) := by decide +kernel
theorem i_X9_seenBy_60 : xi_dc cX9_seenBy 60 = some (.iinc 3 1, 3) := by decide +kernel
theorem i_X9_seenBy_63 : xi_dc cX9_seenBy 63 = some (.goto (-59), 3) := by decide +kernel
theorem t_X9_seenBy_63 : ((63 : Nat) : Int) + (-59) = ((4 : Nat) : Int) := by decide +kernel
theorem i_X9_seenBy_66 : xi_dc cX9_seenBy 66 = some (.iload_n 2, 1) := by decide +kernel
theorem i_X9_seenBy_67 : xi_dc cX9_seenBy 67 = some (.ireturn, 1) := by decide +kernel
def P_X9_seenBy (S : xi_S) : xi_P := (xi_dc cX9_seenBy, xi_tab xfl_X9, xi_tab xki_X9, xi_tab xkl_X9, xi_tab xcs_X9, xi_tab xcv_X9, xi_calls [(136, xi_wS 2 (F_X9_apart S))], xi_calls [], 1)
theorem cc_X9_seenBy_136 (S : xi_S) (a0 : Int32) (a1 : Int32) (m : xi_M) : (P_X9_seenBy S).2.2.2.2.2.2.1 136 [.int a0, .int a1] m = (E_X9_apart S a0 a1 m) := by
  show xi_calls [(136, xi_wS 2 (F_X9_apart S))] 136 [.int a0, .int a1] m = _
  refine Eq.trans (b := xi_wS 2 (F_X9_apart S) [.int a0, .int a1] m) (xi_calls_hit rfl) ?_
  exact xi_wS_eq rfl
def G_X9_seenBy_4 (S : xi_S) : Nat → Nat → Int32 → Int32 → Int32 → xi_M → Option xi_R
  | 0, _, _, _, _, _ => none
  | n + 1, v0, v1, v2, v3, m =>
    if S.1 v0 = 0 ∧ ¬ ((Int32.ofInt 1) < 0 ∨ S.2.1 v0 ≤ Int32.toNatClampNeg (Int32.ofInt 1)) then
      if (m.1 v0 (Int32.toNatClampNeg (Int32.ofInt 1))) ≤ v3 then
        some (some (.int v2), m)
      else
        if S.1 v0 = 0 ∧ ¬ (((((Int8.ofInt 10).toInt32) + ((Int32.ofInt 4) * v3)) + (Int32.ofInt 1)) < 0 ∨ S.2.1 v0 ≤ Int32.toNatClampNeg ((((Int8.ofInt 10).toInt32) + ((Int32.ofInt 4) * v3)) + (Int32.ofInt 1))) then
          if (Int32.ofInt 2) = 0 then none else
          if (m.1 v0 (Int32.toNatClampNeg ((((Int8.ofInt 10).toInt32) + ((Int32.ofInt 4) * v3)) + (Int32.ofInt 1)))) = (v1 / (Int32.ofInt 2)) then
            if S.1 v0 = 0 ∧ ¬ (((((Int8.ofInt 10).toInt32) + ((Int32.ofInt 4) * v3)) + (Int32.ofInt 2)) < 0 ∨ S.2.1 v0 ≤ Int32.toNatClampNeg ((((Int8.ofInt 10).toInt32) + ((Int32.ofInt 4) * v3)) + (Int32.ofInt 2))) then
              if S.1 v0 = 0 ∧ ¬ ((((Int8.ofInt 6).toInt32) + v1) < 0 ∨ S.2.1 v0 ≤ Int32.toNatClampNeg (((Int8.ofInt 6).toInt32) + v1)) then
                xi_bI (E_X9_apart S (m.1 v0 (Int32.toNatClampNeg ((((Int8.ofInt 10).toInt32) + ((Int32.ofInt 4) * v3)) + (Int32.ofInt 2)))) (m.1 v0 (Int32.toNatClampNeg (((Int8.ofInt 6).toInt32) + v1))) m) fun x7 m6 =>
                if (Int32.ofInt 3) < x7 then
                  G_X9_seenBy_4 S n v0 v1 (v2 ||| (Int32.ofInt 0)) (v3 + Int32.ofInt 1) m6
                else
                  G_X9_seenBy_4 S n v0 v1 (v2 ||| ((Int32.ofInt 1) <<< (v3 &&& 31))) (v3 + Int32.ofInt 1) m6
              else none
            else none
          else
            G_X9_seenBy_4 S n v0 v1 (v2 ||| (Int32.ofInt 0)) (v3 + Int32.ofInt 1) m
        else none
    else none
set_option maxRecDepth 100000 in
set_option maxHeartbeats 4000000 in
theorem xs_X9_seenBy_4 {S : xi_S} {res : xi_R} : ∀ (n : Nat) (v0 : Nat) (v1 : Int32) (v2 : Int32) (v3 : Int32) (m : xi_M), G_X9_seenBy_4 S n v0 v1 v2 v3 m = some res → xi_X S (P_X9_seenBy S) (4, [some (.ref v0), some (.int v1), some (.int v2), some (.int v3)], [], m) res := by
  intro n
  induction n with
  | zero => intro v0 v1 v2 v3 m h; exact xi_no h
  | succ n ih =>
    intro v0 v1 v2 v3 m h
    unfold G_X9_seenBy_4 at h
    refine xr_iload_n i_X9_seenBy_4 rfl (q := 5) rfl ?_
    refine xr_aload_n i_X9_seenBy_5 rfl (q := 6) rfl ?_
    refine xr_iconst i_X9_seenBy_6 (q := 7) rfl ?_
    obtain ⟨c1, h⟩ := xi_if_some h
    refine xr_iaload i_X9_seenBy_7 c1 (q := 8) rfl ?_
    by_cases c10 : (m.1 v0 (Int32.toNatClampNeg (Int32.ofInt 1))) ≤ v3
    · replace h := (if_pos c10).symm.trans h
      refine xr_if_icmp_ge_p i_X9_seenBy_8 c10 (q := 66) t_X9_seenBy_8 (q2 := 11) rfl ?_
      refine xr_iload_n i_X9_seenBy_66 rfl (q := 67) rfl ?_
      exact xr_ireturn i_X9_seenBy_67 rfl h
    · replace h := (if_neg c10).symm.trans h
      refine xr_if_icmp_ge_n i_X9_seenBy_8 c10 (q := 66) t_X9_seenBy_8 (q2 := 11) rfl ?_
      refine xr_iload_n i_X9_seenBy_11 rfl (q := 12) rfl ?_
      refine xr_aload_n i_X9_seenBy_12 rfl (q := 13) rfl ?_
      refine xr_bipush i_X9_seenBy_13 (q := 15) rfl ?_
      refine xr_iconst i_X9_seenBy_15 (q := 16) rfl ?_
      refine xr_iload_n i_X9_seenBy_16 rfl (q := 17) rfl ?_
      refine xr_imul i_X9_seenBy_17 (q := 18) rfl ?_
      refine xr_iadd i_X9_seenBy_18 (q := 19) rfl ?_
      refine xr_iconst i_X9_seenBy_19 (q := 20) rfl ?_
      refine xr_iadd i_X9_seenBy_20 (q := 21) rfl ?_
      obtain ⟨c2, h⟩ := xi_if_some h
      refine xr_iaload i_X9_seenBy_21 c2 (q := 22) rfl ?_
      refine xr_iload_n i_X9_seenBy_22 rfl (q := 23) rfl ?_
      refine xr_iconst i_X9_seenBy_23 (q := 24) rfl ?_
      obtain ⟨c3, h⟩ := xi_ifn_some h
      refine xr_idiv i_X9_seenBy_24 c3 (q := 25) rfl ?_
      by_cases c9 : (m.1 v0 (Int32.toNatClampNeg ((((Int8.ofInt 10).toInt32) + ((Int32.ofInt 4) * v3)) + (Int32.ofInt 1)))) = (v1 / (Int32.ofInt 2))
      · replace h := (if_pos c9).symm.trans h
        refine xr_if_icmp_ne_p i_X9_seenBy_25 c9 (q := 57) t_X9_seenBy_25 (q2 := 28) rfl ?_
        refine xr_aload_n i_X9_seenBy_28 rfl (q := 29) rfl ?_
        refine xr_bipush i_X9_seenBy_29 (q := 31) rfl ?_
        refine xr_iconst i_X9_seenBy_31 (q := 32) rfl ?_
        refine xr_iload_n i_X9_seenBy_32 rfl (q := 33) rfl ?_
        refine xr_imul i_X9_seenBy_33 (q := 34) rfl ?_
        refine xr_iadd i_X9_seenBy_34 (q := 35) rfl ?_
        refine xr_iconst i_X9_seenBy_35 (q := 36) rfl ?_
        refine xr_iadd i_X9_seenBy_36 (q := 37) rfl ?_
        obtain ⟨c4, h⟩ := xi_if_some h
        refine xr_iaload i_X9_seenBy_37 c4 (q := 38) rfl ?_
        refine xr_aload_n i_X9_seenBy_38 rfl (q := 39) rfl ?_
        refine xr_bipush i_X9_seenBy_39 (q := 41) rfl ?_
        refine xr_iload_n i_X9_seenBy_41 rfl (q := 42) rfl ?_
        refine xr_iadd i_X9_seenBy_42 (q := 43) rfl ?_
        obtain ⟨c5, h⟩ := xi_if_some h
        refine xr_iaload i_X9_seenBy_43 c5 (q := 44) rfl ?_
        obtain ⟨x7, m6, em6, h⟩ := xi_bI_some h
        refine xr_SI i_X9_seenBy_44 xcse_X9_136 rfl (As := [.int (m.1 v0 (Int32.toNatClampNeg ((((Int8.ofInt 10).toInt32) + ((Int32.ofInt 4) * v3)) + (Int32.ofInt 2)))), .int (m.1 v0 (Int32.toNatClampNeg (((Int8.ofInt 6).toInt32) + v1)))]) rfl (rest := [.int v2]) rfl ((cc_X9_seenBy_136 S _ _ _).trans em6) (q := 47) rfl ?_
        refine xr_iconst i_X9_seenBy_47 (q := 48) rfl ?_
        by_cases c8 : (Int32.ofInt 3) < x7
        · replace h := (if_pos c8).symm.trans h
          refine xr_if_icmp_gt_p i_X9_seenBy_48 c8 (q := 57) t_X9_seenBy_48 (q2 := 51) rfl ?_
          refine xr_iconst i_X9_seenBy_57 (q := 58) rfl ?_
          refine xr_ior i_X9_seenBy_58 (q := 59) rfl ?_
          refine xr_istore_n i_X9_seenBy_59 rfl (L2 := [some (.ref v0), some (.int v1), some (.int (v2 ||| (Int32.ofInt 0))), some (.int v3)]) rfl (q := 60) rfl ?_
          refine xr_iinc i_X9_seenBy_60 rfl rfl (L2 := [some (.ref v0), some (.int v1), some (.int (v2 ||| (Int32.ofInt 0))), some (.int (v3 + Int32.ofInt 1))]) rfl (q := 63) rfl ?_
          refine xr_goto i_X9_seenBy_63 (q := 4) t_X9_seenBy_63 ?_
          exact xi_X_le (xi_le_s (xi_le_s (xi_le_s (xi_le_s xi_le_z)))) (ih _ _ _ _ _ h)
        · replace h := (if_neg c8).symm.trans h
          refine xr_if_icmp_gt_n i_X9_seenBy_48 c8 (q := 57) t_X9_seenBy_48 (q2 := 51) rfl ?_
          refine xr_iconst i_X9_seenBy_51 (q := 52) rfl ?_
          refine xr_iload_n i_X9_seenBy_52 rfl (q := 53) rfl ?_
          refine xr_ishl i_X9_seenBy_53 (q := 54) rfl ?_
          refine xr_goto i_X9_seenBy_54 (q := 58) t_X9_seenBy_54 ?_
          refine xr_ior i_X9_seenBy_58 (q := 59) rfl ?_
          refine xr_istore_n i_X9_seenBy_59 rfl (L2 := [some (.ref v0), some (.int v1), some (.int (v2 ||| ((Int32.ofInt 1) <<< (v3 &&& 31)))), some (.int v3)]) rfl (q := 60) rfl ?_
          refine xr_iinc i_X9_seenBy_60 rfl rfl (L2 := [some (.ref v0), some (.int v1), some (.int (v2 ||| ((Int32.ofInt 1) <<< (v3 &&& 31)))), some (.int (v3 + Int32.ofInt 1))]) rfl (q := 63) rfl ?_
          refine xr_goto i_X9_seenBy_63 (q := 4) t_X9_seenBy_63 ?_
          exact xi_X_le (xi_le_s (xi_le_s (xi_le_s (xi_le_s xi_le_z)))) (ih _ _ _ _ _ h)
      · replace h := (if_neg c9).symm.trans h
        refine xr_if_icmp_ne_n i_X9_seenBy_25 c9 (q := 57) t_X9_seenBy_25 (q2 := 28) rfl ?_
        refine xr_iconst i_X9_seenBy_57 (q := 58) rfl ?_
        refine xr_ior i_X9_seenBy_58 (q := 59) rfl ?_
        refine xr_istore_n i_X9_seenBy_59 rfl (L2 := [some (.ref v0), some (.int v1), some (.int (v2 ||| (Int32.ofInt 0))), some (.int v3)]) rfl (q := 60) rfl ?_
        refine xr_iinc i_X9_seenBy_60 rfl rfl (L2 := [some (.ref v0), some (.int v1), some (.int (v2 ||| (Int32.ofInt 0))), some (.int (v3 + Int32.ofInt 1))]) rfl (q := 63) rfl ?_
        refine xr_goto i_X9_seenBy_63 (q := 4) t_X9_seenBy_63 ?_
        exact xi_X_le (xi_le_s (xi_le_s (xi_le_s (xi_le_s xi_le_z)))) (ih _ _ _ _ _ h)
def E_X9_seenBy (S : xi_S) (v0 : Nat) (v1 : Int32) (m : xi_M) : Option xi_R :=
  G_X9_seenBy_4 S 10000 v0 v1 (Int32.ofInt 0) (Int32.ofInt 0) m
def F_X9_seenBy (S : xi_S) : xi_F := fun As m => match As with
  | [.ref v0, .int v1] => E_X9_seenBy S v0 v1 m
  | _ => none
set_option maxRecDepth 100000 in
set_option maxHeartbeats 4000000 in
theorem xe_X9_seenBy {S : xi_S} {res : xi_R} (v0 : Nat) (v1 : Int32) (m : xi_M) (h : E_X9_seenBy S v0 v1 m = some res) : xi_X S (P_X9_seenBy S) (0, [some (.ref v0), some (.int v1), none, none], [], m) res := by
  unfold E_X9_seenBy at h
  refine xr_iconst i_X9_seenBy_0 (q := 1) rfl ?_
  refine xr_istore_n i_X9_seenBy_1 rfl (L2 := [some (.ref v0), some (.int v1), some (.int (Int32.ofInt 0)), none]) rfl (q := 2) rfl ?_
  refine xr_iconst i_X9_seenBy_2 (q := 3) rfl ?_
  refine xr_istore_n i_X9_seenBy_3 rfl (L2 := [some (.ref v0), some (.int v1), some (.int (Int32.ofInt 0)), some (.int (Int32.ofInt 0))]) rfl (q := 4) rfl ?_
  exact xi_X_le (xi_le_s (xi_le_s (xi_le_s (xi_le_s xi_le_z)))) (xs_X9_seenBy_4 10000 _ _ _ _ _ h)
set_option maxRecDepth 100000 in
theorem po_X9_seenBy {l : Launch} {E : xi_E} {S : xi_S} {D : va_G} {tys : List (ClassId × FieldType)} (hC : xCx E S tys) : xi_Pok l E S D vwCl tys xNs RX9 xTs cX9_seenBy 4 1 (P_X9_seenBy S) := ⟨xi_dc_ok, by rw [hC.2]; exact xfo_X9, xkio_X9, xklo_X9, xi_calls_ok (ins := .invokestatic) (List.forall_mem_cons.mpr ⟨(xc_X9_136 (sn_X9_apart hC) (by decide)), fun _ h => absurd h List.not_mem_nil⟩), xi_calls_ok (ins := .invokevirtual) (fun _ h => absurd h List.not_mem_nil)⟩
theorem sn_X9_seenBy {l : Launch} {E : xi_E} {S : xi_S} {D : va_G} {tys : List (ClassId × FieldType)} (hC : xCx E S tys) : ∀ As m1 r m2, F_X9_seenBy S As m1 = some (r, m2) → xi_Sound l E S D vwCl tys xNs xTs yX9_seenBy cX9_seenBy 4 (some .int) 1 As m1 r m2 := by
  intro As m1 r m2 h
  unfold F_X9_seenBy at h
  split at h
  · exact xi_meth (P := P_X9_seenBy S) (by decide) hC.1 (po_X9_seenBy hC) (Nat.le_of_ble_eq_true rfl) rfl (xe_X9_seenBy _ _ _ h)
  · exact xi_no h
