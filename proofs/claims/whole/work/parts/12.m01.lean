theorem i_X0_first_0 : xi_dc cX0_first 0 = some (.iload_n 0, 1) := by decide +kernel
theorem i_X0_first_1 : xi_dc cX0_first 1 = some (.bipush 7, 2) := by decide +kernel
theorem i_X0_first_3 : xi_dc cX0_first 3 = some (.idiv, 1) := by decide +kernel
theorem i_X0_first_4 : xi_dc cX0_first 4 = some (.iconst 3, 1) := by decide +kernel
theorem i_X0_first_5 : xi_dc cX0_first 5 = some (.isub, 1) := by decide +kernel
theorem i_X0_first_6 : xi_dc cX0_first 6 = some (.ireturn, 1) := by decide +kernel
def P_X0_first (S : xi_S) : xi_P := (xi_dc cX0_first, xi_tab xfl_X0, xi_tab xki_X0, xi_tab xkl_X0, xi_tab xcs_X0, xi_tab xcv_X0, xi_calls [], xi_calls [], 1)
def E_X0_first (S : xi_S) (v0 : Int32) (m : xi_M) : Option xi_R :=
  if ((Int8.ofInt 7).toInt32) = 0 then none else
  some (some (.int ((v0 / ((Int8.ofInt 7).toInt32)) - (Int32.ofInt 3))), m)
def F_X0_first (S : xi_S) : xi_F := fun As m => match As with
  | [.int v0] => E_X0_first S v0 m
  | _ => none
set_option maxRecDepth 100000 in
set_option maxHeartbeats 4000000 in
theorem xe_X0_first {S : xi_S} {res : xi_R} (v0 : Int32) (m : xi_M) (h : E_X0_first S v0 m = some res) : xi_X S (P_X0_first S) (0, [some (.int v0)], [], m) res := by
  unfold E_X0_first at h
  refine xr_iload_n i_X0_first_0 rfl (q := 1) rfl ?_
  refine xr_bipush i_X0_first_1 (q := 3) rfl ?_
  obtain ⟨c1, h⟩ := xi_ifn_some h
  refine xr_idiv i_X0_first_3 c1 (q := 4) rfl ?_
  refine xr_iconst i_X0_first_4 (q := 5) rfl ?_
  refine xr_isub i_X0_first_5 (q := 6) rfl ?_
  exact xr_ireturn i_X0_first_6 rfl h
set_option maxRecDepth 100000 in
theorem po_X0_first {l : Launch} {E : xi_E} {S : xi_S} {D : va_G} {tys : List (ClassId × FieldType)} (hC : xCx E S tys) : xi_Pok l E S D vwCl tys xNs RX0 xTs cX0_first 1 0 (P_X0_first S) := ⟨xi_dc_ok, by rw [hC.2]; exact xfo_X0, xkio_X0, xklo_X0, xi_calls_ok (ins := .invokestatic) (fun _ h => absurd h List.not_mem_nil), xi_calls_ok (ins := .invokevirtual) (fun _ h => absurd h List.not_mem_nil)⟩
theorem sn_X0_first {l : Launch} {E : xi_E} {S : xi_S} {D : va_G} {tys : List (ClassId × FieldType)} (hC : xCx E S tys) : ∀ As m1 r m2, F_X0_first S As m1 = some (r, m2) → xi_Sound l E S D vwCl tys xNs xTs yX0_first cX0_first 1 (some .int) 0 As m1 r m2 := by
  intro As m1 r m2 h
  unfold F_X0_first at h
  split at h
  · exact xi_meth (P := P_X0_first S) (by decide) hC.1 (po_X0_first hC) (Nat.le_of_ble_eq_true rfl) rfl (xe_X0_first _ _ h)
  · exact xi_no h
theorem i_X0_second_0 : xi_dc cX0_second 0 = some (.iload_n 0, 1) := by decide +kernel
theorem i_X0_second_1 : xi_dc cX0_second 1 = some (.bipush 7, 2) := by decide +kernel
theorem i_X0_second_3 : xi_dc cX0_second 3 = some (.irem, 1) := by decide +kernel
theorem i_X0_second_4 : xi_dc cX0_second 4 = some (.iconst 3, 1) := by decide +kernel
theorem i_X0_second_5 : xi_dc cX0_second 5 = some (.isub, 1) := by decide +kernel
theorem i_X0_second_6 : xi_dc cX0_second 6 = some (.ireturn, 1) := by decide +kernel
def P_X0_second (S : xi_S) : xi_P := (xi_dc cX0_second, xi_tab xfl_X0, xi_tab xki_X0, xi_tab xkl_X0, xi_tab xcs_X0, xi_tab xcv_X0, xi_calls [], xi_calls [], 1)
def E_X0_second (S : xi_S) (v0 : Int32) (m : xi_M) : Option xi_R :=
  if ((Int8.ofInt 7).toInt32) = 0 then none else
  some (some (.int ((v0 - v0 / ((Int8.ofInt 7).toInt32) * ((Int8.ofInt 7).toInt32)) - (Int32.ofInt 3))), m)
def F_X0_second (S : xi_S) : xi_F := fun As m => match As with
  | [.int v0] => E_X0_second S v0 m
  | _ => none
set_option maxRecDepth 100000 in
set_option maxHeartbeats 4000000 in
theorem xe_X0_second {S : xi_S} {res : xi_R} (v0 : Int32) (m : xi_M) (h : E_X0_second S v0 m = some res) : xi_X S (P_X0_second S) (0, [some (.int v0)], [], m) res := by
  unfold E_X0_second at h
  refine xr_iload_n i_X0_second_0 rfl (q := 1) rfl ?_
  refine xr_bipush i_X0_second_1 (q := 3) rfl ?_
  obtain ⟨c1, h⟩ := xi_ifn_some h
  refine xr_irem i_X0_second_3 c1 (q := 4) rfl ?_
  refine xr_iconst i_X0_second_4 (q := 5) rfl ?_
  refine xr_isub i_X0_second_5 (q := 6) rfl ?_
  exact xr_ireturn i_X0_second_6 rfl h
set_option maxRecDepth 100000 in
theorem po_X0_second {l : Launch} {E : xi_E} {S : xi_S} {D : va_G} {tys : List (ClassId × FieldType)} (hC : xCx E S tys) : xi_Pok l E S D vwCl tys xNs RX0 xTs cX0_second 1 0 (P_X0_second S) := ⟨xi_dc_ok, by rw [hC.2]; exact xfo_X0, xkio_X0, xklo_X0, xi_calls_ok (ins := .invokestatic) (fun _ h => absurd h List.not_mem_nil), xi_calls_ok (ins := .invokevirtual) (fun _ h => absurd h List.not_mem_nil)⟩
theorem sn_X0_second {l : Launch} {E : xi_E} {S : xi_S} {D : va_G} {tys : List (ClassId × FieldType)} (hC : xCx E S tys) : ∀ As m1 r m2, F_X0_second S As m1 = some (r, m2) → xi_Sound l E S D vwCl tys xNs xTs yX0_second cX0_second 1 (some .int) 0 As m1 r m2 := by
  intro As m1 r m2 h
  unfold F_X0_second at h
  split at h
  · exact xi_meth (P := P_X0_second S) (by decide) hC.1 (po_X0_second hC) (Nat.le_of_ble_eq_true rfl) rfl (xe_X0_second _ _ h)
  · exact xi_no h
theorem i_X6_witnesses_0 : xi_dc cX6_witnesses 0 = some (.iconst 0, 1) := by decide +kernel
theorem i_X6_witnesses_1 : xi_dc cX6_witnesses 1 = some (.istore_n 2, 1) := by decide +kernel
theorem i_X6_witnesses_2 : xi_dc cX6_witnesses 2 = some (.iconst 0, 1) := by decide +kernel
theorem i_X6_witnesses_3 : xi_dc cX6_witnesses 3 = some (.istore_n 3, 1) := by decide +kernel
theorem i_X6_witnesses_4 : xi_dc cX6_witnesses 4 = some (.iload_n 3, 1) := by decide +kernel
theorem i_X6_witnesses_5 : xi_dc cX6_witnesses 5 = some (.aload_n 0, 1) := by decide +kernel
theorem i_X6_witnesses_6 : xi_dc cX6_witnesses 6 = some (.getfield 43, 3) := by decide +kernel
theorem i_X6_witnesses_9 : xi_dc cX6_witnesses 9 = some (.if_icmp .ge 47, 3) := by decide +kernel
theorem t_X6_witnesses_9 : ((9 : Nat) : Int) + 47 = ((56 : Nat) : Int) := by decide +kernel
theorem i_X6_witnesses_12 : xi_dc cX6_witnesses 12 = some (.aload_n 0, 1) := by decide +kernel
theorem i_X6_witnesses_13 : xi_dc cX6_witnesses 13 = some (.getfield 21, 3) := by decide +kernel
theorem i_X6_witnesses_16 : xi_dc cX6_witnesses 16 = some (.iload_n 3, 1) := by decide +kernel
theorem i_X6_witnesses_17 : xi_dc cX6_witnesses 17 = some (.iaload, 1) := by decide +kernel
theorem i_X6_witnesses_18 : xi_dc cX6_witnesses 18 = some (.iload_n 1, 1) := by decide +kernel
theorem i_X6_witnesses_19 : xi_dc cX6_witnesses 19 = some (.iconst 2, 1) := by decide +kernel
theorem i_X6_witnesses_20 : xi_dc cX6_witnesses 20 = some (.idiv, 1) := by decide +kernel
theorem i_X6_witnesses_21 : xi_dc cX6_witnesses 21 = some (.if_icmp .ne 29, 3) := by decide +kernel
theorem t_X6_witnesses_21 : ((21 : Nat) : Int) + 29 = ((50 : Nat) : Int) := by decide +kernel
theorem i_X6_witnesses_24 : xi_dc cX6_witnesses 24 = some (.aload_n 0, 1) := by decide +kernel
theorem i_X6_witnesses_25 : xi_dc cX6_witnesses 25 = some (.getfield 24, 3) := by decide +kernel
theorem i_X6_witnesses_28 : xi_dc cX6_witnesses 28 = some (.iload_n 3, 1) := by decide +kernel
theorem i_X6_witnesses_29 : xi_dc cX6_witnesses 29 = some (.iaload, 1) := by decide +kernel
theorem i_X6_witnesses_30 : xi_dc cX6_witnesses 30 = some (.aload_n 0, 1) := by decide +kernel
theorem i_X6_witnesses_31 : xi_dc cX6_witnesses 31 = some (.getfield 9, 3) := by decide +kernel
theorem i_X6_witnesses_34 : xi_dc cX6_witnesses 34 = some (.iload_n 1, 1) := by decide +kernel
theorem i_X6_witnesses_35 : xi_dc cX6_witnesses 35 = some (.iaload, 1) := by decide +kernel
theorem i_X6_witnesses_36 : xi_dc cX6_witnesses 36 = some (.isub, 1) := by decide +kernel
theorem i_X6_witnesses_37 : xi_dc cX6_witnesses 37 = some (.invokestatic 119, 3) := by decide +kernel
theorem i_X6_witnesses_40 : xi_dc cX6_witnesses 40 = some (.iconst 3, 1) := by decide +kernel
theorem i_X6_witnesses_41 : xi_dc cX6_witnesses 41 = some (.if_icmp .gt 9, 3) := by decide +kernel
theorem t_X6_witnesses_41 : ((41 : Nat) : Int) + 9 = ((50 : Nat) : Int) := by decide +kernel
theorem i_X6_witnesses_44 : xi_dc cX6_witnesses 44 = some (.iload_n 2, 1) := by decide +kernel
theorem i_X6_witnesses_45 : xi_dc cX6_witnesses 45 = some (.iconst 1, 1) := by decide +kernel
theorem i_X6_witnesses_46 : xi_dc cX6_witnesses 46 = some (.iload_n 3, 1) := by decide +kernel
theorem i_X6_witnesses_47 : xi_dc cX6_witnesses 47 = some (.ishl, 1) := by decide +kernel
theorem i_X6_witnesses_48 : xi_dc cX6_witnesses 48 = some (.ior, 1) := by decide +kernel
theorem i_X6_witnesses_49 : xi_dc cX6_witnesses 49 = some (.istore_n 2, 1) := by decide +kernel
theorem i_X6_witnesses_50 : xi_dc cX6_witnesses 50 = some (.iinc 3 1, 3) := by decide +kernel
theorem i_X6_witnesses_53 : xi_dc cX6_witnesses 53 = some (.goto (-49), 3) := by decide +kernel
theorem t_X6_witnesses_53 : ((53 : Nat) : Int) + (-49) = ((4 : Nat) : Int) := by decide +kernel
theorem i_X6_witnesses_56 : xi_dc cX6_witnesses 56 = some (.iload_n 2, 1) := by decide +kernel
theorem i_X6_witnesses_57 : xi_dc cX6_witnesses 57 = some (.ireturn, 1) := by decide +kernel
def P_X6_witnesses (S : xi_S) : xi_P := (xi_dc cX6_witnesses, xi_tab xfl_X6, xi_tab xki_X6, xi_tab xkl_X6, xi_tab xcs_X6, xi_tab xcv_X6, xi_calls [(119, xi_wS 1 (F_J9_abs_0f7a4 S))], xi_calls [], 1)
theorem cc_X6_witnesses_119 (S : xi_S) (a0 : Int32) (m : xi_M) : (P_X6_witnesses S).2.2.2.2.2.2.1 119 [.int a0] m = (E_J9_abs_0f7a4 S a0 m) := by
  show xi_calls [(119, xi_wS 1 (F_J9_abs_0f7a4 S))] 119 [.int a0] m = _
  refine Eq.trans (b := xi_wS 1 (F_J9_abs_0f7a4 S) [.int a0] m) (xi_calls_hit rfl) ?_
  exact xi_wS_eq rfl
def G_X6_witnesses_4 (S : xi_S) : Nat → Nat → Int32 → Int32 → Int32 → xi_M → Option xi_R
  | 0, _, _, _, _, _ => none
  | n + 1, v0, v1, v2, v3, m =>
    if S.1 v0 = 8 then
      if (m.1 v0 1) ≤ v3 then
        some (some (.int v2), m)
      else
        if S.1 v0 = 8 then (S.2.2 v0 8).bind fun b3 =>
          if S.1 b3 = 0 ∧ ¬ (v3 < 0 ∨ S.2.1 b3 ≤ Int32.toNatClampNeg v3) then
            if (Int32.ofInt 2) = 0 then none else
            if (m.1 b3 (Int32.toNatClampNeg v3)) = (v1 / (Int32.ofInt 2)) then
              if S.1 v0 = 8 then (S.2.2 v0 9).bind fun b7 =>
                if S.1 b7 = 0 ∧ ¬ (v3 < 0 ∨ S.2.1 b7 ≤ Int32.toNatClampNeg v3) then
                  if S.1 v0 = 8 then (S.2.2 v0 5).bind fun b10 =>
                    if S.1 b10 = 0 ∧ ¬ (v1 < 0 ∨ S.2.1 b10 ≤ Int32.toNatClampNeg v1) then
                      xi_bI (E_J9_abs_0f7a4 S ((m.1 b7 (Int32.toNatClampNeg v3)) - (m.1 b10 (Int32.toNatClampNeg v1))) m) fun x13 m12 =>
                      if (Int32.ofInt 3) < x13 then
                        G_X6_witnesses_4 S n v0 v1 v2 (v3 + Int32.ofInt 1) m12
                      else
                        G_X6_witnesses_4 S n v0 v1 (v2 ||| ((Int32.ofInt 1) <<< (v3 &&& 31))) (v3 + Int32.ofInt 1) m12
                    else none
                  else none
                else none
              else none
            else
              G_X6_witnesses_4 S n v0 v1 v2 (v3 + Int32.ofInt 1) m
          else none
        else none
    else none
set_option maxRecDepth 100000 in
set_option maxHeartbeats 4000000 in
theorem xs_X6_witnesses_4 {S : xi_S} {res : xi_R} : ∀ (n : Nat) (v0 : Nat) (v1 : Int32) (v2 : Int32) (v3 : Int32) (m : xi_M), G_X6_witnesses_4 S n v0 v1 v2 v3 m = some res → xi_X S (P_X6_witnesses S) (4, [some (.ref v0), some (.int v1), some (.int v2), some (.int v3)], [], m) res := by
  intro n
  induction n with
  | zero => intro v0 v1 v2 v3 m h; exact xi_no h
  | succ n ih =>
    intro v0 v1 v2 v3 m h
    unfold G_X6_witnesses_4 at h
    refine xr_iload_n i_X6_witnesses_4 rfl (q := 5) rfl ?_
    refine xr_aload_n i_X6_witnesses_5 rfl (q := 6) rfl ?_
    obtain ⟨c1, h⟩ := xi_if_some h
    refine xr_getI i_X6_witnesses_6 xfe_X6_43 c1 (q := 9) rfl ?_
    by_cases c16 : (m.1 v0 1) ≤ v3
    · replace h := (if_pos c16).symm.trans h
      refine xr_if_icmp_ge_p i_X6_witnesses_9 c16 (q := 56) t_X6_witnesses_9 (q2 := 12) rfl ?_
      refine xr_iload_n i_X6_witnesses_56 rfl (q := 57) rfl ?_
      exact xr_ireturn i_X6_witnesses_57 rfl h
    · replace h := (if_neg c16).symm.trans h
      refine xr_if_icmp_ge_n i_X6_witnesses_9 c16 (q := 56) t_X6_witnesses_9 (q2 := 12) rfl ?_
      refine xr_aload_n i_X6_witnesses_12 rfl (q := 13) rfl ?_
      obtain ⟨c2, h⟩ := xi_if_some h
      obtain ⟨b3, eb3, h⟩ := xi_bind_some h
      refine xr_getR i_X6_witnesses_13 xfe_X6_21 c2 eb3 (q := 16) rfl ?_
      refine xr_iload_n i_X6_witnesses_16 rfl (q := 17) rfl ?_
      obtain ⟨c4, h⟩ := xi_if_some h
      refine xr_iaload i_X6_witnesses_17 c4 (q := 18) rfl ?_
      refine xr_iload_n i_X6_witnesses_18 rfl (q := 19) rfl ?_
      refine xr_iconst i_X6_witnesses_19 (q := 20) rfl ?_
      obtain ⟨c5, h⟩ := xi_ifn_some h
      refine xr_idiv i_X6_witnesses_20 c5 (q := 21) rfl ?_
      by_cases c15 : (m.1 b3 (Int32.toNatClampNeg v3)) = (v1 / (Int32.ofInt 2))
      · replace h := (if_pos c15).symm.trans h
        refine xr_if_icmp_ne_p i_X6_witnesses_21 c15 (q := 50) t_X6_witnesses_21 (q2 := 24) rfl ?_
        refine xr_aload_n i_X6_witnesses_24 rfl (q := 25) rfl ?_
        obtain ⟨c6, h⟩ := xi_if_some h
        obtain ⟨b7, eb7, h⟩ := xi_bind_some h
        refine xr_getR i_X6_witnesses_25 xfe_X6_24 c6 eb7 (q := 28) rfl ?_
        refine xr_iload_n i_X6_witnesses_28 rfl (q := 29) rfl ?_
        obtain ⟨c8, h⟩ := xi_if_some h
        refine xr_iaload i_X6_witnesses_29 c8 (q := 30) rfl ?_
        refine xr_aload_n i_X6_witnesses_30 rfl (q := 31) rfl ?_
        obtain ⟨c9, h⟩ := xi_if_some h
        obtain ⟨b10, eb10, h⟩ := xi_bind_some h
        refine xr_getR i_X6_witnesses_31 xfe_X6_9 c9 eb10 (q := 34) rfl ?_
        refine xr_iload_n i_X6_witnesses_34 rfl (q := 35) rfl ?_
        obtain ⟨c11, h⟩ := xi_if_some h
        refine xr_iaload i_X6_witnesses_35 c11 (q := 36) rfl ?_
        refine xr_isub i_X6_witnesses_36 (q := 37) rfl ?_
        obtain ⟨x13, m12, em12, h⟩ := xi_bI_some h
        refine xr_SI i_X6_witnesses_37 xcse_X6_119 rfl (As := [.int ((m.1 b7 (Int32.toNatClampNeg v3)) - (m.1 b10 (Int32.toNatClampNeg v1)))]) rfl (rest := []) rfl ((cc_X6_witnesses_119 S _ _).trans em12) (q := 40) rfl ?_
        refine xr_iconst i_X6_witnesses_40 (q := 41) rfl ?_
        by_cases c14 : (Int32.ofInt 3) < x13
        · replace h := (if_pos c14).symm.trans h
          refine xr_if_icmp_gt_p i_X6_witnesses_41 c14 (q := 50) t_X6_witnesses_41 (q2 := 44) rfl ?_
          refine xr_iinc i_X6_witnesses_50 rfl rfl (L2 := [some (.ref v0), some (.int v1), some (.int v2), some (.int (v3 + Int32.ofInt 1))]) rfl (q := 53) rfl ?_
          refine xr_goto i_X6_witnesses_53 (q := 4) t_X6_witnesses_53 ?_
          exact xi_X_le (xi_le_s (xi_le_s (xi_le_s (xi_le_s xi_le_z)))) (ih _ _ _ _ _ h)
        · replace h := (if_neg c14).symm.trans h
          refine xr_if_icmp_gt_n i_X6_witnesses_41 c14 (q := 50) t_X6_witnesses_41 (q2 := 44) rfl ?_
          refine xr_iload_n i_X6_witnesses_44 rfl (q := 45) rfl ?_
          refine xr_iconst i_X6_witnesses_45 (q := 46) rfl ?_
          refine xr_iload_n i_X6_witnesses_46 rfl (q := 47) rfl ?_
          refine xr_ishl i_X6_witnesses_47 (q := 48) rfl ?_
          refine xr_ior i_X6_witnesses_48 (q := 49) rfl ?_
          refine xr_istore_n i_X6_witnesses_49 rfl (L2 := [some (.ref v0), some (.int v1), some (.int (v2 ||| ((Int32.ofInt 1) <<< (v3 &&& 31)))), some (.int v3)]) rfl (q := 50) rfl ?_
          refine xr_iinc i_X6_witnesses_50 rfl rfl (L2 := [some (.ref v0), some (.int v1), some (.int (v2 ||| ((Int32.ofInt 1) <<< (v3 &&& 31)))), some (.int (v3 + Int32.ofInt 1))]) rfl (q := 53) rfl ?_
          refine xr_goto i_X6_witnesses_53 (q := 4) t_X6_witnesses_53 ?_
          exact xi_X_le (xi_le_s (xi_le_s (xi_le_s (xi_le_s xi_le_z)))) (ih _ _ _ _ _ h)
      · replace h := (if_neg c15).symm.trans h
        refine xr_if_icmp_ne_n i_X6_witnesses_21 c15 (q := 50) t_X6_witnesses_21 (q2 := 24) rfl ?_
        refine xr_iinc i_X6_witnesses_50 rfl rfl (L2 := [some (.ref v0), some (.int v1), some (.int v2), some (.int (v3 + Int32.ofInt 1))]) rfl (q := 53) rfl ?_
        refine xr_goto i_X6_witnesses_53 (q := 4) t_X6_witnesses_53 ?_
        exact xi_X_le (xi_le_s (xi_le_s (xi_le_s (xi_le_s xi_le_z)))) (ih _ _ _ _ _ h)
def E_X6_witnesses (S : xi_S) (v0 : Nat) (v1 : Int32) (m : xi_M) : Option xi_R :=
  G_X6_witnesses_4 S 10000 v0 v1 (Int32.ofInt 0) (Int32.ofInt 0) m
def F_X6_witnesses (S : xi_S) : xi_F := fun As m => match As with
  | [.ref v0, .int v1] => E_X6_witnesses S v0 v1 m
  | _ => none
set_option maxRecDepth 100000 in
set_option maxHeartbeats 4000000 in
theorem xe_X6_witnesses {S : xi_S} {res : xi_R} (v0 : Nat) (v1 : Int32) (m : xi_M) (h : E_X6_witnesses S v0 v1 m = some res) : xi_X S (P_X6_witnesses S) (0, [some (.ref v0), some (.int v1), none, none], [], m) res := by
  unfold E_X6_witnesses at h
  refine xr_iconst i_X6_witnesses_0 (q := 1) rfl ?_
  refine xr_istore_n i_X6_witnesses_1 rfl (L2 := [some (.ref v0), some (.int v1), some (.int (Int32.ofInt 0)), none]) rfl (q := 2) rfl ?_
  refine xr_iconst i_X6_witnesses_2 (q := 3) rfl ?_
  refine xr_istore_n i_X6_witnesses_3 rfl (L2 := [some (.ref v0), some (.int v1), some (.int (Int32.ofInt 0)), some (.int (Int32.ofInt 0))]) rfl (q := 4) rfl ?_
  exact xi_X_le (xi_le_s (xi_le_s (xi_le_s (xi_le_s xi_le_z)))) (xs_X6_witnesses_4 10000 _ _ _ _ _ h)
set_option maxRecDepth 100000 in
theorem po_X6_witnesses {l : Launch} {E : xi_E} {S : xi_S} {D : va_G} {tys : List (ClassId × FieldType)} (hC : xCx E S tys) : xi_Pok l E S D vwCl tys xNs RX6 xTs cX6_witnesses 4 1 (P_X6_witnesses S) := ⟨xi_dc_ok, by rw [hC.2]; exact xfo_X6, xkio_X6, xklo_X6, xi_calls_ok (ins := .invokestatic) (List.forall_mem_cons.mpr ⟨(xm_X6_119 (by decide)), fun _ h => absurd h List.not_mem_nil⟩), xi_calls_ok (ins := .invokevirtual) (fun _ h => absurd h List.not_mem_nil)⟩
theorem sn_X6_witnesses {l : Launch} {E : xi_E} {S : xi_S} {D : va_G} {tys : List (ClassId × FieldType)} (hC : xCx E S tys) : ∀ As m1 r m2, F_X6_witnesses S As m1 = some (r, m2) → xi_Sound l E S D vwCl tys xNs xTs yX6_witnesses cX6_witnesses 4 (some .int) 1 As m1 r m2 := by
  intro As m1 r m2 h
  unfold F_X6_witnesses at h
  split at h
  · exact xi_meth (P := P_X6_witnesses S) (by decide) hC.1 (po_X6_witnesses hC) (Nat.le_of_ble_eq_true rfl) rfl (xe_X6_witnesses _ _ _ h)
  · exact xi_no h
theorem i_X8_span_0 : xi_dc cX8_span 0 = some (.iload_n 1, 1) := by decide +kernel
theorem i_X8_span_1 : xi_dc cX8_span 1 = some (.iload_n 0, 1) := by decide +kernel
theorem i_X8_span_2 : xi_dc cX8_span 2 = some (.if_icmp .ge 7, 3) := by decide +kernel
theorem t_X8_span_2 : ((2 : Nat) : Int) + 7 = ((9 : Nat) : Int) := by decide +kernel
theorem i_X8_span_5 : xi_dc cX8_span 5 = some (.iconst 0, 1) := by decide +kernel
theorem i_X8_span_6 : xi_dc cX8_span 6 = some (.goto 14, 3) := by decide +kernel
theorem t_X8_span_6 : ((6 : Nat) : Int) + 14 = ((20 : Nat) : Int) := by decide +kernel
theorem i_X8_span_9 : xi_dc cX8_span 9 = some (.iconst 1, 1) := by decide +kernel
theorem i_X8_span_10 : xi_dc cX8_span 10 = some (.iload_n 1, 1) := by decide +kernel
theorem i_X8_span_11 : xi_dc cX8_span 11 = some (.iload_n 0, 1) := by decide +kernel
theorem i_X8_span_12 : xi_dc cX8_span 12 = some (.isub, 1) := by decide +kernel
theorem i_X8_span_13 : xi_dc cX8_span 13 = some (.iconst 1, 1) := by decide +kernel
theorem i_X8_span_14 : xi_dc cX8_span 14 = some (.iadd, 1) := by decide +kernel
theorem i_X8_span_15 : xi_dc cX8_span 15 = some (.ishl, 1) := by decide +kernel
theorem i_X8_span_16 : xi_dc cX8_span 16 = some (.iconst 1, 1) := by decide +kernel
theorem i_X8_span_17 : xi_dc cX8_span 17 = some (.isub, 1) := by decide +kernel
theorem i_X8_span_18 : xi_dc cX8_span 18 = some (.iload_n 0, 1) := by decide +kernel
theorem i_X8_span_19 : xi_dc cX8_span 19 = some (.ishl, 1) := by decide +kernel
theorem i_X8_span_20 : xi_dc cX8_span 20 = some (.ireturn, 1) := by decide +kernel
def P_X8_span (S : xi_S) : xi_P := (xi_dc cX8_span, xi_tab xfl_X8, xi_tab xki_X8, xi_tab xkl_X8, xi_tab xcs_X8, xi_tab xcv_X8, xi_calls [], xi_calls [], 1)
def E_X8_span (S : xi_S) (v0 : Int32) (v1 : Int32) (m : xi_M) : Option xi_R :=
  if v0 ≤ v1 then
    some (some (.int ((((Int32.ofInt 1) <<< (((v1 - v0) + (Int32.ofInt 1)) &&& 31)) - (Int32.ofInt 1)) <<< (v0 &&& 31))), m)
  else
    some (some (.int (Int32.ofInt 0)), m)
def F_X8_span (S : xi_S) : xi_F := fun As m => match As with
  | [.int v0, .int v1] => E_X8_span S v0 v1 m
  | _ => none
set_option maxRecDepth 100000 in
set_option maxHeartbeats 4000000 in
theorem xe_X8_span {S : xi_S} {res : xi_R} (v0 : Int32) (v1 : Int32) (m : xi_M) (h : E_X8_span S v0 v1 m = some res) : xi_X S (P_X8_span S) (0, [some (.int v0), some (.int v1)], [], m) res := by
  unfold E_X8_span at h
  refine xr_iload_n i_X8_span_0 rfl (q := 1) rfl ?_
  refine xr_iload_n i_X8_span_1 rfl (q := 2) rfl ?_
  by_cases c1 : v0 ≤ v1
  · replace h := (if_pos c1).symm.trans h
    refine xr_if_icmp_ge_p i_X8_span_2 c1 (q := 9) t_X8_span_2 (q2 := 5) rfl ?_
    refine xr_iconst i_X8_span_9 (q := 10) rfl ?_
    refine xr_iload_n i_X8_span_10 rfl (q := 11) rfl ?_
    refine xr_iload_n i_X8_span_11 rfl (q := 12) rfl ?_
    refine xr_isub i_X8_span_12 (q := 13) rfl ?_
    refine xr_iconst i_X8_span_13 (q := 14) rfl ?_
    refine xr_iadd i_X8_span_14 (q := 15) rfl ?_
    refine xr_ishl i_X8_span_15 (q := 16) rfl ?_
    refine xr_iconst i_X8_span_16 (q := 17) rfl ?_
    refine xr_isub i_X8_span_17 (q := 18) rfl ?_
    refine xr_iload_n i_X8_span_18 rfl (q := 19) rfl ?_
    refine xr_ishl i_X8_span_19 (q := 20) rfl ?_
    exact xr_ireturn i_X8_span_20 rfl h
  · replace h := (if_neg c1).symm.trans h
    refine xr_if_icmp_ge_n i_X8_span_2 c1 (q := 9) t_X8_span_2 (q2 := 5) rfl ?_
    refine xr_iconst i_X8_span_5 (q := 6) rfl ?_
    refine xr_goto i_X8_span_6 (q := 20) t_X8_span_6 ?_
    exact xr_ireturn i_X8_span_20 rfl h
set_option maxRecDepth 100000 in
theorem po_X8_span {l : Launch} {E : xi_E} {S : xi_S} {D : va_G} {tys : List (ClassId × FieldType)} (hC : xCx E S tys) : xi_Pok l E S D vwCl tys xNs RX8 xTs cX8_span 2 0 (P_X8_span S) := ⟨xi_dc_ok, by rw [hC.2]; exact xfo_X8, xkio_X8, xklo_X8, xi_calls_ok (ins := .invokestatic) (fun _ h => absurd h List.not_mem_nil), xi_calls_ok (ins := .invokevirtual) (fun _ h => absurd h List.not_mem_nil)⟩
theorem sn_X8_span {l : Launch} {E : xi_E} {S : xi_S} {D : va_G} {tys : List (ClassId × FieldType)} (hC : xCx E S tys) : ∀ As m1 r m2, F_X8_span S As m1 = some (r, m2) → xi_Sound l E S D vwCl tys xNs xTs yX8_span cX8_span 2 (some .int) 0 As m1 r m2 := by
  intro As m1 r m2 h
  unfold F_X8_span at h
  split at h
  · exact xi_meth (P := P_X8_span S) (by decide) hC.1 (po_X8_span hC) (Nat.le_of_ble_eq_true rfl) rfl (xe_X8_span _ _ _ h)
  · exact xi_no h
theorem i_X8_between_0 : xi_dc cX8_between 0 = some (.iload_n 0, 1) := by decide +kernel
theorem i_X8_between_1 : xi_dc cX8_between 1 = some (.iconst 1, 1) := by decide +kernel
theorem i_X8_between_2 : xi_dc cX8_between 2 = some (.if_icmp .ne 11, 3) := by decide +kernel
theorem t_X8_between_2 : ((2 : Nat) : Int) + 11 = ((13 : Nat) : Int) := by decide +kernel
theorem i_X8_between_5 : xi_dc cX8_between 5 = some (.iload_n 1, 1) := by decide +kernel
theorem i_X8_between_6 : xi_dc cX8_between 6 = some (.iload_n 2, 1) := by decide +kernel
theorem i_X8_between_7 : xi_dc cX8_between 7 = some (.invokestatic 328, 3) := by decide +kernel
theorem i_X8_between_10 : xi_dc cX8_between 10 = some (.goto 12, 3) := by decide +kernel
theorem t_X8_between_10 : ((10 : Nat) : Int) + 12 = ((22 : Nat) : Int) := by decide +kernel
theorem i_X8_between_13 : xi_dc cX8_between 13 = some (.iload_n 1, 1) := by decide +kernel
theorem i_X8_between_14 : xi_dc cX8_between 14 = some (.iconst 1, 1) := by decide +kernel
theorem i_X8_between_15 : xi_dc cX8_between 15 = some (.iadd, 1) := by decide +kernel
theorem i_X8_between_16 : xi_dc cX8_between 16 = some (.iload_n 2, 1) := by decide +kernel
theorem i_X8_between_17 : xi_dc cX8_between 17 = some (.iconst 1, 1) := by decide +kernel
theorem i_X8_between_18 : xi_dc cX8_between 18 = some (.isub, 1) := by decide +kernel
theorem i_X8_between_19 : xi_dc cX8_between 19 = some (.invokestatic 328, 3) := by decide +kernel
theorem i_X8_between_22 : xi_dc cX8_between 22 = some (.ireturn, 1) := by decide +kernel
def P_X8_between (S : xi_S) : xi_P := (xi_dc cX8_between, xi_tab xfl_X8, xi_tab xki_X8, xi_tab xkl_X8, xi_tab xcs_X8, xi_tab xcv_X8, xi_calls [(328, xi_wS 2 (F_X8_span S))], xi_calls [], 1)
theorem cc_X8_between_328 (S : xi_S) (a0 : Int32) (a1 : Int32) (m : xi_M) : (P_X8_between S).2.2.2.2.2.2.1 328 [.int a0, .int a1] m = (E_X8_span S a0 a1 m) := by
  show xi_calls [(328, xi_wS 2 (F_X8_span S))] 328 [.int a0, .int a1] m = _
  refine Eq.trans (b := xi_wS 2 (F_X8_span S) [.int a0, .int a1] m) (xi_calls_hit rfl) ?_
  exact xi_wS_eq rfl
def E_X8_between (S : xi_S) (v0 : Int32) (v1 : Int32) (v2 : Int32) (m : xi_M) : Option xi_R :=
  if v0 = (Int32.ofInt 1) then
    xi_bI (E_X8_span S v1 v2 m) fun x4 m3 =>
    some (some (.int x4), m3)
  else
    xi_bI (E_X8_span S (v1 + (Int32.ofInt 1)) (v2 - (Int32.ofInt 1)) m) fun x2 m1 =>
    some (some (.int x2), m1)
def F_X8_between (S : xi_S) : xi_F := fun As m => match As with
  | [.int v0, .int v1, .int v2] => E_X8_between S v0 v1 v2 m
  | _ => none
set_option maxRecDepth 100000 in
set_option maxHeartbeats 4000000 in
theorem xe_X8_between {S : xi_S} {res : xi_R} (v0 : Int32) (v1 : Int32) (v2 : Int32) (m : xi_M) (h : E_X8_between S v0 v1 v2 m = some res) : xi_X S (P_X8_between S) (0, [some (.int v0), some (.int v1), some (.int v2)], [], m) res := by
  unfold E_X8_between at h
  refine xr_iload_n i_X8_between_0 rfl (q := 1) rfl ?_
  refine xr_iconst i_X8_between_1 (q := 2) rfl ?_
  by_cases c5 : v0 = (Int32.ofInt 1)
  · replace h := (if_pos c5).symm.trans h
    refine xr_if_icmp_ne_p i_X8_between_2 c5 (q := 13) t_X8_between_2 (q2 := 5) rfl ?_
    refine xr_iload_n i_X8_between_5 rfl (q := 6) rfl ?_
    refine xr_iload_n i_X8_between_6 rfl (q := 7) rfl ?_
    obtain ⟨x4, m3, em3, h⟩ := xi_bI_some h
    refine xr_SI i_X8_between_7 xcse_X8_328 rfl (As := [.int v1, .int v2]) rfl (rest := []) rfl ((cc_X8_between_328 S _ _ _).trans em3) (q := 10) rfl ?_
    refine xr_goto i_X8_between_10 (q := 22) t_X8_between_10 ?_
    exact xr_ireturn i_X8_between_22 rfl h
  · replace h := (if_neg c5).symm.trans h
    refine xr_if_icmp_ne_n i_X8_between_2 c5 (q := 13) t_X8_between_2 (q2 := 5) rfl ?_
    refine xr_iload_n i_X8_between_13 rfl (q := 14) rfl ?_
    refine xr_iconst i_X8_between_14 (q := 15) rfl ?_
    refine xr_iadd i_X8_between_15 (q := 16) rfl ?_
    refine xr_iload_n i_X8_between_16 rfl (q := 17) rfl ?_
    refine xr_iconst i_X8_between_17 (q := 18) rfl ?_
    refine xr_isub i_X8_between_18 (q := 19) rfl ?_
    obtain ⟨x2, m1, em1, h⟩ := xi_bI_some h
    refine xr_SI i_X8_between_19 xcse_X8_328 rfl (As := [.int (v1 + (Int32.ofInt 1)), .int (v2 - (Int32.ofInt 1))]) rfl (rest := []) rfl ((cc_X8_between_328 S _ _ _).trans em1) (q := 22) rfl ?_
    exact xr_ireturn i_X8_between_22 rfl h
set_option maxRecDepth 100000 in
theorem po_X8_between {l : Launch} {E : xi_E} {S : xi_S} {D : va_G} {tys : List (ClassId × FieldType)} (hC : xCx E S tys) : xi_Pok l E S D vwCl tys xNs RX8 xTs cX8_between 3 1 (P_X8_between S) := ⟨xi_dc_ok, by rw [hC.2]; exact xfo_X8, xkio_X8, xklo_X8, xi_calls_ok (ins := .invokestatic) (List.forall_mem_cons.mpr ⟨(xc_X8_328 (sn_X8_span hC) (by decide)), fun _ h => absurd h List.not_mem_nil⟩), xi_calls_ok (ins := .invokevirtual) (fun _ h => absurd h List.not_mem_nil)⟩
theorem sn_X8_between {l : Launch} {E : xi_E} {S : xi_S} {D : va_G} {tys : List (ClassId × FieldType)} (hC : xCx E S tys) : ∀ As m1 r m2, F_X8_between S As m1 = some (r, m2) → xi_Sound l E S D vwCl tys xNs xTs yX8_between cX8_between 3 (some .int) 1 As m1 r m2 := by
  intro As m1 r m2 h
  unfold F_X8_between at h
  split at h
  · exact xi_meth (P := P_X8_between S) (by decide) hC.1 (po_X8_between hC) (Nat.le_of_ble_eq_true rfl) rfl (xe_X8_between _ _ _ _ h)
  · exact xi_no h
theorem i_X1_goalsAt_0 : xi_dc cX1_goalsAt 0 = some (.aload_n 0, 1) := by decide +kernel
theorem i_X1_goalsAt_1 : xi_dc cX1_goalsAt 1 = some (.getfield 27, 3) := by decide +kernel
theorem i_X1_goalsAt_4 : xi_dc cX1_goalsAt 4 = some (.iload_n 2, 1) := by decide +kernel
theorem i_X1_goalsAt_5 : xi_dc cX1_goalsAt 5 = some (.iload_n 3, 1) := by decide +kernel
theorem i_X1_goalsAt_6 : xi_dc cX1_goalsAt 6 = some (.invokestatic 45, 3) := by decide +kernel
theorem i_X1_goalsAt_9 : xi_dc cX1_goalsAt 9 = some (.aload_n 0, 1) := by decide +kernel
theorem i_X1_goalsAt_10 : xi_dc cX1_goalsAt 10 = some (.getfield 18, 3) := by decide +kernel
theorem i_X1_goalsAt_13 : xi_dc cX1_goalsAt 13 = some (.iload_n 1, 1) := by decide +kernel
theorem i_X1_goalsAt_14 : xi_dc cX1_goalsAt 14 = some (.iaload, 1) := by decide +kernel
theorem i_X1_goalsAt_15 : xi_dc cX1_goalsAt 15 = some (.iand, 1) := by decide +kernel
theorem i_X1_goalsAt_16 : xi_dc cX1_goalsAt 16 = some (.istore 4, 2) := by decide +kernel
theorem i_X1_goalsAt_18 : xi_dc cX1_goalsAt 18 = some (.iconst 0, 1) := by decide +kernel
theorem i_X1_goalsAt_19 : xi_dc cX1_goalsAt 19 = some (.istore 5, 2) := by decide +kernel
theorem i_X1_goalsAt_21 : xi_dc cX1_goalsAt 21 = some (.iconst 0, 1) := by decide +kernel
theorem i_X1_goalsAt_22 : xi_dc cX1_goalsAt 22 = some (.istore 6, 2) := by decide +kernel
theorem i_X1_goalsAt_24 : xi_dc cX1_goalsAt 24 = some (.iload 6, 2) := by decide +kernel
theorem i_X1_goalsAt_26 : xi_dc cX1_goalsAt 26 = some (.aload_n 0, 1) := by decide +kernel
theorem i_X1_goalsAt_27 : xi_dc cX1_goalsAt 27 = some (.getfield 31, 3) := by decide +kernel
theorem i_X1_goalsAt_30 : xi_dc cX1_goalsAt 30 = some (.if_icmp .ge 36, 3) := by decide +kernel
theorem t_X1_goalsAt_30 : ((30 : Nat) : Int) + 36 = ((66 : Nat) : Int) := by decide +kernel
theorem i_X1_goalsAt_33 : xi_dc cX1_goalsAt 33 = some (.aload_n 0, 1) := by decide +kernel
theorem i_X1_goalsAt_34 : xi_dc cX1_goalsAt 34 = some (.getfield 9, 3) := by decide +kernel
theorem i_X1_goalsAt_37 : xi_dc cX1_goalsAt 37 = some (.iload 6, 2) := by decide +kernel
theorem i_X1_goalsAt_39 : xi_dc cX1_goalsAt 39 = some (.iaload, 1) := by decide +kernel
theorem i_X1_goalsAt_40 : xi_dc cX1_goalsAt 40 = some (.iload_n 1, 1) := by decide +kernel
theorem i_X1_goalsAt_41 : xi_dc cX1_goalsAt 41 = some (.if_icmp .ne 19, 3) := by decide +kernel
theorem t_X1_goalsAt_41 : ((41 : Nat) : Int) + 19 = ((60 : Nat) : Int) := by decide +kernel
theorem i_X1_goalsAt_44 : xi_dc cX1_goalsAt 44 = some (.aload_n 0, 1) := by decide +kernel
theorem i_X1_goalsAt_45 : xi_dc cX1_goalsAt 45 = some (.getfield 15, 3) := by decide +kernel
theorem i_X1_goalsAt_48 : xi_dc cX1_goalsAt 48 = some (.iload 6, 2) := by decide +kernel
theorem i_X1_goalsAt_50 : xi_dc cX1_goalsAt 50 = some (.iaload, 1) := by decide +kernel
theorem i_X1_goalsAt_51 : xi_dc cX1_goalsAt 51 = some (.iload 4, 2) := by decide +kernel
theorem i_X1_goalsAt_53 : xi_dc cX1_goalsAt 53 = some (.iand, 1) := by decide +kernel
theorem i_X1_goalsAt_54 : xi_dc cX1_goalsAt 54 = some (.ifCond .eq 6, 3) := by decide +kernel
theorem t_X1_goalsAt_54 : ((54 : Nat) : Int) + 6 = ((60 : Nat) : Int) := by decide +kernel
theorem i_X1_goalsAt_57 : xi_dc cX1_goalsAt 57 = some (.iinc 5 1, 3) := by decide +kernel
theorem i_X1_goalsAt_60 : xi_dc cX1_goalsAt 60 = some (.iinc 6 1, 3) := by decide +kernel
theorem i_X1_goalsAt_63 : xi_dc cX1_goalsAt 63 = some (.goto (-39), 3) := by decide +kernel
theorem t_X1_goalsAt_63 : ((63 : Nat) : Int) + (-39) = ((24 : Nat) : Int) := by decide +kernel
theorem i_X1_goalsAt_66 : xi_dc cX1_goalsAt 66 = some (.iload 5, 2) := by decide +kernel
theorem i_X1_goalsAt_68 : xi_dc cX1_goalsAt 68 = some (.ireturn, 1) := by decide +kernel
def P_X1_goalsAt (S : xi_S) : xi_P := (xi_dc cX1_goalsAt, xi_tab xfl_X1, xi_tab xki_X1, xi_tab xkl_X1, xi_tab xcs_X1, xi_tab xcv_X1, xi_calls [(45, xi_wS 3 (F_X8_between S))], xi_calls [], 1)
theorem cc_X1_goalsAt_45 (S : xi_S) (a0 : Int32) (a1 : Int32) (a2 : Int32) (m : xi_M) : (P_X1_goalsAt S).2.2.2.2.2.2.1 45 [.int a0, .int a1, .int a2] m = (E_X8_between S a0 a1 a2 m) := by
  show xi_calls [(45, xi_wS 3 (F_X8_between S))] 45 [.int a0, .int a1, .int a2] m = _
  refine Eq.trans (b := xi_wS 3 (F_X8_between S) [.int a0, .int a1, .int a2] m) (xi_calls_hit rfl) ?_
  exact xi_wS_eq rfl
def G_X1_goalsAt_24 (S : xi_S) : Nat → Nat → Int32 → Int32 → Int32 → Int32 → xi_M → Option xi_R
  | 0, _, _, _, _, _, _ => none
  | n + 1, v0, v1, v4, v5, v6, m =>
    if S.1 v0 = 4 then
      if (m.1 v0 1) ≤ v6 then
        some (some (.int v5), m)
      else
        if S.1 v0 = 4 then (S.2.2 v0 2).bind fun b3 =>
          if S.1 b3 = 0 ∧ ¬ (v6 < 0 ∨ S.2.1 b3 ≤ Int32.toNatClampNeg v6) then
            if (m.1 b3 (Int32.toNatClampNeg v6)) = v1 then
              if S.1 v0 = 4 then (S.2.2 v0 3).bind fun b6 =>
                if S.1 b6 = 0 ∧ ¬ (v6 < 0 ∨ S.2.1 b6 ≤ Int32.toNatClampNeg v6) then
                  if ((m.1 b6 (Int32.toNatClampNeg v6)) &&& v4) = 0 then
                    G_X1_goalsAt_24 S n v0 v1 v4 v5 (v6 + Int32.ofInt 1) m
                  else
                    G_X1_goalsAt_24 S n v0 v1 v4 (v5 + Int32.ofInt 1) (v6 + Int32.ofInt 1) m
                else none
              else none
            else
              G_X1_goalsAt_24 S n v0 v1 v4 v5 (v6 + Int32.ofInt 1) m
          else none
        else none
    else none
set_option maxRecDepth 100000 in
set_option maxHeartbeats 4000000 in
theorem xs_X1_goalsAt_24 {S : xi_S} {res : xi_R} : ∀ (n : Nat) (v0 : Nat) (v1 : Int32) (v4 : Int32) (v5 : Int32) (v6 : Int32) (m : xi_M), G_X1_goalsAt_24 S n v0 v1 v4 v5 v6 m = some res → xi_X S (P_X1_goalsAt S) (24, [some (.ref v0), some (.int v1), none, none, some (.int v4), some (.int v5), some (.int v6)], [], m) res := by
  intro n
  induction n with
  | zero => intro v0 v1 v4 v5 v6 m h; exact xi_no h
  | succ n ih =>
    intro v0 v1 v4 v5 v6 m h
    unfold G_X1_goalsAt_24 at h
    refine xr_iload i_X1_goalsAt_24 rfl (q := 26) rfl ?_
    refine xr_aload_n i_X1_goalsAt_26 rfl (q := 27) rfl ?_
    obtain ⟨c1, h⟩ := xi_if_some h
    refine xr_getI i_X1_goalsAt_27 xfe_X1_31 c1 (q := 30) rfl ?_
    by_cases c10 : (m.1 v0 1) ≤ v6
    · replace h := (if_pos c10).symm.trans h
      refine xr_if_icmp_ge_p i_X1_goalsAt_30 c10 (q := 66) t_X1_goalsAt_30 (q2 := 33) rfl ?_
      refine xr_iload i_X1_goalsAt_66 rfl (q := 68) rfl ?_
      exact xr_ireturn i_X1_goalsAt_68 rfl h
    · replace h := (if_neg c10).symm.trans h
      refine xr_if_icmp_ge_n i_X1_goalsAt_30 c10 (q := 66) t_X1_goalsAt_30 (q2 := 33) rfl ?_
      refine xr_aload_n i_X1_goalsAt_33 rfl (q := 34) rfl ?_
      obtain ⟨c2, h⟩ := xi_if_some h
      obtain ⟨b3, eb3, h⟩ := xi_bind_some h
      refine xr_getR i_X1_goalsAt_34 xfe_X1_9 c2 eb3 (q := 37) rfl ?_
      refine xr_iload i_X1_goalsAt_37 rfl (q := 39) rfl ?_
      obtain ⟨c4, h⟩ := xi_if_some h
      refine xr_iaload i_X1_goalsAt_39 c4 (q := 40) rfl ?_
      refine xr_iload_n i_X1_goalsAt_40 rfl (q := 41) rfl ?_
      by_cases c9 : (m.1 b3 (Int32.toNatClampNeg v6)) = v1
      · replace h := (if_pos c9).symm.trans h
        refine xr_if_icmp_ne_p i_X1_goalsAt_41 c9 (q := 60) t_X1_goalsAt_41 (q2 := 44) rfl ?_
        refine xr_aload_n i_X1_goalsAt_44 rfl (q := 45) rfl ?_
        obtain ⟨c5, h⟩ := xi_if_some h
        obtain ⟨b6, eb6, h⟩ := xi_bind_some h
        refine xr_getR i_X1_goalsAt_45 xfe_X1_15 c5 eb6 (q := 48) rfl ?_
        refine xr_iload i_X1_goalsAt_48 rfl (q := 50) rfl ?_
        obtain ⟨c7, h⟩ := xi_if_some h
        refine xr_iaload i_X1_goalsAt_50 c7 (q := 51) rfl ?_
        refine xr_iload i_X1_goalsAt_51 rfl (q := 53) rfl ?_
        refine xr_iand i_X1_goalsAt_53 (q := 54) rfl ?_
        by_cases c8 : ((m.1 b6 (Int32.toNatClampNeg v6)) &&& v4) = 0
        · replace h := (if_pos c8).symm.trans h
          refine xr_ifCond_eq_p i_X1_goalsAt_54 c8 (q := 60) t_X1_goalsAt_54 (q2 := 57) rfl ?_
          refine xr_iinc i_X1_goalsAt_60 rfl rfl (L2 := [some (.ref v0), some (.int v1), none, none, some (.int v4), some (.int v5), some (.int (v6 + Int32.ofInt 1))]) rfl (q := 63) rfl ?_
          refine xr_goto i_X1_goalsAt_63 (q := 24) t_X1_goalsAt_63 ?_
          exact xi_X_le (xi_le_s (xi_le_s (xi_le_n (xi_le_n (xi_le_s (xi_le_s (xi_le_s xi_le_z))))))) (ih _ _ _ _ _ _ h)
        · replace h := (if_neg c8).symm.trans h
          refine xr_ifCond_eq_n i_X1_goalsAt_54 c8 (q := 60) t_X1_goalsAt_54 (q2 := 57) rfl ?_
          refine xr_iinc i_X1_goalsAt_57 rfl rfl (L2 := [some (.ref v0), some (.int v1), none, none, some (.int v4), some (.int (v5 + Int32.ofInt 1)), some (.int v6)]) rfl (q := 60) rfl ?_
          refine xr_iinc i_X1_goalsAt_60 rfl rfl (L2 := [some (.ref v0), some (.int v1), none, none, some (.int v4), some (.int (v5 + Int32.ofInt 1)), some (.int (v6 + Int32.ofInt 1))]) rfl (q := 63) rfl ?_
          refine xr_goto i_X1_goalsAt_63 (q := 24) t_X1_goalsAt_63 ?_
          exact xi_X_le (xi_le_s (xi_le_s (xi_le_n (xi_le_n (xi_le_s (xi_le_s (xi_le_s xi_le_z))))))) (ih _ _ _ _ _ _ h)
      · replace h := (if_neg c9).symm.trans h
        refine xr_if_icmp_ne_n i_X1_goalsAt_41 c9 (q := 60) t_X1_goalsAt_41 (q2 := 44) rfl ?_
        refine xr_iinc i_X1_goalsAt_60 rfl rfl (L2 := [some (.ref v0), some (.int v1), none, none, some (.int v4), some (.int v5), some (.int (v6 + Int32.ofInt 1))]) rfl (q := 63) rfl ?_
        refine xr_goto i_X1_goalsAt_63 (q := 24) t_X1_goalsAt_63 ?_
        exact xi_X_le (xi_le_s (xi_le_s (xi_le_n (xi_le_n (xi_le_s (xi_le_s (xi_le_s xi_le_z))))))) (ih _ _ _ _ _ _ h)
def E_X1_goalsAt (S : xi_S) (v0 : Nat) (v1 : Int32) (v2 : Int32) (v3 : Int32) (m : xi_M) : Option xi_R :=
  if S.1 v0 = 4 then
    xi_bI (E_X8_between S (m.1 v0 0) v2 v3 m) fun x3 m2 =>
    if S.1 v0 = 4 then (S.2.2 v0 4).bind fun b5 =>
      if S.1 b5 = 0 ∧ ¬ (v1 < 0 ∨ S.2.1 b5 ≤ Int32.toNatClampNeg v1) then
        G_X1_goalsAt_24 S 10000 v0 v1 (x3 &&& (m2.1 b5 (Int32.toNatClampNeg v1))) (Int32.ofInt 0) (Int32.ofInt 0) m2
      else none
    else none
  else none
def F_X1_goalsAt (S : xi_S) : xi_F := fun As m => match As with
  | [.ref v0, .int v1, .int v2, .int v3] => E_X1_goalsAt S v0 v1 v2 v3 m
  | _ => none
set_option maxRecDepth 100000 in
set_option maxHeartbeats 4000000 in
theorem xe_X1_goalsAt {S : xi_S} {res : xi_R} (v0 : Nat) (v1 : Int32) (v2 : Int32) (v3 : Int32) (m : xi_M) (h : E_X1_goalsAt S v0 v1 v2 v3 m = some res) : xi_X S (P_X1_goalsAt S) (0, [some (.ref v0), some (.int v1), some (.int v2), some (.int v3), none, none, none], [], m) res := by
  unfold E_X1_goalsAt at h
  refine xr_aload_n i_X1_goalsAt_0 rfl (q := 1) rfl ?_
  obtain ⟨c1, h⟩ := xi_if_some h
  refine xr_getI i_X1_goalsAt_1 xfe_X1_27 c1 (q := 4) rfl ?_
  refine xr_iload_n i_X1_goalsAt_4 rfl (q := 5) rfl ?_
  refine xr_iload_n i_X1_goalsAt_5 rfl (q := 6) rfl ?_
  obtain ⟨x3, m2, em2, h⟩ := xi_bI_some h
  refine xr_SI i_X1_goalsAt_6 xcse_X1_45 rfl (As := [.int (m.1 v0 0), .int v2, .int v3]) rfl (rest := []) rfl ((cc_X1_goalsAt_45 S _ _ _ _).trans em2) (q := 9) rfl ?_
  refine xr_aload_n i_X1_goalsAt_9 rfl (q := 10) rfl ?_
  obtain ⟨c4, h⟩ := xi_if_some h
  obtain ⟨b5, eb5, h⟩ := xi_bind_some h
  refine xr_getR i_X1_goalsAt_10 xfe_X1_18 c4 eb5 (q := 13) rfl ?_
  refine xr_iload_n i_X1_goalsAt_13 rfl (q := 14) rfl ?_
  obtain ⟨c6, h⟩ := xi_if_some h
  refine xr_iaload i_X1_goalsAt_14 c6 (q := 15) rfl ?_
  refine xr_iand i_X1_goalsAt_15 (q := 16) rfl ?_
  refine xr_istore i_X1_goalsAt_16 rfl (L2 := [some (.ref v0), some (.int v1), some (.int v2), some (.int v3), some (.int (x3 &&& (m2.1 b5 (Int32.toNatClampNeg v1)))), none, none]) rfl (q := 18) rfl ?_
  refine xr_iconst i_X1_goalsAt_18 (q := 19) rfl ?_
  refine xr_istore i_X1_goalsAt_19 rfl (L2 := [some (.ref v0), some (.int v1), some (.int v2), some (.int v3), some (.int (x3 &&& (m2.1 b5 (Int32.toNatClampNeg v1)))), some (.int (Int32.ofInt 0)), none]) rfl (q := 21) rfl ?_
  refine xr_iconst i_X1_goalsAt_21 (q := 22) rfl ?_
  refine xr_istore i_X1_goalsAt_22 rfl (L2 := [some (.ref v0), some (.int v1), some (.int v2), some (.int v3), some (.int (x3 &&& (m2.1 b5 (Int32.toNatClampNeg v1)))), some (.int (Int32.ofInt 0)), some (.int (Int32.ofInt 0))]) rfl (q := 24) rfl ?_
  exact xi_X_le (xi_le_s (xi_le_s (xi_le_n (xi_le_n (xi_le_s (xi_le_s (xi_le_s xi_le_z))))))) (xs_X1_goalsAt_24 10000 _ _ _ _ _ _ h)
set_option maxRecDepth 100000 in
theorem po_X1_goalsAt {l : Launch} {E : xi_E} {S : xi_S} {D : va_G} {tys : List (ClassId × FieldType)} (hC : xCx E S tys) : xi_Pok l E S D vwCl tys xNs RX1 xTs cX1_goalsAt 7 2 (P_X1_goalsAt S) := ⟨xi_dc_ok, by rw [hC.2]; exact xfo_X1, xkio_X1, xklo_X1, xi_calls_ok (ins := .invokestatic) (List.forall_mem_cons.mpr ⟨(xc_X1_45 (sn_X8_between hC) (by decide)), fun _ h => absurd h List.not_mem_nil⟩), xi_calls_ok (ins := .invokevirtual) (fun _ h => absurd h List.not_mem_nil)⟩
theorem sn_X1_goalsAt {l : Launch} {E : xi_E} {S : xi_S} {D : va_G} {tys : List (ClassId × FieldType)} (hC : xCx E S tys) : ∀ As m1 r m2, F_X1_goalsAt S As m1 = some (r, m2) → xi_Sound l E S D vwCl tys xNs xTs yX1_goalsAt cX1_goalsAt 7 (some .int) 2 As m1 r m2 := by
  intro As m1 r m2 h
  unfold F_X1_goalsAt at h
  split at h
  · exact xi_meth (P := P_X1_goalsAt S) (by decide) hC.1 (po_X1_goalsAt hC) (Nat.le_of_ble_eq_true rfl) rfl (xe_X1_goalsAt _ _ _ _ _ h)
  · exact xi_no h
theorem i_X0_goalsBy_0 : xi_dc cX0_goalsBy 0 = some (.iconst 2, 1) := by decide +kernel
theorem i_X0_goalsBy_1 : xi_dc cX0_goalsBy 1 = some (.iload_n 2, 1) := by decide +kernel
theorem i_X0_goalsBy_2 : xi_dc cX0_goalsBy 2 = some (.imul, 1) := by decide +kernel
theorem i_X0_goalsBy_3 : xi_dc cX0_goalsBy 3 = some (.istore 4, 2) := by decide +kernel
theorem i_X0_goalsBy_5 : xi_dc cX0_goalsBy 5 = some (.aload_n 0, 1) := by decide +kernel
theorem i_X0_goalsBy_6 : xi_dc cX0_goalsBy 6 = some (.getfield 19, 3) := by decide +kernel
theorem i_X0_goalsBy_9 : xi_dc cX0_goalsBy 9 = some (.iload 4, 2) := by decide +kernel
theorem i_X0_goalsBy_11 : xi_dc cX0_goalsBy 11 = some (.iaload, 1) := by decide +kernel
theorem i_X0_goalsBy_12 : xi_dc cX0_goalsBy 12 = some (.iload_n 3, 1) := by decide +kernel
theorem i_X0_goalsBy_13 : xi_dc cX0_goalsBy 13 = some (.invokestatic 24, 3) := by decide +kernel
theorem i_X0_goalsBy_16 : xi_dc cX0_goalsBy 16 = some (.iadd, 1) := by decide +kernel
theorem i_X0_goalsBy_17 : xi_dc cX0_goalsBy 17 = some (.istore 5, 2) := by decide +kernel
theorem i_X0_goalsBy_19 : xi_dc cX0_goalsBy 19 = some (.aload_n 0, 1) := by decide +kernel
theorem i_X0_goalsBy_20 : xi_dc cX0_goalsBy 20 = some (.getfield 19, 3) := by decide +kernel
theorem i_X0_goalsBy_23 : xi_dc cX0_goalsBy 23 = some (.iload 4, 2) := by decide +kernel
theorem i_X0_goalsBy_25 : xi_dc cX0_goalsBy 25 = some (.iconst 1, 1) := by decide +kernel
theorem i_X0_goalsBy_26 : xi_dc cX0_goalsBy 26 = some (.iadd, 1) := by decide +kernel
theorem i_X0_goalsBy_27 : xi_dc cX0_goalsBy 27 = some (.iaload, 1) := by decide +kernel
theorem i_X0_goalsBy_28 : xi_dc cX0_goalsBy 28 = some (.iload_n 3, 1) := by decide +kernel
theorem i_X0_goalsBy_29 : xi_dc cX0_goalsBy 29 = some (.invokestatic 28, 3) := by decide +kernel
theorem i_X0_goalsBy_32 : xi_dc cX0_goalsBy 32 = some (.iadd, 1) := by decide +kernel
theorem i_X0_goalsBy_33 : xi_dc cX0_goalsBy 33 = some (.istore 6, 2) := by decide +kernel
theorem i_X0_goalsBy_35 : xi_dc cX0_goalsBy 35 = some (.iload_n 3, 1) := by decide +kernel
theorem i_X0_goalsBy_36 : xi_dc cX0_goalsBy 36 = some (.invokestatic 24, 3) := by decide +kernel
theorem i_X0_goalsBy_39 : xi_dc cX0_goalsBy 39 = some (.ifCond .eq 12, 3) := by decide +kernel
theorem t_X0_goalsBy_39 : ((39 : Nat) : Int) + 12 = ((51 : Nat) : Int) := by decide +kernel
theorem i_X0_goalsBy_42 : xi_dc cX0_goalsBy 42 = some (.aload_n 0, 1) := by decide +kernel
theorem i_X0_goalsBy_43 : xi_dc cX0_goalsBy 43 = some (.iload 4, 2) := by decide +kernel
theorem i_X0_goalsBy_45 : xi_dc cX0_goalsBy 45 = some (.invokevirtual 31, 3) := by decide +kernel
theorem i_X0_goalsBy_48 : xi_dc cX0_goalsBy 48 = some (.ifCond .ne 21, 3) := by decide +kernel
theorem t_X0_goalsBy_48 : ((48 : Nat) : Int) + 21 = ((69 : Nat) : Int) := by decide +kernel
theorem i_X0_goalsBy_51 : xi_dc cX0_goalsBy 51 = some (.iload_n 3, 1) := by decide +kernel
theorem i_X0_goalsBy_52 : xi_dc cX0_goalsBy 52 = some (.invokestatic 28, 3) := by decide +kernel
theorem i_X0_goalsBy_55 : xi_dc cX0_goalsBy 55 = some (.ifCond .eq 18, 3) := by decide +kernel
theorem t_X0_goalsBy_55 : ((55 : Nat) : Int) + 18 = ((73 : Nat) : Int) := by decide +kernel
theorem i_X0_goalsBy_58 : xi_dc cX0_goalsBy 58 = some (.aload_n 0, 1) := by decide +kernel
theorem i_X0_goalsBy_59 : xi_dc cX0_goalsBy 59 = some (.iload 4, 2) := by decide +kernel
theorem i_X0_goalsBy_61 : xi_dc cX0_goalsBy 61 = some (.iconst 1, 1) := by decide +kernel
theorem i_X0_goalsBy_62 : xi_dc cX0_goalsBy 62 = some (.iadd, 1) := by decide +kernel
theorem i_X0_goalsBy_63 : xi_dc cX0_goalsBy 63 = some (.invokevirtual 31, 3) := by decide +kernel
theorem i_X0_goalsBy_66 : xi_dc cX0_goalsBy 66 = some (.ifCond .eq 7, 3) := by decide +kernel
theorem t_X0_goalsBy_66 : ((66 : Nat) : Int) + 7 = ((73 : Nat) : Int) := by decide +kernel
theorem i_X0_goalsBy_69 : xi_dc cX0_goalsBy 69 = some (.iconst 1, 1) := by decide +kernel
theorem i_X0_goalsBy_70 : xi_dc cX0_goalsBy 70 = some (.goto 4, 3) := by decide +kernel
theorem t_X0_goalsBy_70 : ((70 : Nat) : Int) + 4 = ((74 : Nat) : Int) := by decide +kernel
theorem i_X0_goalsBy_73 : xi_dc cX0_goalsBy 73 = some (.iconst 0, 1) := by decide +kernel
theorem i_X0_goalsBy_74 : xi_dc cX0_goalsBy 74 = some (.istore 7, 2) := by decide +kernel
theorem i_X0_goalsBy_76 : xi_dc cX0_goalsBy 76 = some (.iload 7, 2) := by decide +kernel
theorem i_X0_goalsBy_78 : xi_dc cX0_goalsBy 78 = some (.ifCond .ne 22, 3) := by decide +kernel
theorem t_X0_goalsBy_78 : ((78 : Nat) : Int) + 22 = ((100 : Nat) : Int) := by decide +kernel
theorem i_X0_goalsBy_81 : xi_dc cX0_goalsBy 81 = some (.iload 5, 2) := by decide +kernel
theorem i_X0_goalsBy_83 : xi_dc cX0_goalsBy 83 = some (.ifCond .lt 17, 3) := by decide +kernel
theorem t_X0_goalsBy_83 : ((83 : Nat) : Int) + 17 = ((100 : Nat) : Int) := by decide +kernel
theorem i_X0_goalsBy_86 : xi_dc cX0_goalsBy 86 = some (.iload 6, 2) := by decide +kernel
theorem i_X0_goalsBy_88 : xi_dc cX0_goalsBy 88 = some (.bipush 20, 2) := by decide +kernel
theorem i_X0_goalsBy_90 : xi_dc cX0_goalsBy 90 = some (.if_icmp .gt 10, 3) := by decide +kernel
theorem t_X0_goalsBy_90 : ((90 : Nat) : Int) + 10 = ((100 : Nat) : Int) := by decide +kernel
theorem i_X0_goalsBy_93 : xi_dc cX0_goalsBy 93 = some (.iload 5, 2) := by decide +kernel
theorem i_X0_goalsBy_95 : xi_dc cX0_goalsBy 95 = some (.iload 6, 2) := by decide +kernel
theorem i_X0_goalsBy_97 : xi_dc cX0_goalsBy 97 = some (.if_icmp .lt 5, 3) := by decide +kernel
theorem t_X0_goalsBy_97 : ((97 : Nat) : Int) + 5 = ((102 : Nat) : Int) := by decide +kernel
theorem i_X0_goalsBy_100 : xi_dc cX0_goalsBy 100 = some (.iconst (-1), 1) := by decide +kernel
theorem i_X0_goalsBy_101 : xi_dc cX0_goalsBy 101 = some (.ireturn, 1) := by decide +kernel
theorem i_X0_goalsBy_102 : xi_dc cX0_goalsBy 102 = some (.aload_n 1, 1) := by decide +kernel
theorem i_X0_goalsBy_103 : xi_dc cX0_goalsBy 103 = some (.iload_n 2, 1) := by decide +kernel
theorem i_X0_goalsBy_104 : xi_dc cX0_goalsBy 104 = some (.iload 5, 2) := by decide +kernel
theorem i_X0_goalsBy_106 : xi_dc cX0_goalsBy 106 = some (.iload 6, 2) := by decide +kernel
theorem i_X0_goalsBy_108 : xi_dc cX0_goalsBy 108 = some (.invokevirtual 34, 3) := by decide +kernel
theorem i_X0_goalsBy_111 : xi_dc cX0_goalsBy 111 = some (.ireturn, 1) := by decide +kernel
def P_X0_goalsBy (S : xi_S) : xi_P := (xi_dc cX0_goalsBy, xi_tab xfl_X0, xi_tab xki_X0, xi_tab xkl_X0, xi_tab xcs_X0, xi_tab xcv_X0, xi_calls [(24, xi_wS 1 (F_X0_first S)), (28, xi_wS 1 (F_X0_second S))], xi_calls [(31, xi_wV S 8 1 (F_X6_witnesses S)), (34, xi_wV S 4 3 (F_X1_goalsAt S))], 1)
theorem cc_X0_goalsBy_24 (S : xi_S) (a0 : Int32) (m : xi_M) : (P_X0_goalsBy S).2.2.2.2.2.2.1 24 [.int a0] m = (E_X0_first S a0 m) := by
  show xi_calls [(24, xi_wS 1 (F_X0_first S)), (28, xi_wS 1 (F_X0_second S))] 24 [.int a0] m = _
  refine Eq.trans (b := xi_wS 1 (F_X0_first S) [.int a0] m) (xi_calls_hit rfl) ?_
  exact xi_wS_eq rfl
theorem cc_X0_goalsBy_28 (S : xi_S) (a0 : Int32) (m : xi_M) : (P_X0_goalsBy S).2.2.2.2.2.2.1 28 [.int a0] m = (E_X0_second S a0 m) := by
  show xi_calls [(24, xi_wS 1 (F_X0_first S)), (28, xi_wS 1 (F_X0_second S))] 28 [.int a0] m = _
  refine Eq.trans (b := xi_calls [(28, xi_wS 1 (F_X0_second S))] 28 [.int a0] m) (xi_calls_miss rfl) ?_
  refine Eq.trans (b := xi_wS 1 (F_X0_second S) [.int a0] m) (xi_calls_hit rfl) ?_
  exact xi_wS_eq rfl
theorem cc_X0_goalsBy_31 (S : xi_S) (a0 : Nat) (a1 : Int32) (m : xi_M) : (P_X0_goalsBy S).2.2.2.2.2.2.2.1 31 [.ref a0, .int a1] m = (if S.1 a0 = 8 then E_X6_witnesses S a0 a1 m else none) := by
  show xi_calls [(31, xi_wV S 8 1 (F_X6_witnesses S)), (34, xi_wV S 4 3 (F_X1_goalsAt S))] 31 [.ref a0, .int a1] m = _
  refine Eq.trans (b := xi_wV S 8 1 (F_X6_witnesses S) [.ref a0, .int a1] m) (xi_calls_hit rfl) ?_
  exact xi_wV_eq rfl
theorem cc_X0_goalsBy_34 (S : xi_S) (a0 : Nat) (a1 : Int32) (a2 : Int32) (a3 : Int32) (m : xi_M) : (P_X0_goalsBy S).2.2.2.2.2.2.2.1 34 [.ref a0, .int a1, .int a2, .int a3] m = (if S.1 a0 = 4 then E_X1_goalsAt S a0 a1 a2 a3 m else none) := by
  show xi_calls [(31, xi_wV S 8 1 (F_X6_witnesses S)), (34, xi_wV S 4 3 (F_X1_goalsAt S))] 34 [.ref a0, .int a1, .int a2, .int a3] m = _
  refine Eq.trans (b := xi_calls [(34, xi_wV S 4 3 (F_X1_goalsAt S))] 34 [.ref a0, .int a1, .int a2, .int a3] m) (xi_calls_miss rfl) ?_
  refine Eq.trans (b := xi_wV S 4 3 (F_X1_goalsAt S) [.ref a0, .int a1, .int a2, .int a3] m) (xi_calls_hit rfl) ?_
  exact xi_wV_eq rfl
def E_X0_goalsBy (S : xi_S) (v0 : Nat) (v1 : Nat) (v2 : Int32) (v3 : Int32) (m : xi_M) : Option xi_R :=
  if S.1 v0 = 8 then (S.2.2 v0 5).bind fun b2 =>
    if S.1 b2 = 0 ∧ ¬ (((Int32.ofInt 2) * v2) < 0 ∨ S.2.1 b2 ≤ Int32.toNatClampNeg ((Int32.ofInt 2) * v2)) then
      xi_bI (E_X0_first S v3 m) fun x5 m4 =>
      if S.1 v0 = 8 then (S.2.2 v0 5).bind fun b7 =>
        if S.1 b7 = 0 ∧ ¬ ((((Int32.ofInt 2) * v2) + (Int32.ofInt 1)) < 0 ∨ S.2.1 b7 ≤ Int32.toNatClampNeg (((Int32.ofInt 2) * v2) + (Int32.ofInt 1))) then
          xi_bI (E_X0_second S v3 m4) fun x10 m9 =>
          xi_bI (E_X0_first S v3 m9) fun x12 m11 =>
          if x12 = 0 then
            xi_bI (E_X0_second S v3 m11) fun x14 m13 =>
            if x14 = 0 then
              if (Int32.ofInt 0) = 0 then
                if ((m.1 b2 (Int32.toNatClampNeg ((Int32.ofInt 2) * v2))) + x5) < 0 then
                  some (some (.int (Int32.ofInt (-1))), m13)
                else
                  if ((Int8.ofInt 20).toInt32) < ((m4.1 b7 (Int32.toNatClampNeg (((Int32.ofInt 2) * v2) + (Int32.ofInt 1)))) + x10) then
                    some (some (.int (Int32.ofInt (-1))), m13)
                  else
                    if ((m.1 b2 (Int32.toNatClampNeg ((Int32.ofInt 2) * v2))) + x5) < ((m4.1 b7 (Int32.toNatClampNeg (((Int32.ofInt 2) * v2) + (Int32.ofInt 1)))) + x10) then
                      xi_bI (if S.1 v1 = 4 then E_X1_goalsAt S v1 v2 ((m.1 b2 (Int32.toNatClampNeg ((Int32.ofInt 2) * v2))) + x5) ((m4.1 b7 (Int32.toNatClampNeg (((Int32.ofInt 2) * v2) + (Int32.ofInt 1)))) + x10) m13 else none) fun x16 m15 =>
                      some (some (.int x16), m15)
                    else
                      some (some (.int (Int32.ofInt (-1))), m13)
              else
                some (some (.int (Int32.ofInt (-1))), m13)
            else
              xi_bI (if S.1 v0 = 8 then E_X6_witnesses S v0 (((Int32.ofInt 2) * v2) + (Int32.ofInt 1)) m13 else none) fun x22 m21 =>
              if x22 = 0 then
                if (Int32.ofInt 0) = 0 then
                  if ((m.1 b2 (Int32.toNatClampNeg ((Int32.ofInt 2) * v2))) + x5) < 0 then
                    some (some (.int (Int32.ofInt (-1))), m21)
                  else
                    if ((Int8.ofInt 20).toInt32) < ((m4.1 b7 (Int32.toNatClampNeg (((Int32.ofInt 2) * v2) + (Int32.ofInt 1)))) + x10) then
                      some (some (.int (Int32.ofInt (-1))), m21)
                    else
                      if ((m.1 b2 (Int32.toNatClampNeg ((Int32.ofInt 2) * v2))) + x5) < ((m4.1 b7 (Int32.toNatClampNeg (((Int32.ofInt 2) * v2) + (Int32.ofInt 1)))) + x10) then
                        xi_bI (if S.1 v1 = 4 then E_X1_goalsAt S v1 v2 ((m.1 b2 (Int32.toNatClampNeg ((Int32.ofInt 2) * v2))) + x5) ((m4.1 b7 (Int32.toNatClampNeg (((Int32.ofInt 2) * v2) + (Int32.ofInt 1)))) + x10) m21 else none) fun x24 m23 =>
                        some (some (.int x24), m23)
                      else
                        some (some (.int (Int32.ofInt (-1))), m21)
                else
                  some (some (.int (Int32.ofInt (-1))), m21)
              else
                if (Int32.ofInt 1) = 0 then
                  if ((m.1 b2 (Int32.toNatClampNeg ((Int32.ofInt 2) * v2))) + x5) < 0 then
                    some (some (.int (Int32.ofInt (-1))), m21)
                  else
                    if ((Int8.ofInt 20).toInt32) < ((m4.1 b7 (Int32.toNatClampNeg (((Int32.ofInt 2) * v2) + (Int32.ofInt 1)))) + x10) then
                      some (some (.int (Int32.ofInt (-1))), m21)
                    else
                      if ((m.1 b2 (Int32.toNatClampNeg ((Int32.ofInt 2) * v2))) + x5) < ((m4.1 b7 (Int32.toNatClampNeg (((Int32.ofInt 2) * v2) + (Int32.ofInt 1)))) + x10) then
                        xi_bI (if S.1 v1 = 4 then E_X1_goalsAt S v1 v2 ((m.1 b2 (Int32.toNatClampNeg ((Int32.ofInt 2) * v2))) + x5) ((m4.1 b7 (Int32.toNatClampNeg (((Int32.ofInt 2) * v2) + (Int32.ofInt 1)))) + x10) m21 else none) fun x30 m29 =>
                        some (some (.int x30), m29)
                      else
                        some (some (.int (Int32.ofInt (-1))), m21)
                else
                  some (some (.int (Int32.ofInt (-1))), m21)
          else
            xi_bI (if S.1 v0 = 8 then E_X6_witnesses S v0 ((Int32.ofInt 2) * v2) m11 else none) fun x38 m37 =>
            if x38 = 0 then
              xi_bI (E_X0_second S v3 m37) fun x46 m45 =>
              if x46 = 0 then
                if (Int32.ofInt 0) = 0 then
                  if ((m.1 b2 (Int32.toNatClampNeg ((Int32.ofInt 2) * v2))) + x5) < 0 then
                    some (some (.int (Int32.ofInt (-1))), m45)
                  else
                    if ((Int8.ofInt 20).toInt32) < ((m4.1 b7 (Int32.toNatClampNeg (((Int32.ofInt 2) * v2) + (Int32.ofInt 1)))) + x10) then
                      some (some (.int (Int32.ofInt (-1))), m45)
                    else
                      if ((m.1 b2 (Int32.toNatClampNeg ((Int32.ofInt 2) * v2))) + x5) < ((m4.1 b7 (Int32.toNatClampNeg (((Int32.ofInt 2) * v2) + (Int32.ofInt 1)))) + x10) then
                        xi_bI (if S.1 v1 = 4 then E_X1_goalsAt S v1 v2 ((m.1 b2 (Int32.toNatClampNeg ((Int32.ofInt 2) * v2))) + x5) ((m4.1 b7 (Int32.toNatClampNeg (((Int32.ofInt 2) * v2) + (Int32.ofInt 1)))) + x10) m45 else none) fun x48 m47 =>
                        some (some (.int x48), m47)
                      else
                        some (some (.int (Int32.ofInt (-1))), m45)
                else
                  some (some (.int (Int32.ofInt (-1))), m45)
              else
                xi_bI (if S.1 v0 = 8 then E_X6_witnesses S v0 (((Int32.ofInt 2) * v2) + (Int32.ofInt 1)) m45 else none) fun x54 m53 =>
                if x54 = 0 then
                  if (Int32.ofInt 0) = 0 then
                    if ((m.1 b2 (Int32.toNatClampNeg ((Int32.ofInt 2) * v2))) + x5) < 0 then
                      some (some (.int (Int32.ofInt (-1))), m53)
                    else
                      if ((Int8.ofInt 20).toInt32) < ((m4.1 b7 (Int32.toNatClampNeg (((Int32.ofInt 2) * v2) + (Int32.ofInt 1)))) + x10) then
                        some (some (.int (Int32.ofInt (-1))), m53)
                      else
                        if ((m.1 b2 (Int32.toNatClampNeg ((Int32.ofInt 2) * v2))) + x5) < ((m4.1 b7 (Int32.toNatClampNeg (((Int32.ofInt 2) * v2) + (Int32.ofInt 1)))) + x10) then
                          xi_bI (if S.1 v1 = 4 then E_X1_goalsAt S v1 v2 ((m.1 b2 (Int32.toNatClampNeg ((Int32.ofInt 2) * v2))) + x5) ((m4.1 b7 (Int32.toNatClampNeg (((Int32.ofInt 2) * v2) + (Int32.ofInt 1)))) + x10) m53 else none) fun x56 m55 =>
                          some (some (.int x56), m55)
                        else
                          some (some (.int (Int32.ofInt (-1))), m53)
                  else
                    some (some (.int (Int32.ofInt (-1))), m53)
                else
                  if (Int32.ofInt 1) = 0 then
                    if ((m.1 b2 (Int32.toNatClampNeg ((Int32.ofInt 2) * v2))) + x5) < 0 then
                      some (some (.int (Int32.ofInt (-1))), m53)
                    else
                      if ((Int8.ofInt 20).toInt32) < ((m4.1 b7 (Int32.toNatClampNeg (((Int32.ofInt 2) * v2) + (Int32.ofInt 1)))) + x10) then
                        some (some (.int (Int32.ofInt (-1))), m53)
                      else
                        if ((m.1 b2 (Int32.toNatClampNeg ((Int32.ofInt 2) * v2))) + x5) < ((m4.1 b7 (Int32.toNatClampNeg (((Int32.ofInt 2) * v2) + (Int32.ofInt 1)))) + x10) then
                          xi_bI (if S.1 v1 = 4 then E_X1_goalsAt S v1 v2 ((m.1 b2 (Int32.toNatClampNeg ((Int32.ofInt 2) * v2))) + x5) ((m4.1 b7 (Int32.toNatClampNeg (((Int32.ofInt 2) * v2) + (Int32.ofInt 1)))) + x10) m53 else none) fun x62 m61 =>
                          some (some (.int x62), m61)
                        else
                          some (some (.int (Int32.ofInt (-1))), m53)
                  else
                    some (some (.int (Int32.ofInt (-1))), m53)
            else
              if (Int32.ofInt 1) = 0 then
                if ((m.1 b2 (Int32.toNatClampNeg ((Int32.ofInt 2) * v2))) + x5) < 0 then
                  some (some (.int (Int32.ofInt (-1))), m37)
                else
                  if ((Int8.ofInt 20).toInt32) < ((m4.1 b7 (Int32.toNatClampNeg (((Int32.ofInt 2) * v2) + (Int32.ofInt 1)))) + x10) then
                    some (some (.int (Int32.ofInt (-1))), m37)
                  else
                    if ((m.1 b2 (Int32.toNatClampNeg ((Int32.ofInt 2) * v2))) + x5) < ((m4.1 b7 (Int32.toNatClampNeg (((Int32.ofInt 2) * v2) + (Int32.ofInt 1)))) + x10) then
                      xi_bI (if S.1 v1 = 4 then E_X1_goalsAt S v1 v2 ((m.1 b2 (Int32.toNatClampNeg ((Int32.ofInt 2) * v2))) + x5) ((m4.1 b7 (Int32.toNatClampNeg (((Int32.ofInt 2) * v2) + (Int32.ofInt 1)))) + x10) m37 else none) fun x40 m39 =>
                      some (some (.int x40), m39)
                    else
                      some (some (.int (Int32.ofInt (-1))), m37)
              else
                some (some (.int (Int32.ofInt (-1))), m37)
        else none
      else none
    else none
  else none
def F_X0_goalsBy (S : xi_S) : xi_F := fun As m => match As with
  | [.ref v0, .ref v1, .int v2, .int v3] => E_X0_goalsBy S v0 v1 v2 v3 m
  | _ => none
set_option maxRecDepth 100000 in
set_option maxHeartbeats 4000000 in
theorem xe_X0_goalsBy {S : xi_S} {res : xi_R} (v0 : Nat) (v1 : Nat) (v2 : Int32) (v3 : Int32) (m : xi_M) (h : E_X0_goalsBy S v0 v1 v2 v3 m = some res) : xi_X S (P_X0_goalsBy S) (0, [some (.ref v0), some (.ref v1), some (.int v2), some (.int v3), none, none, none, none], [], m) res := by
  unfold E_X0_goalsBy at h
  refine xr_iconst i_X0_goalsBy_0 (q := 1) rfl ?_
  refine xr_iload_n i_X0_goalsBy_1 rfl (q := 2) rfl ?_
  refine xr_imul i_X0_goalsBy_2 (q := 3) rfl ?_
  refine xr_istore i_X0_goalsBy_3 rfl (L2 := [some (.ref v0), some (.ref v1), some (.int v2), some (.int v3), some (.int ((Int32.ofInt 2) * v2)), none, none, none]) rfl (q := 5) rfl ?_
  refine xr_aload_n i_X0_goalsBy_5 rfl (q := 6) rfl ?_
  obtain ⟨c1, h⟩ := xi_if_some h
  obtain ⟨b2, eb2, h⟩ := xi_bind_some h
  refine xr_getR i_X0_goalsBy_6 xfe_X0_19 c1 eb2 (q := 9) rfl ?_
  refine xr_iload i_X0_goalsBy_9 rfl (q := 11) rfl ?_
  obtain ⟨c3, h⟩ := xi_if_some h
  refine xr_iaload i_X0_goalsBy_11 c3 (q := 12) rfl ?_
  refine xr_iload_n i_X0_goalsBy_12 rfl (q := 13) rfl ?_
  obtain ⟨x5, m4, em4, h⟩ := xi_bI_some h
  refine xr_SI i_X0_goalsBy_13 xcse_X0_24 rfl (As := [.int v3]) rfl (rest := [.int (m.1 b2 (Int32.toNatClampNeg ((Int32.ofInt 2) * v2)))]) rfl ((cc_X0_goalsBy_24 S _ _).trans em4) (q := 16) rfl ?_
  refine xr_iadd i_X0_goalsBy_16 (q := 17) rfl ?_
  refine xr_istore i_X0_goalsBy_17 rfl (L2 := [some (.ref v0), some (.ref v1), some (.int v2), some (.int v3), some (.int ((Int32.ofInt 2) * v2)), some (.int ((m.1 b2 (Int32.toNatClampNeg ((Int32.ofInt 2) * v2))) + x5)), none, none]) rfl (q := 19) rfl ?_
  refine xr_aload_n i_X0_goalsBy_19 rfl (q := 20) rfl ?_
  obtain ⟨c6, h⟩ := xi_if_some h
  obtain ⟨b7, eb7, h⟩ := xi_bind_some h
  refine xr_getR i_X0_goalsBy_20 xfe_X0_19 c6 eb7 (q := 23) rfl ?_
  refine xr_iload i_X0_goalsBy_23 rfl (q := 25) rfl ?_
  refine xr_iconst i_X0_goalsBy_25 (q := 26) rfl ?_
  refine xr_iadd i_X0_goalsBy_26 (q := 27) rfl ?_
  obtain ⟨c8, h⟩ := xi_if_some h
  refine xr_iaload i_X0_goalsBy_27 c8 (q := 28) rfl ?_
  refine xr_iload_n i_X0_goalsBy_28 rfl (q := 29) rfl ?_
  obtain ⟨x10, m9, em9, h⟩ := xi_bI_some h
  refine xr_SI i_X0_goalsBy_29 xcse_X0_28 rfl (As := [.int v3]) rfl (rest := [.int (m4.1 b7 (Int32.toNatClampNeg (((Int32.ofInt 2) * v2) + (Int32.ofInt 1))))]) rfl ((cc_X0_goalsBy_28 S _ _).trans em9) (q := 32) rfl ?_
  refine xr_iadd i_X0_goalsBy_32 (q := 33) rfl ?_
  refine xr_istore i_X0_goalsBy_33 rfl (L2 := [some (.ref v0), some (.ref v1), some (.int v2), some (.int v3), some (.int ((Int32.ofInt 2) * v2)), some (.int ((m.1 b2 (Int32.toNatClampNeg ((Int32.ofInt 2) * v2))) + x5)), some (.int ((m4.1 b7 (Int32.toNatClampNeg (((Int32.ofInt 2) * v2) + (Int32.ofInt 1)))) + x10)), none]) rfl (q := 35) rfl ?_
  refine xr_iload_n i_X0_goalsBy_35 rfl (q := 36) rfl ?_
  obtain ⟨x12, m11, em11, h⟩ := xi_bI_some h
  refine xr_SI i_X0_goalsBy_36 xcse_X0_24 rfl (As := [.int v3]) rfl (rest := []) rfl ((cc_X0_goalsBy_24 S _ _).trans em11) (q := 39) rfl ?_
  by_cases c70 : x12 = 0
  · replace h := (if_pos c70).symm.trans h
    refine xr_ifCond_eq_p i_X0_goalsBy_39 c70 (q := 51) t_X0_goalsBy_39 (q2 := 42) rfl ?_
    refine xr_iload_n i_X0_goalsBy_51 rfl (q := 52) rfl ?_
    obtain ⟨x14, m13, em13, h⟩ := xi_bI_some h
    refine xr_SI i_X0_goalsBy_52 xcse_X0_28 rfl (As := [.int v3]) rfl (rest := []) rfl ((cc_X0_goalsBy_28 S _ _).trans em13) (q := 55) rfl ?_
    by_cases c36 : x14 = 0
    · replace h := (if_pos c36).symm.trans h
      refine xr_ifCond_eq_p i_X0_goalsBy_55 c36 (q := 73) t_X0_goalsBy_55 (q2 := 58) rfl ?_
      refine xr_iconst i_X0_goalsBy_73 (q := 74) rfl ?_
      refine xr_istore i_X0_goalsBy_74 rfl (L2 := [some (.ref v0), some (.ref v1), some (.int v2), some (.int v3), some (.int ((Int32.ofInt 2) * v2)), some (.int ((m.1 b2 (Int32.toNatClampNeg ((Int32.ofInt 2) * v2))) + x5)), some (.int ((m4.1 b7 (Int32.toNatClampNeg (((Int32.ofInt 2) * v2) + (Int32.ofInt 1)))) + x10)), some (.int (Int32.ofInt 0))]) rfl (q := 76) rfl ?_
      refine xr_iload i_X0_goalsBy_76 rfl (q := 78) rfl ?_
      by_cases c20 : (Int32.ofInt 0) = 0
      · replace h := (if_pos c20).symm.trans h
        refine xr_ifCond_ne_p i_X0_goalsBy_78 c20 (q := 100) t_X0_goalsBy_78 (q2 := 81) rfl ?_
        refine xr_iload i_X0_goalsBy_81 rfl (q := 83) rfl ?_
        by_cases c19 : ((m.1 b2 (Int32.toNatClampNeg ((Int32.ofInt 2) * v2))) + x5) < 0
        · replace h := (if_pos c19).symm.trans h
          refine xr_ifCond_lt_p i_X0_goalsBy_83 c19 (q := 100) t_X0_goalsBy_83 (q2 := 86) rfl ?_
          refine xr_iconst i_X0_goalsBy_100 (q := 101) rfl ?_
          exact xr_ireturn i_X0_goalsBy_101 rfl h
        · replace h := (if_neg c19).symm.trans h
          refine xr_ifCond_lt_n i_X0_goalsBy_83 c19 (q := 100) t_X0_goalsBy_83 (q2 := 86) rfl ?_
          refine xr_iload i_X0_goalsBy_86 rfl (q := 88) rfl ?_
          refine xr_bipush i_X0_goalsBy_88 (q := 90) rfl ?_
          by_cases c18 : ((Int8.ofInt 20).toInt32) < ((m4.1 b7 (Int32.toNatClampNeg (((Int32.ofInt 2) * v2) + (Int32.ofInt 1)))) + x10)
          · replace h := (if_pos c18).symm.trans h
            refine xr_if_icmp_gt_p i_X0_goalsBy_90 c18 (q := 100) t_X0_goalsBy_90 (q2 := 93) rfl ?_
            refine xr_iconst i_X0_goalsBy_100 (q := 101) rfl ?_
            exact xr_ireturn i_X0_goalsBy_101 rfl h
          · replace h := (if_neg c18).symm.trans h
            refine xr_if_icmp_gt_n i_X0_goalsBy_90 c18 (q := 100) t_X0_goalsBy_90 (q2 := 93) rfl ?_
            refine xr_iload i_X0_goalsBy_93 rfl (q := 95) rfl ?_
            refine xr_iload i_X0_goalsBy_95 rfl (q := 97) rfl ?_
            by_cases c17 : ((m.1 b2 (Int32.toNatClampNeg ((Int32.ofInt 2) * v2))) + x5) < ((m4.1 b7 (Int32.toNatClampNeg (((Int32.ofInt 2) * v2) + (Int32.ofInt 1)))) + x10)
            · replace h := (if_pos c17).symm.trans h
              refine xr_if_icmp_lt_p i_X0_goalsBy_97 c17 (q := 102) t_X0_goalsBy_97 (q2 := 100) rfl ?_
              refine xr_aload_n i_X0_goalsBy_102 rfl (q := 103) rfl ?_
              refine xr_iload_n i_X0_goalsBy_103 rfl (q := 104) rfl ?_
              refine xr_iload i_X0_goalsBy_104 rfl (q := 106) rfl ?_
              refine xr_iload i_X0_goalsBy_106 rfl (q := 108) rfl ?_
              obtain ⟨x16, m15, em15, h⟩ := xi_bI_some h
              refine xr_VI i_X0_goalsBy_108 xcve_X0_34 rfl (As := [.ref v1, .int v2, .int ((m.1 b2 (Int32.toNatClampNeg ((Int32.ofInt 2) * v2))) + x5), .int ((m4.1 b7 (Int32.toNatClampNeg (((Int32.ofInt 2) * v2) + (Int32.ofInt 1)))) + x10)]) rfl (rest := []) rfl ((cc_X0_goalsBy_34 S _ _ _ _ _).trans em15) (q := 111) rfl ?_
              exact xr_ireturn i_X0_goalsBy_111 rfl h
            · replace h := (if_neg c17).symm.trans h
              refine xr_if_icmp_lt_n i_X0_goalsBy_97 c17 (q := 102) t_X0_goalsBy_97 (q2 := 100) rfl ?_
              refine xr_iconst i_X0_goalsBy_100 (q := 101) rfl ?_
              exact xr_ireturn i_X0_goalsBy_101 rfl h
      · replace h := (if_neg c20).symm.trans h
        refine xr_ifCond_ne_n i_X0_goalsBy_78 c20 (q := 100) t_X0_goalsBy_78 (q2 := 81) rfl ?_
        refine xr_iconst i_X0_goalsBy_100 (q := 101) rfl ?_
        exact xr_ireturn i_X0_goalsBy_101 rfl h
    · replace h := (if_neg c36).symm.trans h
      refine xr_ifCond_eq_n i_X0_goalsBy_55 c36 (q := 73) t_X0_goalsBy_55 (q2 := 58) rfl ?_
      refine xr_aload_n i_X0_goalsBy_58 rfl (q := 59) rfl ?_
      refine xr_iload i_X0_goalsBy_59 rfl (q := 61) rfl ?_
      refine xr_iconst i_X0_goalsBy_61 (q := 62) rfl ?_
      refine xr_iadd i_X0_goalsBy_62 (q := 63) rfl ?_
      obtain ⟨x22, m21, em21, h⟩ := xi_bI_some h
      refine xr_VI i_X0_goalsBy_63 xcve_X0_31 rfl (As := [.ref v0, .int (((Int32.ofInt 2) * v2) + (Int32.ofInt 1))]) rfl (rest := []) rfl ((cc_X0_goalsBy_31 S _ _ _).trans em21) (q := 66) rfl ?_
      by_cases c35 : x22 = 0
      · replace h := (if_pos c35).symm.trans h
        refine xr_ifCond_eq_p i_X0_goalsBy_66 c35 (q := 73) t_X0_goalsBy_66 (q2 := 69) rfl ?_
        refine xr_iconst i_X0_goalsBy_73 (q := 74) rfl ?_
        refine xr_istore i_X0_goalsBy_74 rfl (L2 := [some (.ref v0), some (.ref v1), some (.int v2), some (.int v3), some (.int ((Int32.ofInt 2) * v2)), some (.int ((m.1 b2 (Int32.toNatClampNeg ((Int32.ofInt 2) * v2))) + x5)), some (.int ((m4.1 b7 (Int32.toNatClampNeg (((Int32.ofInt 2) * v2) + (Int32.ofInt 1)))) + x10)), some (.int (Int32.ofInt 0))]) rfl (q := 76) rfl ?_
        refine xr_iload i_X0_goalsBy_76 rfl (q := 78) rfl ?_
        by_cases c28 : (Int32.ofInt 0) = 0
        · replace h := (if_pos c28).symm.trans h
          refine xr_ifCond_ne_p i_X0_goalsBy_78 c28 (q := 100) t_X0_goalsBy_78 (q2 := 81) rfl ?_
          refine xr_iload i_X0_goalsBy_81 rfl (q := 83) rfl ?_
          by_cases c27 : ((m.1 b2 (Int32.toNatClampNeg ((Int32.ofInt 2) * v2))) + x5) < 0
          · replace h := (if_pos c27).symm.trans h
            refine xr_ifCond_lt_p i_X0_goalsBy_83 c27 (q := 100) t_X0_goalsBy_83 (q2 := 86) rfl ?_
            refine xr_iconst i_X0_goalsBy_100 (q := 101) rfl ?_
            exact xr_ireturn i_X0_goalsBy_101 rfl h
          · replace h := (if_neg c27).symm.trans h
            refine xr_ifCond_lt_n i_X0_goalsBy_83 c27 (q := 100) t_X0_goalsBy_83 (q2 := 86) rfl ?_
            refine xr_iload i_X0_goalsBy_86 rfl (q := 88) rfl ?_
            refine xr_bipush i_X0_goalsBy_88 (q := 90) rfl ?_
            by_cases c26 : ((Int8.ofInt 20).toInt32) < ((m4.1 b7 (Int32.toNatClampNeg (((Int32.ofInt 2) * v2) + (Int32.ofInt 1)))) + x10)
            · replace h := (if_pos c26).symm.trans h
              refine xr_if_icmp_gt_p i_X0_goalsBy_90 c26 (q := 100) t_X0_goalsBy_90 (q2 := 93) rfl ?_
              refine xr_iconst i_X0_goalsBy_100 (q := 101) rfl ?_
              exact xr_ireturn i_X0_goalsBy_101 rfl h
            · replace h := (if_neg c26).symm.trans h
              refine xr_if_icmp_gt_n i_X0_goalsBy_90 c26 (q := 100) t_X0_goalsBy_90 (q2 := 93) rfl ?_
              refine xr_iload i_X0_goalsBy_93 rfl (q := 95) rfl ?_
              refine xr_iload i_X0_goalsBy_95 rfl (q := 97) rfl ?_
              by_cases c25 : ((m.1 b2 (Int32.toNatClampNeg ((Int32.ofInt 2) * v2))) + x5) < ((m4.1 b7 (Int32.toNatClampNeg (((Int32.ofInt 2) * v2) + (Int32.ofInt 1)))) + x10)
              · replace h := (if_pos c25).symm.trans h
                refine xr_if_icmp_lt_p i_X0_goalsBy_97 c25 (q := 102) t_X0_goalsBy_97 (q2 := 100) rfl ?_
                refine xr_aload_n i_X0_goalsBy_102 rfl (q := 103) rfl ?_
                refine xr_iload_n i_X0_goalsBy_103 rfl (q := 104) rfl ?_
                refine xr_iload i_X0_goalsBy_104 rfl (q := 106) rfl ?_
                refine xr_iload i_X0_goalsBy_106 rfl (q := 108) rfl ?_
                obtain ⟨x24, m23, em23, h⟩ := xi_bI_some h
                refine xr_VI i_X0_goalsBy_108 xcve_X0_34 rfl (As := [.ref v1, .int v2, .int ((m.1 b2 (Int32.toNatClampNeg ((Int32.ofInt 2) * v2))) + x5), .int ((m4.1 b7 (Int32.toNatClampNeg (((Int32.ofInt 2) * v2) + (Int32.ofInt 1)))) + x10)]) rfl (rest := []) rfl ((cc_X0_goalsBy_34 S _ _ _ _ _).trans em23) (q := 111) rfl ?_
                exact xr_ireturn i_X0_goalsBy_111 rfl h
              · replace h := (if_neg c25).symm.trans h
                refine xr_if_icmp_lt_n i_X0_goalsBy_97 c25 (q := 102) t_X0_goalsBy_97 (q2 := 100) rfl ?_
                refine xr_iconst i_X0_goalsBy_100 (q := 101) rfl ?_
                exact xr_ireturn i_X0_goalsBy_101 rfl h
        · replace h := (if_neg c28).symm.trans h
          refine xr_ifCond_ne_n i_X0_goalsBy_78 c28 (q := 100) t_X0_goalsBy_78 (q2 := 81) rfl ?_
          refine xr_iconst i_X0_goalsBy_100 (q := 101) rfl ?_
          exact xr_ireturn i_X0_goalsBy_101 rfl h
      · replace h := (if_neg c35).symm.trans h
        refine xr_ifCond_eq_n i_X0_goalsBy_66 c35 (q := 73) t_X0_goalsBy_66 (q2 := 69) rfl ?_
        refine xr_iconst i_X0_goalsBy_69 (q := 70) rfl ?_
        refine xr_goto i_X0_goalsBy_70 (q := 74) t_X0_goalsBy_70 ?_
        refine xr_istore i_X0_goalsBy_74 rfl (L2 := [some (.ref v0), some (.ref v1), some (.int v2), some (.int v3), some (.int ((Int32.ofInt 2) * v2)), some (.int ((m.1 b2 (Int32.toNatClampNeg ((Int32.ofInt 2) * v2))) + x5)), some (.int ((m4.1 b7 (Int32.toNatClampNeg (((Int32.ofInt 2) * v2) + (Int32.ofInt 1)))) + x10)), some (.int (Int32.ofInt 1))]) rfl (q := 76) rfl ?_
        refine xr_iload i_X0_goalsBy_76 rfl (q := 78) rfl ?_
        by_cases c34 : (Int32.ofInt 1) = 0
        · replace h := (if_pos c34).symm.trans h
          refine xr_ifCond_ne_p i_X0_goalsBy_78 c34 (q := 100) t_X0_goalsBy_78 (q2 := 81) rfl ?_
          refine xr_iload i_X0_goalsBy_81 rfl (q := 83) rfl ?_
          by_cases c33 : ((m.1 b2 (Int32.toNatClampNeg ((Int32.ofInt 2) * v2))) + x5) < 0
          · replace h := (if_pos c33).symm.trans h
            refine xr_ifCond_lt_p i_X0_goalsBy_83 c33 (q := 100) t_X0_goalsBy_83 (q2 := 86) rfl ?_
            refine xr_iconst i_X0_goalsBy_100 (q := 101) rfl ?_
            exact xr_ireturn i_X0_goalsBy_101 rfl h
          · replace h := (if_neg c33).symm.trans h
            refine xr_ifCond_lt_n i_X0_goalsBy_83 c33 (q := 100) t_X0_goalsBy_83 (q2 := 86) rfl ?_
            refine xr_iload i_X0_goalsBy_86 rfl (q := 88) rfl ?_
            refine xr_bipush i_X0_goalsBy_88 (q := 90) rfl ?_
            by_cases c32 : ((Int8.ofInt 20).toInt32) < ((m4.1 b7 (Int32.toNatClampNeg (((Int32.ofInt 2) * v2) + (Int32.ofInt 1)))) + x10)
            · replace h := (if_pos c32).symm.trans h
              refine xr_if_icmp_gt_p i_X0_goalsBy_90 c32 (q := 100) t_X0_goalsBy_90 (q2 := 93) rfl ?_
              refine xr_iconst i_X0_goalsBy_100 (q := 101) rfl ?_
              exact xr_ireturn i_X0_goalsBy_101 rfl h
            · replace h := (if_neg c32).symm.trans h
              refine xr_if_icmp_gt_n i_X0_goalsBy_90 c32 (q := 100) t_X0_goalsBy_90 (q2 := 93) rfl ?_
              refine xr_iload i_X0_goalsBy_93 rfl (q := 95) rfl ?_
              refine xr_iload i_X0_goalsBy_95 rfl (q := 97) rfl ?_
              by_cases c31 : ((m.1 b2 (Int32.toNatClampNeg ((Int32.ofInt 2) * v2))) + x5) < ((m4.1 b7 (Int32.toNatClampNeg (((Int32.ofInt 2) * v2) + (Int32.ofInt 1)))) + x10)
              · replace h := (if_pos c31).symm.trans h
                refine xr_if_icmp_lt_p i_X0_goalsBy_97 c31 (q := 102) t_X0_goalsBy_97 (q2 := 100) rfl ?_
                refine xr_aload_n i_X0_goalsBy_102 rfl (q := 103) rfl ?_
                refine xr_iload_n i_X0_goalsBy_103 rfl (q := 104) rfl ?_
                refine xr_iload i_X0_goalsBy_104 rfl (q := 106) rfl ?_
                refine xr_iload i_X0_goalsBy_106 rfl (q := 108) rfl ?_
                obtain ⟨x30, m29, em29, h⟩ := xi_bI_some h
                refine xr_VI i_X0_goalsBy_108 xcve_X0_34 rfl (As := [.ref v1, .int v2, .int ((m.1 b2 (Int32.toNatClampNeg ((Int32.ofInt 2) * v2))) + x5), .int ((m4.1 b7 (Int32.toNatClampNeg (((Int32.ofInt 2) * v2) + (Int32.ofInt 1)))) + x10)]) rfl (rest := []) rfl ((cc_X0_goalsBy_34 S _ _ _ _ _).trans em29) (q := 111) rfl ?_
                exact xr_ireturn i_X0_goalsBy_111 rfl h
              · replace h := (if_neg c31).symm.trans h
                refine xr_if_icmp_lt_n i_X0_goalsBy_97 c31 (q := 102) t_X0_goalsBy_97 (q2 := 100) rfl ?_
                refine xr_iconst i_X0_goalsBy_100 (q := 101) rfl ?_
                exact xr_ireturn i_X0_goalsBy_101 rfl h
        · replace h := (if_neg c34).symm.trans h
          refine xr_ifCond_ne_n i_X0_goalsBy_78 c34 (q := 100) t_X0_goalsBy_78 (q2 := 81) rfl ?_
          refine xr_iconst i_X0_goalsBy_100 (q := 101) rfl ?_
          exact xr_ireturn i_X0_goalsBy_101 rfl h
  · replace h := (if_neg c70).symm.trans h
    refine xr_ifCond_eq_n i_X0_goalsBy_39 c70 (q := 51) t_X0_goalsBy_39 (q2 := 42) rfl ?_
    refine xr_aload_n i_X0_goalsBy_42 rfl (q := 43) rfl ?_
    refine xr_iload i_X0_goalsBy_43 rfl (q := 45) rfl ?_
    obtain ⟨x38, m37, em37, h⟩ := xi_bI_some h
    refine xr_VI i_X0_goalsBy_45 xcve_X0_31 rfl (As := [.ref v0, .int ((Int32.ofInt 2) * v2)]) rfl (rest := []) rfl ((cc_X0_goalsBy_31 S _ _ _).trans em37) (q := 48) rfl ?_
    by_cases c69 : x38 = 0
    · replace h := (if_pos c69).symm.trans h
      refine xr_ifCond_ne_p i_X0_goalsBy_48 c69 (q := 69) t_X0_goalsBy_48 (q2 := 51) rfl ?_
      refine xr_iload_n i_X0_goalsBy_51 rfl (q := 52) rfl ?_
      obtain ⟨x46, m45, em45, h⟩ := xi_bI_some h
      refine xr_SI i_X0_goalsBy_52 xcse_X0_28 rfl (As := [.int v3]) rfl (rest := []) rfl ((cc_X0_goalsBy_28 S _ _).trans em45) (q := 55) rfl ?_
      by_cases c68 : x46 = 0
      · replace h := (if_pos c68).symm.trans h
        refine xr_ifCond_eq_p i_X0_goalsBy_55 c68 (q := 73) t_X0_goalsBy_55 (q2 := 58) rfl ?_
        refine xr_iconst i_X0_goalsBy_73 (q := 74) rfl ?_
        refine xr_istore i_X0_goalsBy_74 rfl (L2 := [some (.ref v0), some (.ref v1), some (.int v2), some (.int v3), some (.int ((Int32.ofInt 2) * v2)), some (.int ((m.1 b2 (Int32.toNatClampNeg ((Int32.ofInt 2) * v2))) + x5)), some (.int ((m4.1 b7 (Int32.toNatClampNeg (((Int32.ofInt 2) * v2) + (Int32.ofInt 1)))) + x10)), some (.int (Int32.ofInt 0))]) rfl (q := 76) rfl ?_
        refine xr_iload i_X0_goalsBy_76 rfl (q := 78) rfl ?_
        by_cases c52 : (Int32.ofInt 0) = 0
        · replace h := (if_pos c52).symm.trans h
          refine xr_ifCond_ne_p i_X0_goalsBy_78 c52 (q := 100) t_X0_goalsBy_78 (q2 := 81) rfl ?_
          refine xr_iload i_X0_goalsBy_81 rfl (q := 83) rfl ?_
          by_cases c51 : ((m.1 b2 (Int32.toNatClampNeg ((Int32.ofInt 2) * v2))) + x5) < 0
          · replace h := (if_pos c51).symm.trans h
            refine xr_ifCond_lt_p i_X0_goalsBy_83 c51 (q := 100) t_X0_goalsBy_83 (q2 := 86) rfl ?_
            refine xr_iconst i_X0_goalsBy_100 (q := 101) rfl ?_
            exact xr_ireturn i_X0_goalsBy_101 rfl h
          · replace h := (if_neg c51).symm.trans h
            refine xr_ifCond_lt_n i_X0_goalsBy_83 c51 (q := 100) t_X0_goalsBy_83 (q2 := 86) rfl ?_
            refine xr_iload i_X0_goalsBy_86 rfl (q := 88) rfl ?_
            refine xr_bipush i_X0_goalsBy_88 (q := 90) rfl ?_
            by_cases c50 : ((Int8.ofInt 20).toInt32) < ((m4.1 b7 (Int32.toNatClampNeg (((Int32.ofInt 2) * v2) + (Int32.ofInt 1)))) + x10)
            · replace h := (if_pos c50).symm.trans h
              refine xr_if_icmp_gt_p i_X0_goalsBy_90 c50 (q := 100) t_X0_goalsBy_90 (q2 := 93) rfl ?_
              refine xr_iconst i_X0_goalsBy_100 (q := 101) rfl ?_
              exact xr_ireturn i_X0_goalsBy_101 rfl h
            · replace h := (if_neg c50).symm.trans h
              refine xr_if_icmp_gt_n i_X0_goalsBy_90 c50 (q := 100) t_X0_goalsBy_90 (q2 := 93) rfl ?_
              refine xr_iload i_X0_goalsBy_93 rfl (q := 95) rfl ?_
              refine xr_iload i_X0_goalsBy_95 rfl (q := 97) rfl ?_
              by_cases c49 : ((m.1 b2 (Int32.toNatClampNeg ((Int32.ofInt 2) * v2))) + x5) < ((m4.1 b7 (Int32.toNatClampNeg (((Int32.ofInt 2) * v2) + (Int32.ofInt 1)))) + x10)
              · replace h := (if_pos c49).symm.trans h
                refine xr_if_icmp_lt_p i_X0_goalsBy_97 c49 (q := 102) t_X0_goalsBy_97 (q2 := 100) rfl ?_
                refine xr_aload_n i_X0_goalsBy_102 rfl (q := 103) rfl ?_
                refine xr_iload_n i_X0_goalsBy_103 rfl (q := 104) rfl ?_
                refine xr_iload i_X0_goalsBy_104 rfl (q := 106) rfl ?_
                refine xr_iload i_X0_goalsBy_106 rfl (q := 108) rfl ?_
                obtain ⟨x48, m47, em47, h⟩ := xi_bI_some h
                refine xr_VI i_X0_goalsBy_108 xcve_X0_34 rfl (As := [.ref v1, .int v2, .int ((m.1 b2 (Int32.toNatClampNeg ((Int32.ofInt 2) * v2))) + x5), .int ((m4.1 b7 (Int32.toNatClampNeg (((Int32.ofInt 2) * v2) + (Int32.ofInt 1)))) + x10)]) rfl (rest := []) rfl ((cc_X0_goalsBy_34 S _ _ _ _ _).trans em47) (q := 111) rfl ?_
                exact xr_ireturn i_X0_goalsBy_111 rfl h
              · replace h := (if_neg c49).symm.trans h
                refine xr_if_icmp_lt_n i_X0_goalsBy_97 c49 (q := 102) t_X0_goalsBy_97 (q2 := 100) rfl ?_
                refine xr_iconst i_X0_goalsBy_100 (q := 101) rfl ?_
                exact xr_ireturn i_X0_goalsBy_101 rfl h
        · replace h := (if_neg c52).symm.trans h
          refine xr_ifCond_ne_n i_X0_goalsBy_78 c52 (q := 100) t_X0_goalsBy_78 (q2 := 81) rfl ?_
          refine xr_iconst i_X0_goalsBy_100 (q := 101) rfl ?_
          exact xr_ireturn i_X0_goalsBy_101 rfl h
      · replace h := (if_neg c68).symm.trans h
        refine xr_ifCond_eq_n i_X0_goalsBy_55 c68 (q := 73) t_X0_goalsBy_55 (q2 := 58) rfl ?_
        refine xr_aload_n i_X0_goalsBy_58 rfl (q := 59) rfl ?_
        refine xr_iload i_X0_goalsBy_59 rfl (q := 61) rfl ?_
        refine xr_iconst i_X0_goalsBy_61 (q := 62) rfl ?_
        refine xr_iadd i_X0_goalsBy_62 (q := 63) rfl ?_
        obtain ⟨x54, m53, em53, h⟩ := xi_bI_some h
        refine xr_VI i_X0_goalsBy_63 xcve_X0_31 rfl (As := [.ref v0, .int (((Int32.ofInt 2) * v2) + (Int32.ofInt 1))]) rfl (rest := []) rfl ((cc_X0_goalsBy_31 S _ _ _).trans em53) (q := 66) rfl ?_
        by_cases c67 : x54 = 0
        · replace h := (if_pos c67).symm.trans h
          refine xr_ifCond_eq_p i_X0_goalsBy_66 c67 (q := 73) t_X0_goalsBy_66 (q2 := 69) rfl ?_
          refine xr_iconst i_X0_goalsBy_73 (q := 74) rfl ?_
          refine xr_istore i_X0_goalsBy_74 rfl (L2 := [some (.ref v0), some (.ref v1), some (.int v2), some (.int v3), some (.int ((Int32.ofInt 2) * v2)), some (.int ((m.1 b2 (Int32.toNatClampNeg ((Int32.ofInt 2) * v2))) + x5)), some (.int ((m4.1 b7 (Int32.toNatClampNeg (((Int32.ofInt 2) * v2) + (Int32.ofInt 1)))) + x10)), some (.int (Int32.ofInt 0))]) rfl (q := 76) rfl ?_
          refine xr_iload i_X0_goalsBy_76 rfl (q := 78) rfl ?_
          by_cases c60 : (Int32.ofInt 0) = 0
          · replace h := (if_pos c60).symm.trans h
            refine xr_ifCond_ne_p i_X0_goalsBy_78 c60 (q := 100) t_X0_goalsBy_78 (q2 := 81) rfl ?_
            refine xr_iload i_X0_goalsBy_81 rfl (q := 83) rfl ?_
            by_cases c59 : ((m.1 b2 (Int32.toNatClampNeg ((Int32.ofInt 2) * v2))) + x5) < 0
            · replace h := (if_pos c59).symm.trans h
              refine xr_ifCond_lt_p i_X0_goalsBy_83 c59 (q := 100) t_X0_goalsBy_83 (q2 := 86) rfl ?_
              refine xr_iconst i_X0_goalsBy_100 (q := 101) rfl ?_
              exact xr_ireturn i_X0_goalsBy_101 rfl h
            · replace h := (if_neg c59).symm.trans h
              refine xr_ifCond_lt_n i_X0_goalsBy_83 c59 (q := 100) t_X0_goalsBy_83 (q2 := 86) rfl ?_
              refine xr_iload i_X0_goalsBy_86 rfl (q := 88) rfl ?_
              refine xr_bipush i_X0_goalsBy_88 (q := 90) rfl ?_
              by_cases c58 : ((Int8.ofInt 20).toInt32) < ((m4.1 b7 (Int32.toNatClampNeg (((Int32.ofInt 2) * v2) + (Int32.ofInt 1)))) + x10)
              · replace h := (if_pos c58).symm.trans h
                refine xr_if_icmp_gt_p i_X0_goalsBy_90 c58 (q := 100) t_X0_goalsBy_90 (q2 := 93) rfl ?_
                refine xr_iconst i_X0_goalsBy_100 (q := 101) rfl ?_
                exact xr_ireturn i_X0_goalsBy_101 rfl h
              · replace h := (if_neg c58).symm.trans h
                refine xr_if_icmp_gt_n i_X0_goalsBy_90 c58 (q := 100) t_X0_goalsBy_90 (q2 := 93) rfl ?_
                refine xr_iload i_X0_goalsBy_93 rfl (q := 95) rfl ?_
                refine xr_iload i_X0_goalsBy_95 rfl (q := 97) rfl ?_
                by_cases c57 : ((m.1 b2 (Int32.toNatClampNeg ((Int32.ofInt 2) * v2))) + x5) < ((m4.1 b7 (Int32.toNatClampNeg (((Int32.ofInt 2) * v2) + (Int32.ofInt 1)))) + x10)
                · replace h := (if_pos c57).symm.trans h
                  refine xr_if_icmp_lt_p i_X0_goalsBy_97 c57 (q := 102) t_X0_goalsBy_97 (q2 := 100) rfl ?_
                  refine xr_aload_n i_X0_goalsBy_102 rfl (q := 103) rfl ?_
                  refine xr_iload_n i_X0_goalsBy_103 rfl (q := 104) rfl ?_
                  refine xr_iload i_X0_goalsBy_104 rfl (q := 106) rfl ?_
                  refine xr_iload i_X0_goalsBy_106 rfl (q := 108) rfl ?_
                  obtain ⟨x56, m55, em55, h⟩ := xi_bI_some h
                  refine xr_VI i_X0_goalsBy_108 xcve_X0_34 rfl (As := [.ref v1, .int v2, .int ((m.1 b2 (Int32.toNatClampNeg ((Int32.ofInt 2) * v2))) + x5), .int ((m4.1 b7 (Int32.toNatClampNeg (((Int32.ofInt 2) * v2) + (Int32.ofInt 1)))) + x10)]) rfl (rest := []) rfl ((cc_X0_goalsBy_34 S _ _ _ _ _).trans em55) (q := 111) rfl ?_
                  exact xr_ireturn i_X0_goalsBy_111 rfl h
                · replace h := (if_neg c57).symm.trans h
                  refine xr_if_icmp_lt_n i_X0_goalsBy_97 c57 (q := 102) t_X0_goalsBy_97 (q2 := 100) rfl ?_
                  refine xr_iconst i_X0_goalsBy_100 (q := 101) rfl ?_
                  exact xr_ireturn i_X0_goalsBy_101 rfl h
          · replace h := (if_neg c60).symm.trans h
            refine xr_ifCond_ne_n i_X0_goalsBy_78 c60 (q := 100) t_X0_goalsBy_78 (q2 := 81) rfl ?_
            refine xr_iconst i_X0_goalsBy_100 (q := 101) rfl ?_
            exact xr_ireturn i_X0_goalsBy_101 rfl h
        · replace h := (if_neg c67).symm.trans h
          refine xr_ifCond_eq_n i_X0_goalsBy_66 c67 (q := 73) t_X0_goalsBy_66 (q2 := 69) rfl ?_
          refine xr_iconst i_X0_goalsBy_69 (q := 70) rfl ?_
          refine xr_goto i_X0_goalsBy_70 (q := 74) t_X0_goalsBy_70 ?_
          refine xr_istore i_X0_goalsBy_74 rfl (L2 := [some (.ref v0), some (.ref v1), some (.int v2), some (.int v3), some (.int ((Int32.ofInt 2) * v2)), some (.int ((m.1 b2 (Int32.toNatClampNeg ((Int32.ofInt 2) * v2))) + x5)), some (.int ((m4.1 b7 (Int32.toNatClampNeg (((Int32.ofInt 2) * v2) + (Int32.ofInt 1)))) + x10)), some (.int (Int32.ofInt 1))]) rfl (q := 76) rfl ?_
          refine xr_iload i_X0_goalsBy_76 rfl (q := 78) rfl ?_
          by_cases c66 : (Int32.ofInt 1) = 0
          · replace h := (if_pos c66).symm.trans h
            refine xr_ifCond_ne_p i_X0_goalsBy_78 c66 (q := 100) t_X0_goalsBy_78 (q2 := 81) rfl ?_
            refine xr_iload i_X0_goalsBy_81 rfl (q := 83) rfl ?_
            by_cases c65 : ((m.1 b2 (Int32.toNatClampNeg ((Int32.ofInt 2) * v2))) + x5) < 0
            · replace h := (if_pos c65).symm.trans h
              refine xr_ifCond_lt_p i_X0_goalsBy_83 c65 (q := 100) t_X0_goalsBy_83 (q2 := 86) rfl ?_
              refine xr_iconst i_X0_goalsBy_100 (q := 101) rfl ?_
              exact xr_ireturn i_X0_goalsBy_101 rfl h
            · replace h := (if_neg c65).symm.trans h
              refine xr_ifCond_lt_n i_X0_goalsBy_83 c65 (q := 100) t_X0_goalsBy_83 (q2 := 86) rfl ?_
              refine xr_iload i_X0_goalsBy_86 rfl (q := 88) rfl ?_
              refine xr_bipush i_X0_goalsBy_88 (q := 90) rfl ?_
              by_cases c64 : ((Int8.ofInt 20).toInt32) < ((m4.1 b7 (Int32.toNatClampNeg (((Int32.ofInt 2) * v2) + (Int32.ofInt 1)))) + x10)
              · replace h := (if_pos c64).symm.trans h
                refine xr_if_icmp_gt_p i_X0_goalsBy_90 c64 (q := 100) t_X0_goalsBy_90 (q2 := 93) rfl ?_
                refine xr_iconst i_X0_goalsBy_100 (q := 101) rfl ?_
                exact xr_ireturn i_X0_goalsBy_101 rfl h
              · replace h := (if_neg c64).symm.trans h
                refine xr_if_icmp_gt_n i_X0_goalsBy_90 c64 (q := 100) t_X0_goalsBy_90 (q2 := 93) rfl ?_
                refine xr_iload i_X0_goalsBy_93 rfl (q := 95) rfl ?_
                refine xr_iload i_X0_goalsBy_95 rfl (q := 97) rfl ?_
                by_cases c63 : ((m.1 b2 (Int32.toNatClampNeg ((Int32.ofInt 2) * v2))) + x5) < ((m4.1 b7 (Int32.toNatClampNeg (((Int32.ofInt 2) * v2) + (Int32.ofInt 1)))) + x10)
                · replace h := (if_pos c63).symm.trans h
                  refine xr_if_icmp_lt_p i_X0_goalsBy_97 c63 (q := 102) t_X0_goalsBy_97 (q2 := 100) rfl ?_
                  refine xr_aload_n i_X0_goalsBy_102 rfl (q := 103) rfl ?_
                  refine xr_iload_n i_X0_goalsBy_103 rfl (q := 104) rfl ?_
                  refine xr_iload i_X0_goalsBy_104 rfl (q := 106) rfl ?_
                  refine xr_iload i_X0_goalsBy_106 rfl (q := 108) rfl ?_
                  obtain ⟨x62, m61, em61, h⟩ := xi_bI_some h
                  refine xr_VI i_X0_goalsBy_108 xcve_X0_34 rfl (As := [.ref v1, .int v2, .int ((m.1 b2 (Int32.toNatClampNeg ((Int32.ofInt 2) * v2))) + x5), .int ((m4.1 b7 (Int32.toNatClampNeg (((Int32.ofInt 2) * v2) + (Int32.ofInt 1)))) + x10)]) rfl (rest := []) rfl ((cc_X0_goalsBy_34 S _ _ _ _ _).trans em61) (q := 111) rfl ?_
                  exact xr_ireturn i_X0_goalsBy_111 rfl h
                · replace h := (if_neg c63).symm.trans h
                  refine xr_if_icmp_lt_n i_X0_goalsBy_97 c63 (q := 102) t_X0_goalsBy_97 (q2 := 100) rfl ?_
                  refine xr_iconst i_X0_goalsBy_100 (q := 101) rfl ?_
                  exact xr_ireturn i_X0_goalsBy_101 rfl h
          · replace h := (if_neg c66).symm.trans h
            refine xr_ifCond_ne_n i_X0_goalsBy_78 c66 (q := 100) t_X0_goalsBy_78 (q2 := 81) rfl ?_
            refine xr_iconst i_X0_goalsBy_100 (q := 101) rfl ?_
            exact xr_ireturn i_X0_goalsBy_101 rfl h
    · replace h := (if_neg c69).symm.trans h
      refine xr_ifCond_ne_n i_X0_goalsBy_48 c69 (q := 69) t_X0_goalsBy_48 (q2 := 51) rfl ?_
      refine xr_iconst i_X0_goalsBy_69 (q := 70) rfl ?_
      refine xr_goto i_X0_goalsBy_70 (q := 74) t_X0_goalsBy_70 ?_
      refine xr_istore i_X0_goalsBy_74 rfl (L2 := [some (.ref v0), some (.ref v1), some (.int v2), some (.int v3), some (.int ((Int32.ofInt 2) * v2)), some (.int ((m.1 b2 (Int32.toNatClampNeg ((Int32.ofInt 2) * v2))) + x5)), some (.int ((m4.1 b7 (Int32.toNatClampNeg (((Int32.ofInt 2) * v2) + (Int32.ofInt 1)))) + x10)), some (.int (Int32.ofInt 1))]) rfl (q := 76) rfl ?_
      refine xr_iload i_X0_goalsBy_76 rfl (q := 78) rfl ?_
      by_cases c44 : (Int32.ofInt 1) = 0
      · replace h := (if_pos c44).symm.trans h
        refine xr_ifCond_ne_p i_X0_goalsBy_78 c44 (q := 100) t_X0_goalsBy_78 (q2 := 81) rfl ?_
        refine xr_iload i_X0_goalsBy_81 rfl (q := 83) rfl ?_
        by_cases c43 : ((m.1 b2 (Int32.toNatClampNeg ((Int32.ofInt 2) * v2))) + x5) < 0
        · replace h := (if_pos c43).symm.trans h
          refine xr_ifCond_lt_p i_X0_goalsBy_83 c43 (q := 100) t_X0_goalsBy_83 (q2 := 86) rfl ?_
          refine xr_iconst i_X0_goalsBy_100 (q := 101) rfl ?_
          exact xr_ireturn i_X0_goalsBy_101 rfl h
        · replace h := (if_neg c43).symm.trans h
          refine xr_ifCond_lt_n i_X0_goalsBy_83 c43 (q := 100) t_X0_goalsBy_83 (q2 := 86) rfl ?_
          refine xr_iload i_X0_goalsBy_86 rfl (q := 88) rfl ?_
          refine xr_bipush i_X0_goalsBy_88 (q := 90) rfl ?_
          by_cases c42 : ((Int8.ofInt 20).toInt32) < ((m4.1 b7 (Int32.toNatClampNeg (((Int32.ofInt 2) * v2) + (Int32.ofInt 1)))) + x10)
          · replace h := (if_pos c42).symm.trans h
            refine xr_if_icmp_gt_p i_X0_goalsBy_90 c42 (q := 100) t_X0_goalsBy_90 (q2 := 93) rfl ?_
            refine xr_iconst i_X0_goalsBy_100 (q := 101) rfl ?_
            exact xr_ireturn i_X0_goalsBy_101 rfl h
          · replace h := (if_neg c42).symm.trans h
            refine xr_if_icmp_gt_n i_X0_goalsBy_90 c42 (q := 100) t_X0_goalsBy_90 (q2 := 93) rfl ?_
            refine xr_iload i_X0_goalsBy_93 rfl (q := 95) rfl ?_
            refine xr_iload i_X0_goalsBy_95 rfl (q := 97) rfl ?_
            by_cases c41 : ((m.1 b2 (Int32.toNatClampNeg ((Int32.ofInt 2) * v2))) + x5) < ((m4.1 b7 (Int32.toNatClampNeg (((Int32.ofInt 2) * v2) + (Int32.ofInt 1)))) + x10)
            · replace h := (if_pos c41).symm.trans h
              refine xr_if_icmp_lt_p i_X0_goalsBy_97 c41 (q := 102) t_X0_goalsBy_97 (q2 := 100) rfl ?_
              refine xr_aload_n i_X0_goalsBy_102 rfl (q := 103) rfl ?_
              refine xr_iload_n i_X0_goalsBy_103 rfl (q := 104) rfl ?_
              refine xr_iload i_X0_goalsBy_104 rfl (q := 106) rfl ?_
              refine xr_iload i_X0_goalsBy_106 rfl (q := 108) rfl ?_
              obtain ⟨x40, m39, em39, h⟩ := xi_bI_some h
              refine xr_VI i_X0_goalsBy_108 xcve_X0_34 rfl (As := [.ref v1, .int v2, .int ((m.1 b2 (Int32.toNatClampNeg ((Int32.ofInt 2) * v2))) + x5), .int ((m4.1 b7 (Int32.toNatClampNeg (((Int32.ofInt 2) * v2) + (Int32.ofInt 1)))) + x10)]) rfl (rest := []) rfl ((cc_X0_goalsBy_34 S _ _ _ _ _).trans em39) (q := 111) rfl ?_
              exact xr_ireturn i_X0_goalsBy_111 rfl h
            · replace h := (if_neg c41).symm.trans h
              refine xr_if_icmp_lt_n i_X0_goalsBy_97 c41 (q := 102) t_X0_goalsBy_97 (q2 := 100) rfl ?_
              refine xr_iconst i_X0_goalsBy_100 (q := 101) rfl ?_
              exact xr_ireturn i_X0_goalsBy_101 rfl h
      · replace h := (if_neg c44).symm.trans h
        refine xr_ifCond_ne_n i_X0_goalsBy_78 c44 (q := 100) t_X0_goalsBy_78 (q2 := 81) rfl ?_
        refine xr_iconst i_X0_goalsBy_100 (q := 101) rfl ?_
        exact xr_ireturn i_X0_goalsBy_101 rfl h
set_option maxRecDepth 100000 in
theorem po_X0_goalsBy {l : Launch} {E : xi_E} {S : xi_S} {D : va_G} {tys : List (ClassId × FieldType)} (hC : xCx E S tys) : xi_Pok l E S D vwCl tys xNs RX0 xTs cX0_goalsBy 8 3 (P_X0_goalsBy S) := ⟨xi_dc_ok, by rw [hC.2]; exact xfo_X0, xkio_X0, xklo_X0, xi_calls_ok (ins := .invokestatic) (List.forall_mem_cons.mpr ⟨(xc_X0_24 (sn_X0_first hC) (by decide)), List.forall_mem_cons.mpr ⟨(xc_X0_28 (sn_X0_second hC) (by decide)), fun _ h => absurd h List.not_mem_nil⟩⟩), xi_calls_ok (ins := .invokevirtual) (List.forall_mem_cons.mpr ⟨(xc_X0_31 hC.1 (sn_X6_witnesses hC) (by decide)), List.forall_mem_cons.mpr ⟨(xc_X0_34 hC.1 (sn_X1_goalsAt hC) (by decide)), fun _ h => absurd h List.not_mem_nil⟩⟩)⟩
theorem sn_X0_goalsBy {l : Launch} {E : xi_E} {S : xi_S} {D : va_G} {tys : List (ClassId × FieldType)} (hC : xCx E S tys) : ∀ As m1 r m2, F_X0_goalsBy S As m1 = some (r, m2) → xi_Sound l E S D vwCl tys xNs xTs yX0_goalsBy cX0_goalsBy 8 (some .int) 3 As m1 r m2 := by
  intro As m1 r m2 h
  unfold F_X0_goalsBy at h
  split at h
  · exact xi_meth (P := P_X0_goalsBy S) (by decide) hC.1 (po_X0_goalsBy hC) (Nat.le_of_ble_eq_true rfl) rfl (xe_X0_goalsBy _ _ _ _ _ h)
  · exact xi_no h
theorem i_X0_weigh_0 : xi_dc cX0_weigh 0 = some (.iconst 0, 1) := by decide +kernel
theorem i_X0_weigh_1 : xi_dc cX0_weigh 1 = some (.istore_n 3, 1) := by decide +kernel
theorem i_X0_weigh_2 : xi_dc cX0_weigh 2 = some (.iload_n 3, 1) := by decide +kernel
theorem i_X0_weigh_3 : xi_dc cX0_weigh 3 = some (.iconst 1, 1) := by decide +kernel
theorem i_X0_weigh_4 : xi_dc cX0_weigh 4 = some (.if_icmp .gt 45, 3) := by decide +kernel
theorem t_X0_weigh_4 : ((4 : Nat) : Int) + 45 = ((49 : Nat) : Int) := by decide +kernel
theorem i_X0_weigh_7 : xi_dc cX0_weigh 7 = some (.iconst 0, 1) := by decide +kernel
theorem i_X0_weigh_8 : xi_dc cX0_weigh 8 = some (.istore 4, 2) := by decide +kernel
theorem i_X0_weigh_10 : xi_dc cX0_weigh 10 = some (.iload 4, 2) := by decide +kernel
theorem i_X0_weigh_12 : xi_dc cX0_weigh 12 = some (.bipush 49, 2) := by decide +kernel
theorem i_X0_weigh_14 : xi_dc cX0_weigh 14 = some (.if_icmp .ge 29, 3) := by decide +kernel
theorem t_X0_weigh_14 : ((14 : Nat) : Int) + 29 = ((43 : Nat) : Int) := by decide +kernel
theorem i_X0_weigh_17 : xi_dc cX0_weigh 17 = some (.aload_n 0, 1) := by decide +kernel
theorem i_X0_weigh_18 : xi_dc cX0_weigh 18 = some (.getfield 11, 3) := by decide +kernel
theorem i_X0_weigh_21 : xi_dc cX0_weigh 21 = some (.iload_n 3, 1) := by decide +kernel
theorem i_X0_weigh_22 : xi_dc cX0_weigh 22 = some (.bipush 49, 2) := by decide +kernel
theorem i_X0_weigh_24 : xi_dc cX0_weigh 24 = some (.imul, 1) := by decide +kernel
theorem i_X0_weigh_25 : xi_dc cX0_weigh 25 = some (.iload 4, 2) := by decide +kernel
theorem i_X0_weigh_27 : xi_dc cX0_weigh 27 = some (.iadd, 1) := by decide +kernel
theorem i_X0_weigh_28 : xi_dc cX0_weigh 28 = some (.aload_n 1, 1) := by decide +kernel
theorem i_X0_weigh_29 : xi_dc cX0_weigh 29 = some (.aload_n 2, 1) := by decide +kernel
theorem i_X0_weigh_30 : xi_dc cX0_weigh 30 = some (.iload_n 3, 1) := by decide +kernel
theorem i_X0_weigh_31 : xi_dc cX0_weigh 31 = some (.iload 4, 2) := by decide +kernel
theorem i_X0_weigh_33 : xi_dc cX0_weigh 33 = some (.invokestatic 15, 3) := by decide +kernel
theorem i_X0_weigh_36 : xi_dc cX0_weigh 36 = some (.iastore, 1) := by decide +kernel
theorem i_X0_weigh_37 : xi_dc cX0_weigh 37 = some (.iinc 4 1, 3) := by decide +kernel
theorem i_X0_weigh_40 : xi_dc cX0_weigh 40 = some (.goto (-30), 3) := by decide +kernel
theorem t_X0_weigh_40 : ((40 : Nat) : Int) + (-30) = ((10 : Nat) : Int) := by decide +kernel
theorem i_X0_weigh_43 : xi_dc cX0_weigh 43 = some (.iinc 3 1, 3) := by decide +kernel
theorem i_X0_weigh_46 : xi_dc cX0_weigh 46 = some (.goto (-44), 3) := by decide +kernel
theorem t_X0_weigh_46 : ((46 : Nat) : Int) + (-44) = ((2 : Nat) : Int) := by decide +kernel
theorem i_X0_weigh_49 : xi_dc cX0_weigh 49 = some (.return_, 1) := by decide +kernel
def P_X0_weigh (S : xi_S) : xi_P := (xi_dc cX0_weigh, xi_tab xfl_X0, xi_tab xki_X0, xi_tab xkl_X0, xi_tab xcs_X0, xi_tab xcv_X0, xi_calls [(15, xi_wS 4 (F_X0_goalsBy S))], xi_calls [], 0)
theorem cc_X0_weigh_15 (S : xi_S) (a0 : Nat) (a1 : Nat) (a2 : Int32) (a3 : Int32) (m : xi_M) : (P_X0_weigh S).2.2.2.2.2.2.1 15 [.ref a0, .ref a1, .int a2, .int a3] m = (E_X0_goalsBy S a0 a1 a2 a3 m) := by
  show xi_calls [(15, xi_wS 4 (F_X0_goalsBy S))] 15 [.ref a0, .ref a1, .int a2, .int a3] m = _
  refine Eq.trans (b := xi_wS 4 (F_X0_goalsBy S) [.ref a0, .ref a1, .int a2, .int a3] m) (xi_calls_hit rfl) ?_
  exact xi_wS_eq rfl
def G_X0_weigh_10 (S : xi_S) (k2 : Nat → Nat → Nat → Int32 → xi_M → Option xi_R) : Nat → Nat → Nat → Nat → Int32 → Int32 → xi_M → Option xi_R
  | 0, _, _, _, _, _, _ => none
  | n + 1, v0, v1, v2, v3, v4, m =>
    if ((Int8.ofInt 49).toInt32) ≤ v4 then
      k2 v0 v1 v2 (v3 + Int32.ofInt 1) m
    else
      if S.1 v0 = 3 then (S.2.2 v0 0).bind fun b2 =>
        xi_bI (E_X0_goalsBy S v1 v2 v3 v4 m) fun x4 m3 =>
        if S.1 b2 = 0 ∧ ¬ (((v3 * ((Int8.ofInt 49).toInt32)) + v4) < 0 ∨ S.2.1 b2 ≤ Int32.toNatClampNeg ((v3 * ((Int8.ofInt 49).toInt32)) + v4)) then
          G_X0_weigh_10 S k2 n v0 v1 v2 v3 (v4 + Int32.ofInt 1) (xi_wI m3 b2 (Int32.toNatClampNeg ((v3 * ((Int8.ofInt 49).toInt32)) + v4)) x4)
        else none
      else none
set_option maxRecDepth 100000 in
set_option maxHeartbeats 4000000 in
theorem xs_X0_weigh_10 {S : xi_S} {res : xi_R} {k2 : Nat → Nat → Nat → Int32 → xi_M → Option xi_R} (hk2 : ∀ (v0 : Nat) (v1 : Nat) (v2 : Nat) (v3 : Int32) (m : xi_M), k2 v0 v1 v2 v3 m = some res → xi_X S (P_X0_weigh S) (2, [some (.ref v0), some (.ref v1), some (.ref v2), some (.int v3), none], [], m) res) : ∀ (n : Nat) (v0 : Nat) (v1 : Nat) (v2 : Nat) (v3 : Int32) (v4 : Int32) (m : xi_M), G_X0_weigh_10 S k2 n v0 v1 v2 v3 v4 m = some res → xi_X S (P_X0_weigh S) (10, [some (.ref v0), some (.ref v1), some (.ref v2), some (.int v3), some (.int v4)], [], m) res := by
  intro n
  induction n with
  | zero => intro v0 v1 v2 v3 v4 m h; exact xi_no h
  | succ n ih =>
    intro v0 v1 v2 v3 v4 m h
    unfold G_X0_weigh_10 at h
    refine xr_iload i_X0_weigh_10 rfl (q := 12) rfl ?_
    refine xr_bipush i_X0_weigh_12 (q := 14) rfl ?_
    by_cases c6 : ((Int8.ofInt 49).toInt32) ≤ v4
    · replace h := (if_pos c6).symm.trans h
      refine xr_if_icmp_ge_p i_X0_weigh_14 c6 (q := 43) t_X0_weigh_14 (q2 := 17) rfl ?_
      refine xr_iinc i_X0_weigh_43 rfl rfl (L2 := [some (.ref v0), some (.ref v1), some (.ref v2), some (.int (v3 + Int32.ofInt 1)), some (.int v4)]) rfl (q := 46) rfl ?_
      refine xr_goto i_X0_weigh_46 (q := 2) t_X0_weigh_46 ?_
      exact xi_X_le (xi_le_s (xi_le_s (xi_le_s (xi_le_s (xi_le_n xi_le_z))))) (hk2 _ _ _ _ _ h)
    · replace h := (if_neg c6).symm.trans h
      refine xr_if_icmp_ge_n i_X0_weigh_14 c6 (q := 43) t_X0_weigh_14 (q2 := 17) rfl ?_
      refine xr_aload_n i_X0_weigh_17 rfl (q := 18) rfl ?_
      obtain ⟨c1, h⟩ := xi_if_some h
      obtain ⟨b2, eb2, h⟩ := xi_bind_some h
      refine xr_getR i_X0_weigh_18 xfe_X0_11 c1 eb2 (q := 21) rfl ?_
      refine xr_iload_n i_X0_weigh_21 rfl (q := 22) rfl ?_
      refine xr_bipush i_X0_weigh_22 (q := 24) rfl ?_
      refine xr_imul i_X0_weigh_24 (q := 25) rfl ?_
      refine xr_iload i_X0_weigh_25 rfl (q := 27) rfl ?_
      refine xr_iadd i_X0_weigh_27 (q := 28) rfl ?_
      refine xr_aload_n i_X0_weigh_28 rfl (q := 29) rfl ?_
      refine xr_aload_n i_X0_weigh_29 rfl (q := 30) rfl ?_
      refine xr_iload_n i_X0_weigh_30 rfl (q := 31) rfl ?_
      refine xr_iload i_X0_weigh_31 rfl (q := 33) rfl ?_
      obtain ⟨x4, m3, em3, h⟩ := xi_bI_some h
      refine xr_SI i_X0_weigh_33 xcse_X0_15 rfl (As := [.ref v1, .ref v2, .int v3, .int v4]) rfl (rest := [.int ((v3 * ((Int8.ofInt 49).toInt32)) + v4), .ref b2]) rfl ((cc_X0_weigh_15 S _ _ _ _ _).trans em3) (q := 36) rfl ?_
      obtain ⟨c5, h⟩ := xi_if_some h
      refine xr_iastore i_X0_weigh_36 c5 (q := 37) rfl ?_
      refine xr_iinc i_X0_weigh_37 rfl rfl (L2 := [some (.ref v0), some (.ref v1), some (.ref v2), some (.int v3), some (.int (v4 + Int32.ofInt 1))]) rfl (q := 40) rfl ?_
      refine xr_goto i_X0_weigh_40 (q := 10) t_X0_weigh_40 ?_
      exact xi_X_le (xi_le_s (xi_le_s (xi_le_s (xi_le_s (xi_le_s xi_le_z))))) (ih _ _ _ _ _ _ h)
def G_X0_weigh_2 (S : xi_S) : Nat → Nat → Nat → Nat → Int32 → xi_M → Option xi_R
  | 0, _, _, _, _, _ => none
  | n + 1, v0, v1, v2, v3, m =>
    if (Int32.ofInt 1) < v3 then
      some (none, m)
    else
      G_X0_weigh_10 S (G_X0_weigh_2 S n) 10000 v0 v1 v2 v3 (Int32.ofInt 0) m
set_option maxRecDepth 100000 in
set_option maxHeartbeats 4000000 in
theorem xs_X0_weigh_2 {S : xi_S} {res : xi_R} : ∀ (n : Nat) (v0 : Nat) (v1 : Nat) (v2 : Nat) (v3 : Int32) (m : xi_M), G_X0_weigh_2 S n v0 v1 v2 v3 m = some res → xi_X S (P_X0_weigh S) (2, [some (.ref v0), some (.ref v1), some (.ref v2), some (.int v3), none], [], m) res := by
  intro n
  induction n with
  | zero => intro v0 v1 v2 v3 m h; exact xi_no h
  | succ n ih =>
    intro v0 v1 v2 v3 m h
    unfold G_X0_weigh_2 at h
    refine xr_iload_n i_X0_weigh_2 rfl (q := 3) rfl ?_
    refine xr_iconst i_X0_weigh_3 (q := 4) rfl ?_
    by_cases c1 : (Int32.ofInt 1) < v3
    · replace h := (if_pos c1).symm.trans h
      refine xr_if_icmp_gt_p i_X0_weigh_4 c1 (q := 49) t_X0_weigh_4 (q2 := 7) rfl ?_
      exact xr_return i_X0_weigh_49 rfl h
    · replace h := (if_neg c1).symm.trans h
      refine xr_if_icmp_gt_n i_X0_weigh_4 c1 (q := 49) t_X0_weigh_4 (q2 := 7) rfl ?_
      refine xr_iconst i_X0_weigh_7 (q := 8) rfl ?_
      refine xr_istore i_X0_weigh_8 rfl (L2 := [some (.ref v0), some (.ref v1), some (.ref v2), some (.int v3), some (.int (Int32.ofInt 0))]) rfl (q := 10) rfl ?_
      exact xi_X_le (xi_le_s (xi_le_s (xi_le_s (xi_le_s (xi_le_s xi_le_z))))) (xs_X0_weigh_10 ih 10000 _ _ _ _ _ _ h)
def E_X0_weigh (S : xi_S) (v0 : Nat) (v1 : Nat) (v2 : Nat) (m : xi_M) : Option xi_R :=
  G_X0_weigh_2 S 10000 v0 v1 v2 (Int32.ofInt 0) m
def F_X0_weigh (S : xi_S) : xi_F := fun As m => match As with
  | [.ref v0, .ref v1, .ref v2] => E_X0_weigh S v0 v1 v2 m
  | _ => none
set_option maxRecDepth 100000 in
set_option maxHeartbeats 4000000 in
theorem xe_X0_weigh {S : xi_S} {res : xi_R} (v0 : Nat) (v1 : Nat) (v2 : Nat) (m : xi_M) (h : E_X0_weigh S v0 v1 v2 m = some res) : xi_X S (P_X0_weigh S) (0, [some (.ref v0), some (.ref v1), some (.ref v2), none, none], [], m) res := by
  unfold E_X0_weigh at h
  refine xr_iconst i_X0_weigh_0 (q := 1) rfl ?_
  refine xr_istore_n i_X0_weigh_1 rfl (L2 := [some (.ref v0), some (.ref v1), some (.ref v2), some (.int (Int32.ofInt 0)), none]) rfl (q := 2) rfl ?_
  exact xi_X_le (xi_le_s (xi_le_s (xi_le_s (xi_le_s (xi_le_n xi_le_z))))) (xs_X0_weigh_2 10000 _ _ _ _ _ h)
set_option maxRecDepth 100000 in
theorem po_X0_weigh {l : Launch} {E : xi_E} {S : xi_S} {D : va_G} {tys : List (ClassId × FieldType)} (hC : xCx E S tys) : xi_Pok l E S D vwCl tys xNs RX0 xTs cX0_weigh 5 4 (P_X0_weigh S) := ⟨xi_dc_ok, by rw [hC.2]; exact xfo_X0, xkio_X0, xklo_X0, xi_calls_ok (ins := .invokestatic) (List.forall_mem_cons.mpr ⟨(xc_X0_15 (sn_X0_goalsBy hC) (by decide)), fun _ h => absurd h List.not_mem_nil⟩), xi_calls_ok (ins := .invokevirtual) (fun _ h => absurd h List.not_mem_nil)⟩
theorem sn_X0_weigh {l : Launch} {E : xi_E} {S : xi_S} {D : va_G} {tys : List (ClassId × FieldType)} (hC : xCx E S tys) : ∀ As m1 r m2, F_X0_weigh S As m1 = some (r, m2) → xi_Sound l E S D vwCl tys xNs xTs yX0_weigh cX0_weigh 5 none 4 As m1 r m2 := by
  intro As m1 r m2 h
  unfold F_X0_weigh at h
  split at h
  · exact xi_meth (P := P_X0_weigh S) (by decide) hC.1 (po_X0_weigh hC) (Nat.le_of_ble_eq_true rfl) rfl (xe_X0_weigh _ _ _ _ h)
  · exact xi_no h
theorem i_X0_stepsOf_0 : xi_dc cX0_stepsOf 0 = some (.iload_n 0, 1) := by decide +kernel
theorem i_X0_stepsOf_1 : xi_dc cX0_stepsOf 1 = some (.invokestatic 24, 3) := by decide +kernel
theorem i_X0_stepsOf_4 : xi_dc cX0_stepsOf 4 = some (.invokestatic 40, 3) := by decide +kernel
theorem i_X0_stepsOf_7 : xi_dc cX0_stepsOf 7 = some (.iload_n 0, 1) := by decide +kernel
theorem i_X0_stepsOf_8 : xi_dc cX0_stepsOf 8 = some (.invokestatic 28, 3) := by decide +kernel
theorem i_X0_stepsOf_11 : xi_dc cX0_stepsOf 11 = some (.invokestatic 40, 3) := by decide +kernel
theorem i_X0_stepsOf_14 : xi_dc cX0_stepsOf 14 = some (.iadd, 1) := by decide +kernel
theorem i_X0_stepsOf_15 : xi_dc cX0_stepsOf 15 = some (.ireturn, 1) := by decide +kernel
def P_X0_stepsOf (S : xi_S) : xi_P := (xi_dc cX0_stepsOf, xi_tab xfl_X0, xi_tab xki_X0, xi_tab xkl_X0, xi_tab xcs_X0, xi_tab xcv_X0, xi_calls [(24, xi_wS 1 (F_X0_first S)), (28, xi_wS 1 (F_X0_second S)), (40, xi_wS 1 (F_J9_abs_0f7a4 S))], xi_calls [], 1)
theorem cc_X0_stepsOf_24 (S : xi_S) (a0 : Int32) (m : xi_M) : (P_X0_stepsOf S).2.2.2.2.2.2.1 24 [.int a0] m = (E_X0_first S a0 m) := by
  show xi_calls [(24, xi_wS 1 (F_X0_first S)), (28, xi_wS 1 (F_X0_second S)), (40, xi_wS 1 (F_J9_abs_0f7a4 S))] 24 [.int a0] m = _
  refine Eq.trans (b := xi_wS 1 (F_X0_first S) [.int a0] m) (xi_calls_hit rfl) ?_
  exact xi_wS_eq rfl
theorem cc_X0_stepsOf_28 (S : xi_S) (a0 : Int32) (m : xi_M) : (P_X0_stepsOf S).2.2.2.2.2.2.1 28 [.int a0] m = (E_X0_second S a0 m) := by
  show xi_calls [(24, xi_wS 1 (F_X0_first S)), (28, xi_wS 1 (F_X0_second S)), (40, xi_wS 1 (F_J9_abs_0f7a4 S))] 28 [.int a0] m = _
  refine Eq.trans (b := xi_calls [(28, xi_wS 1 (F_X0_second S)), (40, xi_wS 1 (F_J9_abs_0f7a4 S))] 28 [.int a0] m) (xi_calls_miss rfl) ?_
  refine Eq.trans (b := xi_wS 1 (F_X0_second S) [.int a0] m) (xi_calls_hit rfl) ?_
  exact xi_wS_eq rfl
theorem cc_X0_stepsOf_40 (S : xi_S) (a0 : Int32) (m : xi_M) : (P_X0_stepsOf S).2.2.2.2.2.2.1 40 [.int a0] m = (E_J9_abs_0f7a4 S a0 m) := by
  show xi_calls [(24, xi_wS 1 (F_X0_first S)), (28, xi_wS 1 (F_X0_second S)), (40, xi_wS 1 (F_J9_abs_0f7a4 S))] 40 [.int a0] m = _
  refine Eq.trans (b := xi_calls [(28, xi_wS 1 (F_X0_second S)), (40, xi_wS 1 (F_J9_abs_0f7a4 S))] 40 [.int a0] m) (xi_calls_miss rfl) ?_
  refine Eq.trans (b := xi_calls [(40, xi_wS 1 (F_J9_abs_0f7a4 S))] 40 [.int a0] m) (xi_calls_miss rfl) ?_
  refine Eq.trans (b := xi_wS 1 (F_J9_abs_0f7a4 S) [.int a0] m) (xi_calls_hit rfl) ?_
  exact xi_wS_eq rfl
def E_X0_stepsOf (S : xi_S) (v0 : Int32) (m : xi_M) : Option xi_R :=
  xi_bI (E_X0_first S v0 m) fun x2 m1 =>
  xi_bI (E_J9_abs_0f7a4 S x2 m1) fun x4 m3 =>
  xi_bI (E_X0_second S v0 m3) fun x6 m5 =>
  xi_bI (E_J9_abs_0f7a4 S x6 m5) fun x8 m7 =>
  some (some (.int (x4 + x8)), m7)
def F_X0_stepsOf (S : xi_S) : xi_F := fun As m => match As with
  | [.int v0] => E_X0_stepsOf S v0 m
  | _ => none
set_option maxRecDepth 100000 in
set_option maxHeartbeats 4000000 in
theorem xe_X0_stepsOf {S : xi_S} {res : xi_R} (v0 : Int32) (m : xi_M) (h : E_X0_stepsOf S v0 m = some res) : xi_X S (P_X0_stepsOf S) (0, [some (.int v0)], [], m) res := by
  unfold E_X0_stepsOf at h
  refine xr_iload_n i_X0_stepsOf_0 rfl (q := 1) rfl ?_
  obtain ⟨x2, m1, em1, h⟩ := xi_bI_some h
  refine xr_SI i_X0_stepsOf_1 xcse_X0_24 rfl (As := [.int v0]) rfl (rest := []) rfl ((cc_X0_stepsOf_24 S _ _).trans em1) (q := 4) rfl ?_
  obtain ⟨x4, m3, em3, h⟩ := xi_bI_some h
  refine xr_SI i_X0_stepsOf_4 xcse_X0_40 rfl (As := [.int x2]) rfl (rest := []) rfl ((cc_X0_stepsOf_40 S _ _).trans em3) (q := 7) rfl ?_
  refine xr_iload_n i_X0_stepsOf_7 rfl (q := 8) rfl ?_
  obtain ⟨x6, m5, em5, h⟩ := xi_bI_some h
  refine xr_SI i_X0_stepsOf_8 xcse_X0_28 rfl (As := [.int v0]) rfl (rest := [.int x4]) rfl ((cc_X0_stepsOf_28 S _ _).trans em5) (q := 11) rfl ?_
  obtain ⟨x8, m7, em7, h⟩ := xi_bI_some h
  refine xr_SI i_X0_stepsOf_11 xcse_X0_40 rfl (As := [.int x6]) rfl (rest := [.int x4]) rfl ((cc_X0_stepsOf_40 S _ _).trans em7) (q := 14) rfl ?_
  refine xr_iadd i_X0_stepsOf_14 (q := 15) rfl ?_
  exact xr_ireturn i_X0_stepsOf_15 rfl h
set_option maxRecDepth 100000 in
theorem po_X0_stepsOf {l : Launch} {E : xi_E} {S : xi_S} {D : va_G} {tys : List (ClassId × FieldType)} (hC : xCx E S tys) : xi_Pok l E S D vwCl tys xNs RX0 xTs cX0_stepsOf 1 1 (P_X0_stepsOf S) := ⟨xi_dc_ok, by rw [hC.2]; exact xfo_X0, xkio_X0, xklo_X0, xi_calls_ok (ins := .invokestatic) (List.forall_mem_cons.mpr ⟨(xc_X0_24 (sn_X0_first hC) (by decide)), List.forall_mem_cons.mpr ⟨(xc_X0_28 (sn_X0_second hC) (by decide)), List.forall_mem_cons.mpr ⟨(xm_X0_40 (by decide)), fun _ h => absurd h List.not_mem_nil⟩⟩⟩), xi_calls_ok (ins := .invokevirtual) (fun _ h => absurd h List.not_mem_nil)⟩
theorem sn_X0_stepsOf {l : Launch} {E : xi_E} {S : xi_S} {D : va_G} {tys : List (ClassId × FieldType)} (hC : xCx E S tys) : ∀ As m1 r m2, F_X0_stepsOf S As m1 = some (r, m2) → xi_Sound l E S D vwCl tys xNs xTs yX0_stepsOf cX0_stepsOf 1 (some .int) 1 As m1 r m2 := by
  intro As m1 r m2 h
  unfold F_X0_stepsOf at h
  split at h
  · exact xi_meth (P := P_X0_stepsOf S) (by decide) hC.1 (po_X0_stepsOf hC) (Nat.le_of_ble_eq_true rfl) rfl (xe_X0_stepsOf _ _ h)
  · exact xi_no h
theorem i_X0_leads_0 : xi_dc cX0_leads 0 = some (.aload_n 0, 1) := by decide +kernel
theorem i_X0_leads_1 : xi_dc cX0_leads 1 = some (.getfield 11, 3) := by decide +kernel
theorem i_X0_leads_4 : xi_dc cX0_leads 4 = some (.iload_n 3, 1) := by decide +kernel
theorem i_X0_leads_5 : xi_dc cX0_leads 5 = some (.iaload, 1) := by decide +kernel
theorem i_X0_leads_6 : xi_dc cX0_leads 6 = some (.istore 5, 2) := by decide +kernel
theorem i_X0_leads_8 : xi_dc cX0_leads 8 = some (.aload_n 0, 1) := by decide +kernel
theorem i_X0_leads_9 : xi_dc cX0_leads 9 = some (.getfield 11, 3) := by decide +kernel
theorem i_X0_leads_12 : xi_dc cX0_leads 12 = some (.bipush 49, 2) := by decide +kernel
theorem i_X0_leads_14 : xi_dc cX0_leads 14 = some (.iload 4, 2) := by decide +kernel
theorem i_X0_leads_16 : xi_dc cX0_leads 16 = some (.iadd, 1) := by decide +kernel
theorem i_X0_leads_17 : xi_dc cX0_leads 17 = some (.iaload, 1) := by decide +kernel
theorem i_X0_leads_18 : xi_dc cX0_leads 18 = some (.istore 6, 2) := by decide +kernel
theorem i_X0_leads_20 : xi_dc cX0_leads 20 = some (.iload 5, 2) := by decide +kernel
theorem i_X0_leads_22 : xi_dc cX0_leads 22 = some (.ifCond .lt 8, 3) := by decide +kernel
theorem t_X0_leads_22 : ((22 : Nat) : Int) + 8 = ((30 : Nat) : Int) := by decide +kernel
theorem i_X0_leads_25 : xi_dc cX0_leads 25 = some (.iload 6, 2) := by decide +kernel
theorem i_X0_leads_27 : xi_dc cX0_leads 27 = some (.ifCond .ge 5, 3) := by decide +kernel
theorem t_X0_leads_27 : ((27 : Nat) : Int) + 5 = ((32 : Nat) : Int) := by decide +kernel
theorem i_X0_leads_30 : xi_dc cX0_leads 30 = some (.iconst 0, 1) := by decide +kernel
theorem i_X0_leads_31 : xi_dc cX0_leads 31 = some (.ireturn, 1) := by decide +kernel
theorem i_X0_leads_32 : xi_dc cX0_leads 32 = some (.iload_n 1, 1) := by decide +kernel
theorem i_X0_leads_33 : xi_dc cX0_leads 33 = some (.ifCond .ne 11, 3) := by decide +kernel
theorem t_X0_leads_33 : ((33 : Nat) : Int) + 11 = ((44 : Nat) : Int) := by decide +kernel
theorem i_X0_leads_36 : xi_dc cX0_leads 36 = some (.iload 6, 2) := by decide +kernel
theorem i_X0_leads_38 : xi_dc cX0_leads 38 = some (.iload 5, 2) := by decide +kernel
theorem i_X0_leads_40 : xi_dc cX0_leads 40 = some (.isub, 1) := by decide +kernel
theorem i_X0_leads_41 : xi_dc cX0_leads 41 = some (.goto 8, 3) := by decide +kernel
theorem t_X0_leads_41 : ((41 : Nat) : Int) + 8 = ((49 : Nat) : Int) := by decide +kernel
theorem i_X0_leads_44 : xi_dc cX0_leads 44 = some (.iload 5, 2) := by decide +kernel
theorem i_X0_leads_46 : xi_dc cX0_leads 46 = some (.iload 6, 2) := by decide +kernel
theorem i_X0_leads_48 : xi_dc cX0_leads 48 = some (.isub, 1) := by decide +kernel
theorem i_X0_leads_49 : xi_dc cX0_leads 49 = some (.iload_n 2, 1) := by decide +kernel
theorem i_X0_leads_50 : xi_dc cX0_leads 50 = some (.if_icmp .lt 7, 3) := by decide +kernel
theorem t_X0_leads_50 : ((50 : Nat) : Int) + 7 = ((57 : Nat) : Int) := by decide +kernel
theorem i_X0_leads_53 : xi_dc cX0_leads 53 = some (.iconst 1, 1) := by decide +kernel
theorem i_X0_leads_54 : xi_dc cX0_leads 54 = some (.goto 4, 3) := by decide +kernel
theorem t_X0_leads_54 : ((54 : Nat) : Int) + 4 = ((58 : Nat) : Int) := by decide +kernel
theorem i_X0_leads_57 : xi_dc cX0_leads 57 = some (.iconst 0, 1) := by decide +kernel
theorem i_X0_leads_58 : xi_dc cX0_leads 58 = some (.ireturn, 1) := by decide +kernel
def P_X0_leads (S : xi_S) : xi_P := (xi_dc cX0_leads, xi_tab xfl_X0, xi_tab xki_X0, xi_tab xkl_X0, xi_tab xcs_X0, xi_tab xcv_X0, xi_calls [], xi_calls [], 2)
def E_X0_leads (S : xi_S) (v0 : Nat) (v1 : Int32) (v2 : Int32) (v3 : Int32) (v4 : Int32) (m : xi_M) : Option xi_R :=
  if S.1 v0 = 3 then (S.2.2 v0 0).bind fun b2 =>
    if S.1 b2 = 0 ∧ ¬ (v3 < 0 ∨ S.2.1 b2 ≤ Int32.toNatClampNeg v3) then
      if S.1 v0 = 3 then (S.2.2 v0 0).bind fun b5 =>
        if S.1 b5 = 0 ∧ ¬ ((((Int8.ofInt 49).toInt32) + v4) < 0 ∨ S.2.1 b5 ≤ Int32.toNatClampNeg (((Int8.ofInt 49).toInt32) + v4)) then
          if (m.1 b2 (Int32.toNatClampNeg v3)) < 0 then
            if (Int32.ofInt 0) = 0 ∨ (Int32.ofInt 0) = 1 then some (some (.int (Int32.ofInt 0)), m) else none
          else
            if 0 ≤ (m.1 b5 (Int32.toNatClampNeg (((Int8.ofInt 49).toInt32) + v4))) then
              if v1 = 0 then
                if ((m.1 b5 (Int32.toNatClampNeg (((Int8.ofInt 49).toInt32) + v4))) - (m.1 b2 (Int32.toNatClampNeg v3))) < v2 then
                  if (Int32.ofInt 0) = 0 ∨ (Int32.ofInt 0) = 1 then some (some (.int (Int32.ofInt 0)), m) else none
                else
                  if (Int32.ofInt 1) = 0 ∨ (Int32.ofInt 1) = 1 then some (some (.int (Int32.ofInt 1)), m) else none
              else
                if ((m.1 b2 (Int32.toNatClampNeg v3)) - (m.1 b5 (Int32.toNatClampNeg (((Int8.ofInt 49).toInt32) + v4)))) < v2 then
                  if (Int32.ofInt 0) = 0 ∨ (Int32.ofInt 0) = 1 then some (some (.int (Int32.ofInt 0)), m) else none
                else
                  if (Int32.ofInt 1) = 0 ∨ (Int32.ofInt 1) = 1 then some (some (.int (Int32.ofInt 1)), m) else none
            else
              if (Int32.ofInt 0) = 0 ∨ (Int32.ofInt 0) = 1 then some (some (.int (Int32.ofInt 0)), m) else none
        else none
      else none
    else none
  else none
def F_X0_leads (S : xi_S) : xi_F := fun As m => match As with
  | [.ref v0, .int v1, .int v2, .int v3, .int v4] => E_X0_leads S v0 v1 v2 v3 v4 m
  | _ => none
set_option maxRecDepth 100000 in
set_option maxHeartbeats 4000000 in
theorem xe_X0_leads {S : xi_S} {res : xi_R} (v0 : Nat) (v1 : Int32) (v2 : Int32) (v3 : Int32) (v4 : Int32) (m : xi_M) (h : E_X0_leads S v0 v1 v2 v3 v4 m = some res) : xi_X S (P_X0_leads S) (0, [some (.ref v0), some (.int v1), some (.int v2), some (.int v3), some (.int v4), none, none], [], m) res := by
  unfold E_X0_leads at h
  refine xr_aload_n i_X0_leads_0 rfl (q := 1) rfl ?_
  obtain ⟨c1, h⟩ := xi_if_some h
  obtain ⟨b2, eb2, h⟩ := xi_bind_some h
  refine xr_getR i_X0_leads_1 xfe_X0_11 c1 eb2 (q := 4) rfl ?_
  refine xr_iload_n i_X0_leads_4 rfl (q := 5) rfl ?_
  obtain ⟨c3, h⟩ := xi_if_some h
  refine xr_iaload i_X0_leads_5 c3 (q := 6) rfl ?_
  refine xr_istore i_X0_leads_6 rfl (L2 := [some (.ref v0), some (.int v1), some (.int v2), some (.int v3), some (.int v4), some (.int (m.1 b2 (Int32.toNatClampNeg v3))), none]) rfl (q := 8) rfl ?_
  refine xr_aload_n i_X0_leads_8 rfl (q := 9) rfl ?_
  obtain ⟨c4, h⟩ := xi_if_some h
  obtain ⟨b5, eb5, h⟩ := xi_bind_some h
  refine xr_getR i_X0_leads_9 xfe_X0_11 c4 eb5 (q := 12) rfl ?_
  refine xr_bipush i_X0_leads_12 (q := 14) rfl ?_
  refine xr_iload i_X0_leads_14 rfl (q := 16) rfl ?_
  refine xr_iadd i_X0_leads_16 (q := 17) rfl ?_
  obtain ⟨c6, h⟩ := xi_if_some h
  refine xr_iaload i_X0_leads_17 c6 (q := 18) rfl ?_
  refine xr_istore i_X0_leads_18 rfl (L2 := [some (.ref v0), some (.int v1), some (.int v2), some (.int v3), some (.int v4), some (.int (m.1 b2 (Int32.toNatClampNeg v3))), some (.int (m.1 b5 (Int32.toNatClampNeg (((Int8.ofInt 49).toInt32) + v4))))]) rfl (q := 20) rfl ?_
  refine xr_iload i_X0_leads_20 rfl (q := 22) rfl ?_
  by_cases c11 : (m.1 b2 (Int32.toNatClampNeg v3)) < 0
  · replace h := (if_pos c11).symm.trans h
    refine xr_ifCond_lt_p i_X0_leads_22 c11 (q := 30) t_X0_leads_22 (q2 := 25) rfl ?_
    refine xr_iconst i_X0_leads_30 (q := 31) rfl ?_
    exact xr_zreturn i_X0_leads_31 rfl h
  · replace h := (if_neg c11).symm.trans h
    refine xr_ifCond_lt_n i_X0_leads_22 c11 (q := 30) t_X0_leads_22 (q2 := 25) rfl ?_
    refine xr_iload i_X0_leads_25 rfl (q := 27) rfl ?_
    by_cases c10 : 0 ≤ (m.1 b5 (Int32.toNatClampNeg (((Int8.ofInt 49).toInt32) + v4)))
    · replace h := (if_pos c10).symm.trans h
      refine xr_ifCond_ge_p i_X0_leads_27 c10 (q := 32) t_X0_leads_27 (q2 := 30) rfl ?_
      refine xr_iload_n i_X0_leads_32 rfl (q := 33) rfl ?_
      by_cases c9 : v1 = 0
      · replace h := (if_pos c9).symm.trans h
        refine xr_ifCond_ne_p i_X0_leads_33 c9 (q := 44) t_X0_leads_33 (q2 := 36) rfl ?_
        refine xr_iload i_X0_leads_36 rfl (q := 38) rfl ?_
        refine xr_iload i_X0_leads_38 rfl (q := 40) rfl ?_
        refine xr_isub i_X0_leads_40 (q := 41) rfl ?_
        refine xr_goto i_X0_leads_41 (q := 49) t_X0_leads_41 ?_
        refine xr_iload_n i_X0_leads_49 rfl (q := 50) rfl ?_
        by_cases c8 : ((m.1 b5 (Int32.toNatClampNeg (((Int8.ofInt 49).toInt32) + v4))) - (m.1 b2 (Int32.toNatClampNeg v3))) < v2
        · replace h := (if_pos c8).symm.trans h
          refine xr_if_icmp_lt_p i_X0_leads_50 c8 (q := 57) t_X0_leads_50 (q2 := 53) rfl ?_
          refine xr_iconst i_X0_leads_57 (q := 58) rfl ?_
          exact xr_zreturn i_X0_leads_58 rfl h
        · replace h := (if_neg c8).symm.trans h
          refine xr_if_icmp_lt_n i_X0_leads_50 c8 (q := 57) t_X0_leads_50 (q2 := 53) rfl ?_
          refine xr_iconst i_X0_leads_53 (q := 54) rfl ?_
          refine xr_goto i_X0_leads_54 (q := 58) t_X0_leads_54 ?_
          exact xr_zreturn i_X0_leads_58 rfl h
      · replace h := (if_neg c9).symm.trans h
        refine xr_ifCond_ne_n i_X0_leads_33 c9 (q := 44) t_X0_leads_33 (q2 := 36) rfl ?_
        refine xr_iload i_X0_leads_44 rfl (q := 46) rfl ?_
        refine xr_iload i_X0_leads_46 rfl (q := 48) rfl ?_
        refine xr_isub i_X0_leads_48 (q := 49) rfl ?_
        refine xr_iload_n i_X0_leads_49 rfl (q := 50) rfl ?_
        by_cases c7 : ((m.1 b2 (Int32.toNatClampNeg v3)) - (m.1 b5 (Int32.toNatClampNeg (((Int8.ofInt 49).toInt32) + v4)))) < v2
        · replace h := (if_pos c7).symm.trans h
          refine xr_if_icmp_lt_p i_X0_leads_50 c7 (q := 57) t_X0_leads_50 (q2 := 53) rfl ?_
          refine xr_iconst i_X0_leads_57 (q := 58) rfl ?_
          exact xr_zreturn i_X0_leads_58 rfl h
        · replace h := (if_neg c7).symm.trans h
          refine xr_if_icmp_lt_n i_X0_leads_50 c7 (q := 57) t_X0_leads_50 (q2 := 53) rfl ?_
          refine xr_iconst i_X0_leads_53 (q := 54) rfl ?_
          refine xr_goto i_X0_leads_54 (q := 58) t_X0_leads_54 ?_
          exact xr_zreturn i_X0_leads_58 rfl h
    · replace h := (if_neg c10).symm.trans h
      refine xr_ifCond_ge_n i_X0_leads_27 c10 (q := 32) t_X0_leads_27 (q2 := 30) rfl ?_
      refine xr_iconst i_X0_leads_30 (q := 31) rfl ?_
      exact xr_zreturn i_X0_leads_31 rfl h
set_option maxRecDepth 100000 in
theorem po_X0_leads {l : Launch} {E : xi_E} {S : xi_S} {D : va_G} {tys : List (ClassId × FieldType)} (hC : xCx E S tys) : xi_Pok l E S D vwCl tys xNs RX0 xTs cX0_leads 7 0 (P_X0_leads S) := ⟨xi_dc_ok, by rw [hC.2]; exact xfo_X0, xkio_X0, xklo_X0, xi_calls_ok (ins := .invokestatic) (fun _ h => absurd h List.not_mem_nil), xi_calls_ok (ins := .invokevirtual) (fun _ h => absurd h List.not_mem_nil)⟩
theorem sn_X0_leads {l : Launch} {E : xi_E} {S : xi_S} {D : va_G} {tys : List (ClassId × FieldType)} (hC : xCx E S tys) : ∀ As m1 r m2, F_X0_leads S As m1 = some (r, m2) → xi_Sound l E S D vwCl tys xNs xTs yX0_leads cX0_leads 7 (some .boolean) 0 As m1 r m2 := by
  intro As m1 r m2 h
  unfold F_X0_leads at h
  split at h
  · exact xi_meth (P := P_X0_leads S) (by decide) hC.1 (po_X0_leads hC) (Nat.le_of_ble_eq_true rfl) rfl (xe_X0_leads _ _ _ _ _ _ h)
  · exact xi_no h
theorem i_X0_fewest_0 : xi_dc cX0_fewest 0 = some (.bipush (-9), 2) := by decide +kernel
theorem i_X0_fewest_2 : xi_dc cX0_fewest 2 = some (.istore_n 3, 1) := by decide +kernel
theorem i_X0_fewest_3 : xi_dc cX0_fewest 3 = some (.iconst 0, 1) := by decide +kernel
theorem i_X0_fewest_4 : xi_dc cX0_fewest 4 = some (.istore 4, 2) := by decide +kernel
theorem i_X0_fewest_6 : xi_dc cX0_fewest 6 = some (.iload 4, 2) := by decide +kernel
theorem i_X0_fewest_8 : xi_dc cX0_fewest 8 = some (.bipush 49, 2) := by decide +kernel
theorem i_X0_fewest_10 : xi_dc cX0_fewest 10 = some (.if_icmp .ge 78, 3) := by decide +kernel
theorem t_X0_fewest_10 : ((10 : Nat) : Int) + 78 = ((88 : Nat) : Int) := by decide +kernel
theorem i_X0_fewest_13 : xi_dc cX0_fewest 13 = some (.iconst 0, 1) := by decide +kernel
theorem i_X0_fewest_14 : xi_dc cX0_fewest 14 = some (.istore 5, 2) := by decide +kernel
theorem i_X0_fewest_16 : xi_dc cX0_fewest 16 = some (.iload 5, 2) := by decide +kernel
theorem i_X0_fewest_18 : xi_dc cX0_fewest 18 = some (.bipush 49, 2) := by decide +kernel
theorem i_X0_fewest_20 : xi_dc cX0_fewest 20 = some (.if_icmp .ge 62, 3) := by decide +kernel
theorem t_X0_fewest_20 : ((20 : Nat) : Int) + 62 = ((82 : Nat) : Int) := by decide +kernel
theorem i_X0_fewest_23 : xi_dc cX0_fewest 23 = some (.iload 4, 2) := by decide +kernel
theorem i_X0_fewest_25 : xi_dc cX0_fewest 25 = some (.invokestatic 45, 3) := by decide +kernel
theorem i_X0_fewest_28 : xi_dc cX0_fewest 28 = some (.iload 5, 2) := by decide +kernel
theorem i_X0_fewest_30 : xi_dc cX0_fewest 30 = some (.invokestatic 45, 3) := by decide +kernel
theorem i_X0_fewest_33 : xi_dc cX0_fewest 33 = some (.iadd, 1) := by decide +kernel
theorem i_X0_fewest_34 : xi_dc cX0_fewest 34 = some (.istore 6, 2) := by decide +kernel
theorem i_X0_fewest_36 : xi_dc cX0_fewest 36 = some (.iload_n 3, 1) := by decide +kernel
theorem i_X0_fewest_37 : xi_dc cX0_fewest 37 = some (.bipush (-9), 2) := by decide +kernel
theorem i_X0_fewest_39 : xi_dc cX0_fewest 39 = some (.if_icmp .eq 9, 3) := by decide +kernel
theorem t_X0_fewest_39 : ((39 : Nat) : Int) + 9 = ((48 : Nat) : Int) := by decide +kernel
theorem i_X0_fewest_42 : xi_dc cX0_fewest 42 = some (.iload 6, 2) := by decide +kernel
theorem i_X0_fewest_44 : xi_dc cX0_fewest 44 = some (.iload_n 3, 1) := by decide +kernel
theorem i_X0_fewest_45 : xi_dc cX0_fewest 45 = some (.if_icmp .ge 31, 3) := by decide +kernel
theorem t_X0_fewest_45 : ((45 : Nat) : Int) + 31 = ((76 : Nat) : Int) := by decide +kernel
theorem i_X0_fewest_48 : xi_dc cX0_fewest 48 = some (.aload_n 0, 1) := by decide +kernel
theorem i_X0_fewest_49 : xi_dc cX0_fewest 49 = some (.iload_n 1, 1) := by decide +kernel
theorem i_X0_fewest_50 : xi_dc cX0_fewest 50 = some (.iload_n 2, 1) := by decide +kernel
theorem i_X0_fewest_51 : xi_dc cX0_fewest 51 = some (.iload 4, 2) := by decide +kernel
theorem i_X0_fewest_53 : xi_dc cX0_fewest 53 = some (.iload 5, 2) := by decide +kernel
theorem i_X0_fewest_55 : xi_dc cX0_fewest 55 = some (.invokevirtual 48, 3) := by decide +kernel
theorem i_X0_fewest_58 : xi_dc cX0_fewest 58 = some (.ifCond .eq 18, 3) := by decide +kernel
theorem t_X0_fewest_58 : ((58 : Nat) : Int) + 18 = ((76 : Nat) : Int) := by decide +kernel
theorem i_X0_fewest_61 : xi_dc cX0_fewest 61 = some (.iload 6, 2) := by decide +kernel
theorem i_X0_fewest_63 : xi_dc cX0_fewest 63 = some (.istore_n 3, 1) := by decide +kernel
theorem i_X0_fewest_64 : xi_dc cX0_fewest 64 = some (.aload_n 0, 1) := by decide +kernel
theorem i_X0_fewest_65 : xi_dc cX0_fewest 65 = some (.iload 4, 2) := by decide +kernel
theorem i_X0_fewest_67 : xi_dc cX0_fewest 67 = some (.putfield 52, 3) := by decide +kernel
theorem i_X0_fewest_70 : xi_dc cX0_fewest 70 = some (.aload_n 0, 1) := by decide +kernel
theorem i_X0_fewest_71 : xi_dc cX0_fewest 71 = some (.iload 5, 2) := by decide +kernel
theorem i_X0_fewest_73 : xi_dc cX0_fewest 73 = some (.putfield 56, 3) := by decide +kernel
theorem i_X0_fewest_76 : xi_dc cX0_fewest 76 = some (.iinc 5 1, 3) := by decide +kernel
theorem i_X0_fewest_79 : xi_dc cX0_fewest 79 = some (.goto (-63), 3) := by decide +kernel
theorem t_X0_fewest_79 : ((79 : Nat) : Int) + (-63) = ((16 : Nat) : Int) := by decide +kernel
theorem i_X0_fewest_82 : xi_dc cX0_fewest 82 = some (.iinc 4 1, 3) := by decide +kernel
theorem i_X0_fewest_85 : xi_dc cX0_fewest 85 = some (.goto (-79), 3) := by decide +kernel
theorem t_X0_fewest_85 : ((85 : Nat) : Int) + (-79) = ((6 : Nat) : Int) := by decide +kernel
theorem i_X0_fewest_88 : xi_dc cX0_fewest 88 = some (.iload_n 3, 1) := by decide +kernel
theorem i_X0_fewest_89 : xi_dc cX0_fewest 89 = some (.ireturn, 1) := by decide +kernel
def P_X0_fewest (S : xi_S) : xi_P := (xi_dc cX0_fewest, xi_tab xfl_X0, xi_tab xki_X0, xi_tab xkl_X0, xi_tab xcs_X0, xi_tab xcv_X0, xi_calls [(45, xi_wS 1 (F_X0_stepsOf S))], xi_calls [(48, xi_wV S 3 4 (F_X0_leads S))], 1)
theorem cc_X0_fewest_45 (S : xi_S) (a0 : Int32) (m : xi_M) : (P_X0_fewest S).2.2.2.2.2.2.1 45 [.int a0] m = (E_X0_stepsOf S a0 m) := by
  show xi_calls [(45, xi_wS 1 (F_X0_stepsOf S))] 45 [.int a0] m = _
  refine Eq.trans (b := xi_wS 1 (F_X0_stepsOf S) [.int a0] m) (xi_calls_hit rfl) ?_
  exact xi_wS_eq rfl
theorem cc_X0_fewest_48 (S : xi_S) (a0 : Nat) (a1 : Int32) (a2 : Int32) (a3 : Int32) (a4 : Int32) (m : xi_M) : (P_X0_fewest S).2.2.2.2.2.2.2.1 48 [.ref a0, .int a1, .int a2, .int a3, .int a4] m = (if S.1 a0 = 3 then E_X0_leads S a0 a1 a2 a3 a4 m else none) := by
  show xi_calls [(48, xi_wV S 3 4 (F_X0_leads S))] 48 [.ref a0, .int a1, .int a2, .int a3, .int a4] m = _
  refine Eq.trans (b := xi_wV S 3 4 (F_X0_leads S) [.ref a0, .int a1, .int a2, .int a3, .int a4] m) (xi_calls_hit rfl) ?_
  exact xi_wV_eq rfl
def G_X0_fewest_16 (S : xi_S) (k6 : Nat → Int32 → Int32 → Int32 → Int32 → xi_M → Option xi_R) : Nat → Nat → Int32 → Int32 → Int32 → Int32 → Int32 → xi_M → Option xi_R
  | 0, _, _, _, _, _, _, _ => none
  | n + 1, v0, v1, v2, v3, v4, v5, m =>
    if ((Int8.ofInt 49).toInt32) ≤ v5 then
      k6 v0 v1 v2 v3 (v4 + Int32.ofInt 1) m
    else
      xi_bI (E_X0_stepsOf S v4 m) fun x2 m1 =>
      xi_bI (E_X0_stepsOf S v5 m1) fun x4 m3 =>
      if v3 = ((Int8.ofInt (-9)).toInt32) then
        xi_bI (if S.1 v0 = 3 then E_X0_leads S v0 v1 v2 v4 v5 m3 else none) fun x6 m5 =>
        if x6 = 0 then
          G_X0_fewest_16 S k6 n v0 v1 v2 v3 v4 (v5 + Int32.ofInt 1) m5
        else
          if S.1 v0 = 3 then
            if S.1 v0 = 3 then
              G_X0_fewest_16 S k6 n v0 v1 v2 (x2 + x4) v4 (v5 + Int32.ofInt 1) (xi_wI (xi_wI m5 v0 1 v4) v0 2 v5)
            else none
          else none
      else
        if v3 ≤ (x2 + x4) then
          G_X0_fewest_16 S k6 n v0 v1 v2 v3 v4 (v5 + Int32.ofInt 1) m3
        else
          xi_bI (if S.1 v0 = 3 then E_X0_leads S v0 v1 v2 v4 v5 m3 else none) fun x11 m10 =>
          if x11 = 0 then
            G_X0_fewest_16 S k6 n v0 v1 v2 v3 v4 (v5 + Int32.ofInt 1) m10
          else
            if S.1 v0 = 3 then
              if S.1 v0 = 3 then
                G_X0_fewest_16 S k6 n v0 v1 v2 (x2 + x4) v4 (v5 + Int32.ofInt 1) (xi_wI (xi_wI m10 v0 1 v4) v0 2 v5)
              else none
            else none
set_option maxRecDepth 100000 in
set_option maxHeartbeats 4000000 in
theorem xs_X0_fewest_16 {S : xi_S} {res : xi_R} {k6 : Nat → Int32 → Int32 → Int32 → Int32 → xi_M → Option xi_R} (hk6 : ∀ (v0 : Nat) (v1 : Int32) (v2 : Int32) (v3 : Int32) (v4 : Int32) (m : xi_M), k6 v0 v1 v2 v3 v4 m = some res → xi_X S (P_X0_fewest S) (6, [some (.ref v0), some (.int v1), some (.int v2), some (.int v3), some (.int v4), none, none], [], m) res) : ∀ (n : Nat) (v0 : Nat) (v1 : Int32) (v2 : Int32) (v3 : Int32) (v4 : Int32) (v5 : Int32) (m : xi_M), G_X0_fewest_16 S k6 n v0 v1 v2 v3 v4 v5 m = some res → xi_X S (P_X0_fewest S) (16, [some (.ref v0), some (.int v1), some (.int v2), some (.int v3), some (.int v4), some (.int v5), none], [], m) res := by
  intro n
  induction n with
  | zero => intro v0 v1 v2 v3 v4 v5 m h; exact xi_no h
  | succ n ih =>
    intro v0 v1 v2 v3 v4 v5 m h
    unfold G_X0_fewest_16 at h
    refine xr_iload i_X0_fewest_16 rfl (q := 18) rfl ?_
    refine xr_bipush i_X0_fewest_18 (q := 20) rfl ?_
    by_cases c17 : ((Int8.ofInt 49).toInt32) ≤ v5
    · replace h := (if_pos c17).symm.trans h
      refine xr_if_icmp_ge_p i_X0_fewest_20 c17 (q := 82) t_X0_fewest_20 (q2 := 23) rfl ?_
      refine xr_iinc i_X0_fewest_82 rfl rfl (L2 := [some (.ref v0), some (.int v1), some (.int v2), some (.int v3), some (.int (v4 + Int32.ofInt 1)), some (.int v5), none]) rfl (q := 85) rfl ?_
      refine xr_goto i_X0_fewest_85 (q := 6) t_X0_fewest_85 ?_
      exact xi_X_le (xi_le_s (xi_le_s (xi_le_s (xi_le_s (xi_le_s (xi_le_n (xi_le_n xi_le_z))))))) (hk6 _ _ _ _ _ _ h)
    · replace h := (if_neg c17).symm.trans h
      refine xr_if_icmp_ge_n i_X0_fewest_20 c17 (q := 82) t_X0_fewest_20 (q2 := 23) rfl ?_
      refine xr_iload i_X0_fewest_23 rfl (q := 25) rfl ?_
      obtain ⟨x2, m1, em1, h⟩ := xi_bI_some h
      refine xr_SI i_X0_fewest_25 xcse_X0_45 rfl (As := [.int v4]) rfl (rest := []) rfl ((cc_X0_fewest_45 S _ _).trans em1) (q := 28) rfl ?_
      refine xr_iload i_X0_fewest_28 rfl (q := 30) rfl ?_
      obtain ⟨x4, m3, em3, h⟩ := xi_bI_some h
      refine xr_SI i_X0_fewest_30 xcse_X0_45 rfl (As := [.int v5]) rfl (rest := [.int x2]) rfl ((cc_X0_fewest_45 S _ _).trans em3) (q := 33) rfl ?_
      refine xr_iadd i_X0_fewest_33 (q := 34) rfl ?_
      refine xr_istore i_X0_fewest_34 rfl (L2 := [some (.ref v0), some (.int v1), some (.int v2), some (.int v3), some (.int v4), some (.int v5), some (.int (x2 + x4))]) rfl (q := 36) rfl ?_
      refine xr_iload_n i_X0_fewest_36 rfl (q := 37) rfl ?_
      refine xr_bipush i_X0_fewest_37 (q := 39) rfl ?_
      by_cases c16 : v3 = ((Int8.ofInt (-9)).toInt32)
      · replace h := (if_pos c16).symm.trans h
        refine xr_if_icmp_eq_p i_X0_fewest_39 c16 (q := 48) t_X0_fewest_39 (q2 := 42) rfl ?_
        refine xr_aload_n i_X0_fewest_48 rfl (q := 49) rfl ?_
        refine xr_iload_n i_X0_fewest_49 rfl (q := 50) rfl ?_
        refine xr_iload_n i_X0_fewest_50 rfl (q := 51) rfl ?_
        refine xr_iload i_X0_fewest_51 rfl (q := 53) rfl ?_
        refine xr_iload i_X0_fewest_53 rfl (q := 55) rfl ?_
        obtain ⟨x6, m5, em5, h⟩ := xi_bI_some h
        refine xr_VI i_X0_fewest_55 xcve_X0_48 rfl (As := [.ref v0, .int v1, .int v2, .int v4, .int v5]) rfl (rest := []) rfl ((cc_X0_fewest_48 S _ _ _ _ _ _).trans em5) (q := 58) rfl ?_
        by_cases c9 : x6 = 0
        · replace h := (if_pos c9).symm.trans h
          refine xr_ifCond_eq_p i_X0_fewest_58 c9 (q := 76) t_X0_fewest_58 (q2 := 61) rfl ?_
          refine xr_iinc i_X0_fewest_76 rfl rfl (L2 := [some (.ref v0), some (.int v1), some (.int v2), some (.int v3), some (.int v4), some (.int (v5 + Int32.ofInt 1)), some (.int (x2 + x4))]) rfl (q := 79) rfl ?_
          refine xr_goto i_X0_fewest_79 (q := 16) t_X0_fewest_79 ?_
          exact xi_X_le (xi_le_s (xi_le_s (xi_le_s (xi_le_s (xi_le_s (xi_le_s (xi_le_n xi_le_z))))))) (ih _ _ _ _ _ _ _ h)
        · replace h := (if_neg c9).symm.trans h
          refine xr_ifCond_eq_n i_X0_fewest_58 c9 (q := 76) t_X0_fewest_58 (q2 := 61) rfl ?_
          refine xr_iload i_X0_fewest_61 rfl (q := 63) rfl ?_
          refine xr_istore_n i_X0_fewest_63 rfl (L2 := [some (.ref v0), some (.int v1), some (.int v2), some (.int (x2 + x4)), some (.int v4), some (.int v5), some (.int (x2 + x4))]) rfl (q := 64) rfl ?_
          refine xr_aload_n i_X0_fewest_64 rfl (q := 65) rfl ?_
          refine xr_iload i_X0_fewest_65 rfl (q := 67) rfl ?_
          obtain ⟨c7, h⟩ := xi_if_some h
          refine xr_putI i_X0_fewest_67 xfe_X0_52 c7 (q := 70) rfl ?_
          refine xr_aload_n i_X0_fewest_70 rfl (q := 71) rfl ?_
          refine xr_iload i_X0_fewest_71 rfl (q := 73) rfl ?_
          obtain ⟨c8, h⟩ := xi_if_some h
          refine xr_putI i_X0_fewest_73 xfe_X0_56 c8 (q := 76) rfl ?_
          refine xr_iinc i_X0_fewest_76 rfl rfl (L2 := [some (.ref v0), some (.int v1), some (.int v2), some (.int (x2 + x4)), some (.int v4), some (.int (v5 + Int32.ofInt 1)), some (.int (x2 + x4))]) rfl (q := 79) rfl ?_
          refine xr_goto i_X0_fewest_79 (q := 16) t_X0_fewest_79 ?_
          exact xi_X_le (xi_le_s (xi_le_s (xi_le_s (xi_le_s (xi_le_s (xi_le_s (xi_le_n xi_le_z))))))) (ih _ _ _ _ _ _ _ h)
      · replace h := (if_neg c16).symm.trans h
        refine xr_if_icmp_eq_n i_X0_fewest_39 c16 (q := 48) t_X0_fewest_39 (q2 := 42) rfl ?_
        refine xr_iload i_X0_fewest_42 rfl (q := 44) rfl ?_
        refine xr_iload_n i_X0_fewest_44 rfl (q := 45) rfl ?_
        by_cases c15 : v3 ≤ (x2 + x4)
        · replace h := (if_pos c15).symm.trans h
          refine xr_if_icmp_ge_p i_X0_fewest_45 c15 (q := 76) t_X0_fewest_45 (q2 := 48) rfl ?_
          refine xr_iinc i_X0_fewest_76 rfl rfl (L2 := [some (.ref v0), some (.int v1), some (.int v2), some (.int v3), some (.int v4), some (.int (v5 + Int32.ofInt 1)), some (.int (x2 + x4))]) rfl (q := 79) rfl ?_
          refine xr_goto i_X0_fewest_79 (q := 16) t_X0_fewest_79 ?_
          exact xi_X_le (xi_le_s (xi_le_s (xi_le_s (xi_le_s (xi_le_s (xi_le_s (xi_le_n xi_le_z))))))) (ih _ _ _ _ _ _ _ h)
        · replace h := (if_neg c15).symm.trans h
          refine xr_if_icmp_ge_n i_X0_fewest_45 c15 (q := 76) t_X0_fewest_45 (q2 := 48) rfl ?_
          refine xr_aload_n i_X0_fewest_48 rfl (q := 49) rfl ?_
          refine xr_iload_n i_X0_fewest_49 rfl (q := 50) rfl ?_
          refine xr_iload_n i_X0_fewest_50 rfl (q := 51) rfl ?_
          refine xr_iload i_X0_fewest_51 rfl (q := 53) rfl ?_
          refine xr_iload i_X0_fewest_53 rfl (q := 55) rfl ?_
          obtain ⟨x11, m10, em10, h⟩ := xi_bI_some h
          refine xr_VI i_X0_fewest_55 xcve_X0_48 rfl (As := [.ref v0, .int v1, .int v2, .int v4, .int v5]) rfl (rest := []) rfl ((cc_X0_fewest_48 S _ _ _ _ _ _).trans em10) (q := 58) rfl ?_
          by_cases c14 : x11 = 0
          · replace h := (if_pos c14).symm.trans h
            refine xr_ifCond_eq_p i_X0_fewest_58 c14 (q := 76) t_X0_fewest_58 (q2 := 61) rfl ?_
            refine xr_iinc i_X0_fewest_76 rfl rfl (L2 := [some (.ref v0), some (.int v1), some (.int v2), some (.int v3), some (.int v4), some (.int (v5 + Int32.ofInt 1)), some (.int (x2 + x4))]) rfl (q := 79) rfl ?_
            refine xr_goto i_X0_fewest_79 (q := 16) t_X0_fewest_79 ?_
            exact xi_X_le (xi_le_s (xi_le_s (xi_le_s (xi_le_s (xi_le_s (xi_le_s (xi_le_n xi_le_z))))))) (ih _ _ _ _ _ _ _ h)
          · replace h := (if_neg c14).symm.trans h
            refine xr_ifCond_eq_n i_X0_fewest_58 c14 (q := 76) t_X0_fewest_58 (q2 := 61) rfl ?_
            refine xr_iload i_X0_fewest_61 rfl (q := 63) rfl ?_
            refine xr_istore_n i_X0_fewest_63 rfl (L2 := [some (.ref v0), some (.int v1), some (.int v2), some (.int (x2 + x4)), some (.int v4), some (.int v5), some (.int (x2 + x4))]) rfl (q := 64) rfl ?_
            refine xr_aload_n i_X0_fewest_64 rfl (q := 65) rfl ?_
            refine xr_iload i_X0_fewest_65 rfl (q := 67) rfl ?_
            obtain ⟨c12, h⟩ := xi_if_some h
            refine xr_putI i_X0_fewest_67 xfe_X0_52 c12 (q := 70) rfl ?_
            refine xr_aload_n i_X0_fewest_70 rfl (q := 71) rfl ?_
            refine xr_iload i_X0_fewest_71 rfl (q := 73) rfl ?_
            obtain ⟨c13, h⟩ := xi_if_some h
            refine xr_putI i_X0_fewest_73 xfe_X0_56 c13 (q := 76) rfl ?_
            refine xr_iinc i_X0_fewest_76 rfl rfl (L2 := [some (.ref v0), some (.int v1), some (.int v2), some (.int (x2 + x4)), some (.int v4), some (.int (v5 + Int32.ofInt 1)), some (.int (x2 + x4))]) rfl (q := 79) rfl ?_
            refine xr_goto i_X0_fewest_79 (q := 16) t_X0_fewest_79 ?_
            exact xi_X_le (xi_le_s (xi_le_s (xi_le_s (xi_le_s (xi_le_s (xi_le_s (xi_le_n xi_le_z))))))) (ih _ _ _ _ _ _ _ h)
def G_X0_fewest_6 (S : xi_S) : Nat → Nat → Int32 → Int32 → Int32 → Int32 → xi_M → Option xi_R
  | 0, _, _, _, _, _, _ => none
  | n + 1, v0, v1, v2, v3, v4, m =>
    if ((Int8.ofInt 49).toInt32) ≤ v4 then
      some (some (.int v3), m)
    else
      G_X0_fewest_16 S (G_X0_fewest_6 S n) 10000 v0 v1 v2 v3 v4 (Int32.ofInt 0) m
set_option maxRecDepth 100000 in
set_option maxHeartbeats 4000000 in
theorem xs_X0_fewest_6 {S : xi_S} {res : xi_R} : ∀ (n : Nat) (v0 : Nat) (v1 : Int32) (v2 : Int32) (v3 : Int32) (v4 : Int32) (m : xi_M), G_X0_fewest_6 S n v0 v1 v2 v3 v4 m = some res → xi_X S (P_X0_fewest S) (6, [some (.ref v0), some (.int v1), some (.int v2), some (.int v3), some (.int v4), none, none], [], m) res := by
  intro n
  induction n with
  | zero => intro v0 v1 v2 v3 v4 m h; exact xi_no h
  | succ n ih =>
    intro v0 v1 v2 v3 v4 m h
    unfold G_X0_fewest_6 at h
    refine xr_iload i_X0_fewest_6 rfl (q := 8) rfl ?_
    refine xr_bipush i_X0_fewest_8 (q := 10) rfl ?_
    by_cases c1 : ((Int8.ofInt 49).toInt32) ≤ v4
    · replace h := (if_pos c1).symm.trans h
      refine xr_if_icmp_ge_p i_X0_fewest_10 c1 (q := 88) t_X0_fewest_10 (q2 := 13) rfl ?_
      refine xr_iload_n i_X0_fewest_88 rfl (q := 89) rfl ?_
      exact xr_ireturn i_X0_fewest_89 rfl h
    · replace h := (if_neg c1).symm.trans h
      refine xr_if_icmp_ge_n i_X0_fewest_10 c1 (q := 88) t_X0_fewest_10 (q2 := 13) rfl ?_
      refine xr_iconst i_X0_fewest_13 (q := 14) rfl ?_
      refine xr_istore i_X0_fewest_14 rfl (L2 := [some (.ref v0), some (.int v1), some (.int v2), some (.int v3), some (.int v4), some (.int (Int32.ofInt 0)), none]) rfl (q := 16) rfl ?_
      exact xi_X_le (xi_le_s (xi_le_s (xi_le_s (xi_le_s (xi_le_s (xi_le_s (xi_le_n xi_le_z))))))) (xs_X0_fewest_16 ih 10000 _ _ _ _ _ _ _ h)
def E_X0_fewest (S : xi_S) (v0 : Nat) (v1 : Int32) (v2 : Int32) (m : xi_M) : Option xi_R :=
  G_X0_fewest_6 S 10000 v0 v1 v2 ((Int8.ofInt (-9)).toInt32) (Int32.ofInt 0) m
def F_X0_fewest (S : xi_S) : xi_F := fun As m => match As with
  | [.ref v0, .int v1, .int v2] => E_X0_fewest S v0 v1 v2 m
  | _ => none
set_option maxRecDepth 100000 in
set_option maxHeartbeats 4000000 in
theorem xe_X0_fewest {S : xi_S} {res : xi_R} (v0 : Nat) (v1 : Int32) (v2 : Int32) (m : xi_M) (h : E_X0_fewest S v0 v1 v2 m = some res) : xi_X S (P_X0_fewest S) (0, [some (.ref v0), some (.int v1), some (.int v2), none, none, none, none], [], m) res := by
  unfold E_X0_fewest at h
  refine xr_bipush i_X0_fewest_0 (q := 2) rfl ?_
  refine xr_istore_n i_X0_fewest_2 rfl (L2 := [some (.ref v0), some (.int v1), some (.int v2), some (.int ((Int8.ofInt (-9)).toInt32)), none, none, none]) rfl (q := 3) rfl ?_
  refine xr_iconst i_X0_fewest_3 (q := 4) rfl ?_
  refine xr_istore i_X0_fewest_4 rfl (L2 := [some (.ref v0), some (.int v1), some (.int v2), some (.int ((Int8.ofInt (-9)).toInt32)), some (.int (Int32.ofInt 0)), none, none]) rfl (q := 6) rfl ?_
  exact xi_X_le (xi_le_s (xi_le_s (xi_le_s (xi_le_s (xi_le_s (xi_le_n (xi_le_n xi_le_z))))))) (xs_X0_fewest_6 10000 _ _ _ _ _ _ h)
set_option maxRecDepth 100000 in
theorem po_X0_fewest {l : Launch} {E : xi_E} {S : xi_S} {D : va_G} {tys : List (ClassId × FieldType)} (hC : xCx E S tys) : xi_Pok l E S D vwCl tys xNs RX0 xTs cX0_fewest 7 2 (P_X0_fewest S) := ⟨xi_dc_ok, by rw [hC.2]; exact xfo_X0, xkio_X0, xklo_X0, xi_calls_ok (ins := .invokestatic) (List.forall_mem_cons.mpr ⟨(xc_X0_45 (sn_X0_stepsOf hC) (by decide)), fun _ h => absurd h List.not_mem_nil⟩), xi_calls_ok (ins := .invokevirtual) (List.forall_mem_cons.mpr ⟨(xc_X0_48 hC.1 (sn_X0_leads hC) (by decide)), fun _ h => absurd h List.not_mem_nil⟩)⟩
theorem sn_X0_fewest {l : Launch} {E : xi_E} {S : xi_S} {D : va_G} {tys : List (ClassId × FieldType)} (hC : xCx E S tys) : ∀ As m1 r m2, F_X0_fewest S As m1 = some (r, m2) → xi_Sound l E S D vwCl tys xNs xTs yX0_fewest cX0_fewest 7 (some .int) 2 As m1 r m2 := by
  intro As m1 r m2 h
  unfold F_X0_fewest at h
  split at h
  · exact xi_meth (P := P_X0_fewest S) (by decide) hC.1 (po_X0_fewest hC) (Nat.le_of_ble_eq_true rfl) rfl (xe_X0_fewest _ _ _ _ h)
  · exact xi_no h
theorem i_X0_write_0 : xi_dc cX0_write 0 = some (.aload_n 1, 1) := by decide +kernel
theorem i_X0_write_1 : xi_dc cX0_write 1 = some (.iconst 0, 1) := by decide +kernel
theorem i_X0_write_2 : xi_dc cX0_write 2 = some (.aload_n 0, 1) := by decide +kernel
theorem i_X0_write_3 : xi_dc cX0_write 3 = some (.getfield 52, 3) := by decide +kernel
theorem i_X0_write_6 : xi_dc cX0_write 6 = some (.invokestatic 24, 3) := by decide +kernel
theorem i_X0_write_9 : xi_dc cX0_write 9 = some (.iastore, 1) := by decide +kernel
theorem i_X0_write_10 : xi_dc cX0_write 10 = some (.aload_n 1, 1) := by decide +kernel
theorem i_X0_write_11 : xi_dc cX0_write 11 = some (.iconst 1, 1) := by decide +kernel
theorem i_X0_write_12 : xi_dc cX0_write 12 = some (.aload_n 0, 1) := by decide +kernel
theorem i_X0_write_13 : xi_dc cX0_write 13 = some (.getfield 52, 3) := by decide +kernel
theorem i_X0_write_16 : xi_dc cX0_write 16 = some (.invokestatic 28, 3) := by decide +kernel
theorem i_X0_write_19 : xi_dc cX0_write 19 = some (.iastore, 1) := by decide +kernel
theorem i_X0_write_20 : xi_dc cX0_write 20 = some (.aload_n 1, 1) := by decide +kernel
theorem i_X0_write_21 : xi_dc cX0_write 21 = some (.iconst 2, 1) := by decide +kernel
theorem i_X0_write_22 : xi_dc cX0_write 22 = some (.aload_n 0, 1) := by decide +kernel
theorem i_X0_write_23 : xi_dc cX0_write 23 = some (.getfield 56, 3) := by decide +kernel
theorem i_X0_write_26 : xi_dc cX0_write 26 = some (.invokestatic 24, 3) := by decide +kernel
theorem i_X0_write_29 : xi_dc cX0_write 29 = some (.iastore, 1) := by decide +kernel
theorem i_X0_write_30 : xi_dc cX0_write 30 = some (.aload_n 1, 1) := by decide +kernel
theorem i_X0_write_31 : xi_dc cX0_write 31 = some (.iconst 3, 1) := by decide +kernel
theorem i_X0_write_32 : xi_dc cX0_write 32 = some (.aload_n 0, 1) := by decide +kernel
theorem i_X0_write_33 : xi_dc cX0_write 33 = some (.getfield 56, 3) := by decide +kernel
theorem i_X0_write_36 : xi_dc cX0_write 36 = some (.invokestatic 28, 3) := by decide +kernel
theorem i_X0_write_39 : xi_dc cX0_write 39 = some (.iastore, 1) := by decide +kernel
theorem i_X0_write_40 : xi_dc cX0_write 40 = some (.return_, 1) := by decide +kernel
def P_X0_write (S : xi_S) : xi_P := (xi_dc cX0_write, xi_tab xfl_X0, xi_tab xki_X0, xi_tab xkl_X0, xi_tab xcs_X0, xi_tab xcv_X0, xi_calls [(24, xi_wS 1 (F_X0_first S)), (28, xi_wS 1 (F_X0_second S))], xi_calls [], 0)
theorem cc_X0_write_24 (S : xi_S) (a0 : Int32) (m : xi_M) : (P_X0_write S).2.2.2.2.2.2.1 24 [.int a0] m = (E_X0_first S a0 m) := by
  show xi_calls [(24, xi_wS 1 (F_X0_first S)), (28, xi_wS 1 (F_X0_second S))] 24 [.int a0] m = _
  refine Eq.trans (b := xi_wS 1 (F_X0_first S) [.int a0] m) (xi_calls_hit rfl) ?_
  exact xi_wS_eq rfl
theorem cc_X0_write_28 (S : xi_S) (a0 : Int32) (m : xi_M) : (P_X0_write S).2.2.2.2.2.2.1 28 [.int a0] m = (E_X0_second S a0 m) := by
  show xi_calls [(24, xi_wS 1 (F_X0_first S)), (28, xi_wS 1 (F_X0_second S))] 28 [.int a0] m = _
  refine Eq.trans (b := xi_calls [(28, xi_wS 1 (F_X0_second S))] 28 [.int a0] m) (xi_calls_miss rfl) ?_
  refine Eq.trans (b := xi_wS 1 (F_X0_second S) [.int a0] m) (xi_calls_hit rfl) ?_
  exact xi_wS_eq rfl
def E_X0_write (S : xi_S) (v0 : Nat) (v1 : Nat) (m : xi_M) : Option xi_R :=
  if S.1 v0 = 3 then
    xi_bI (E_X0_first S (m.1 v0 1) m) fun x3 m2 =>
    if S.1 v1 = 0 ∧ ¬ ((Int32.ofInt 0) < 0 ∨ S.2.1 v1 ≤ Int32.toNatClampNeg (Int32.ofInt 0)) then
      if S.1 v0 = 3 then
        xi_bI (E_X0_second S ((xi_wI m2 v1 (Int32.toNatClampNeg (Int32.ofInt 0)) x3).1 v0 1) (xi_wI m2 v1 (Int32.toNatClampNeg (Int32.ofInt 0)) x3)) fun x7 m6 =>
        if S.1 v1 = 0 ∧ ¬ ((Int32.ofInt 1) < 0 ∨ S.2.1 v1 ≤ Int32.toNatClampNeg (Int32.ofInt 1)) then
          if S.1 v0 = 3 then
            xi_bI (E_X0_first S ((xi_wI m6 v1 (Int32.toNatClampNeg (Int32.ofInt 1)) x7).1 v0 2) (xi_wI m6 v1 (Int32.toNatClampNeg (Int32.ofInt 1)) x7)) fun x11 m10 =>
            if S.1 v1 = 0 ∧ ¬ ((Int32.ofInt 2) < 0 ∨ S.2.1 v1 ≤ Int32.toNatClampNeg (Int32.ofInt 2)) then
              if S.1 v0 = 3 then
                xi_bI (E_X0_second S ((xi_wI m10 v1 (Int32.toNatClampNeg (Int32.ofInt 2)) x11).1 v0 2) (xi_wI m10 v1 (Int32.toNatClampNeg (Int32.ofInt 2)) x11)) fun x15 m14 =>
                if S.1 v1 = 0 ∧ ¬ ((Int32.ofInt 3) < 0 ∨ S.2.1 v1 ≤ Int32.toNatClampNeg (Int32.ofInt 3)) then
                  some (none, (xi_wI m14 v1 (Int32.toNatClampNeg (Int32.ofInt 3)) x15))
                else none
              else none
            else none
          else none
        else none
      else none
    else none
  else none
def F_X0_write (S : xi_S) : xi_F := fun As m => match As with
  | [.ref v0, .ref v1] => E_X0_write S v0 v1 m
  | _ => none
set_option maxRecDepth 100000 in
set_option maxHeartbeats 4000000 in
theorem xe_X0_write {S : xi_S} {res : xi_R} (v0 : Nat) (v1 : Nat) (m : xi_M) (h : E_X0_write S v0 v1 m = some res) : xi_X S (P_X0_write S) (0, [some (.ref v0), some (.ref v1)], [], m) res := by
  unfold E_X0_write at h
  refine xr_aload_n i_X0_write_0 rfl (q := 1) rfl ?_
  refine xr_iconst i_X0_write_1 (q := 2) rfl ?_
  refine xr_aload_n i_X0_write_2 rfl (q := 3) rfl ?_
  obtain ⟨c1, h⟩ := xi_if_some h
  refine xr_getI i_X0_write_3 xfe_X0_52 c1 (q := 6) rfl ?_
  obtain ⟨x3, m2, em2, h⟩ := xi_bI_some h
  refine xr_SI i_X0_write_6 xcse_X0_24 rfl (As := [.int (m.1 v0 1)]) rfl (rest := [.int (Int32.ofInt 0), .ref v1]) rfl ((cc_X0_write_24 S _ _).trans em2) (q := 9) rfl ?_
  obtain ⟨c4, h⟩ := xi_if_some h
  refine xr_iastore i_X0_write_9 c4 (q := 10) rfl ?_
  refine xr_aload_n i_X0_write_10 rfl (q := 11) rfl ?_
  refine xr_iconst i_X0_write_11 (q := 12) rfl ?_
  refine xr_aload_n i_X0_write_12 rfl (q := 13) rfl ?_
  obtain ⟨c5, h⟩ := xi_if_some h
  refine xr_getI i_X0_write_13 xfe_X0_52 c5 (q := 16) rfl ?_
  obtain ⟨x7, m6, em6, h⟩ := xi_bI_some h
  refine xr_SI i_X0_write_16 xcse_X0_28 rfl (As := [.int ((xi_wI m2 v1 (Int32.toNatClampNeg (Int32.ofInt 0)) x3).1 v0 1)]) rfl (rest := [.int (Int32.ofInt 1), .ref v1]) rfl ((cc_X0_write_28 S _ _).trans em6) (q := 19) rfl ?_
  obtain ⟨c8, h⟩ := xi_if_some h
  refine xr_iastore i_X0_write_19 c8 (q := 20) rfl ?_
  refine xr_aload_n i_X0_write_20 rfl (q := 21) rfl ?_
  refine xr_iconst i_X0_write_21 (q := 22) rfl ?_
  refine xr_aload_n i_X0_write_22 rfl (q := 23) rfl ?_
  obtain ⟨c9, h⟩ := xi_if_some h
  refine xr_getI i_X0_write_23 xfe_X0_56 c9 (q := 26) rfl ?_
  obtain ⟨x11, m10, em10, h⟩ := xi_bI_some h
  refine xr_SI i_X0_write_26 xcse_X0_24 rfl (As := [.int ((xi_wI m6 v1 (Int32.toNatClampNeg (Int32.ofInt 1)) x7).1 v0 2)]) rfl (rest := [.int (Int32.ofInt 2), .ref v1]) rfl ((cc_X0_write_24 S _ _).trans em10) (q := 29) rfl ?_
  obtain ⟨c12, h⟩ := xi_if_some h
  refine xr_iastore i_X0_write_29 c12 (q := 30) rfl ?_
  refine xr_aload_n i_X0_write_30 rfl (q := 31) rfl ?_
  refine xr_iconst i_X0_write_31 (q := 32) rfl ?_
  refine xr_aload_n i_X0_write_32 rfl (q := 33) rfl ?_
  obtain ⟨c13, h⟩ := xi_if_some h
  refine xr_getI i_X0_write_33 xfe_X0_56 c13 (q := 36) rfl ?_
  obtain ⟨x15, m14, em14, h⟩ := xi_bI_some h
  refine xr_SI i_X0_write_36 xcse_X0_28 rfl (As := [.int ((xi_wI m10 v1 (Int32.toNatClampNeg (Int32.ofInt 2)) x11).1 v0 2)]) rfl (rest := [.int (Int32.ofInt 3), .ref v1]) rfl ((cc_X0_write_28 S _ _).trans em14) (q := 39) rfl ?_
  obtain ⟨c16, h⟩ := xi_if_some h
  refine xr_iastore i_X0_write_39 c16 (q := 40) rfl ?_
  exact xr_return i_X0_write_40 rfl h
set_option maxRecDepth 100000 in
theorem po_X0_write {l : Launch} {E : xi_E} {S : xi_S} {D : va_G} {tys : List (ClassId × FieldType)} (hC : xCx E S tys) : xi_Pok l E S D vwCl tys xNs RX0 xTs cX0_write 2 1 (P_X0_write S) := ⟨xi_dc_ok, by rw [hC.2]; exact xfo_X0, xkio_X0, xklo_X0, xi_calls_ok (ins := .invokestatic) (List.forall_mem_cons.mpr ⟨(xc_X0_24 (sn_X0_first hC) (by decide)), List.forall_mem_cons.mpr ⟨(xc_X0_28 (sn_X0_second hC) (by decide)), fun _ h => absurd h List.not_mem_nil⟩⟩), xi_calls_ok (ins := .invokevirtual) (fun _ h => absurd h List.not_mem_nil)⟩
theorem sn_X0_write {l : Launch} {E : xi_E} {S : xi_S} {D : va_G} {tys : List (ClassId × FieldType)} (hC : xCx E S tys) : ∀ As m1 r m2, F_X0_write S As m1 = some (r, m2) → xi_Sound l E S D vwCl tys xNs xTs yX0_write cX0_write 2 none 1 As m1 r m2 := by
  intro As m1 r m2 h
  unfold F_X0_write at h
  split at h
  · exact xi_meth (P := P_X0_write S) (by decide) hC.1 (po_X0_write hC) (Nat.le_of_ble_eq_true rfl) rfl (xe_X0_write _ _ _ h)
  · exact xi_no h
theorem i_X4_reach_0 : xi_dc cX4_reach 0 = some (.iload_n 0, 1) := by decide +kernel
theorem i_X4_reach_1 : xi_dc cX4_reach 1 = some (.iconst 5, 1) := by decide +kernel
theorem i_X4_reach_2 : xi_dc cX4_reach 2 = some (.if_icmp .ne 9, 3) := by decide +kernel
theorem t_X4_reach_2 : ((2 : Nat) : Int) + 9 = ((11 : Nat) : Int) := by decide +kernel
theorem i_X4_reach_5 : xi_dc cX4_reach 5 = some (.iload_n 1, 1) := by decide +kernel
theorem i_X4_reach_6 : xi_dc cX4_reach 6 = some (.iconst 3, 1) := by decide +kernel
theorem i_X4_reach_7 : xi_dc cX4_reach 7 = some (.idiv, 1) := by decide +kernel
theorem i_X4_reach_8 : xi_dc cX4_reach 8 = some (.iconst 1, 1) := by decide +kernel
theorem i_X4_reach_9 : xi_dc cX4_reach 9 = some (.iadd, 1) := by decide +kernel
theorem i_X4_reach_10 : xi_dc cX4_reach 10 = some (.ireturn, 1) := by decide +kernel
theorem i_X4_reach_11 : xi_dc cX4_reach 11 = some (.iload_n 0, 1) := by decide +kernel
theorem i_X4_reach_12 : xi_dc cX4_reach 12 = some (.iconst 2, 1) := by decide +kernel
theorem i_X4_reach_13 : xi_dc cX4_reach 13 = some (.if_icmp .ne 9, 3) := by decide +kernel
theorem t_X4_reach_13 : ((13 : Nat) : Int) + 9 = ((22 : Nat) : Int) := by decide +kernel
theorem i_X4_reach_16 : xi_dc cX4_reach 16 = some (.iload_n 1, 1) := by decide +kernel
theorem i_X4_reach_17 : xi_dc cX4_reach 17 = some (.iconst 3, 1) := by decide +kernel
theorem i_X4_reach_18 : xi_dc cX4_reach 18 = some (.idiv, 1) := by decide +kernel
theorem i_X4_reach_19 : xi_dc cX4_reach 19 = some (.goto 5, 3) := by decide +kernel
theorem t_X4_reach_19 : ((19 : Nat) : Int) + 5 = ((24 : Nat) : Int) := by decide +kernel
theorem i_X4_reach_22 : xi_dc cX4_reach 22 = some (.bipush (-9), 2) := by decide +kernel
theorem i_X4_reach_24 : xi_dc cX4_reach 24 = some (.ireturn, 1) := by decide +kernel
def P_X4_reach (S : xi_S) : xi_P := (xi_dc cX4_reach, xi_tab xfl_X4, xi_tab xki_X4, xi_tab xkl_X4, xi_tab xcs_X4, xi_tab xcv_X4, xi_calls [], xi_calls [], 1)
def E_X4_reach (S : xi_S) (v0 : Int32) (v1 : Int32) (m : xi_M) : Option xi_R :=
  if v0 = (Int32.ofInt 5) then
    if (Int32.ofInt 3) = 0 then none else
    some (some (.int ((v1 / (Int32.ofInt 3)) + (Int32.ofInt 1))), m)
  else
    if v0 = (Int32.ofInt 2) then
      if (Int32.ofInt 3) = 0 then none else
      some (some (.int (v1 / (Int32.ofInt 3))), m)
    else
      some (some (.int ((Int8.ofInt (-9)).toInt32)), m)
def F_X4_reach (S : xi_S) : xi_F := fun As m => match As with
  | [.int v0, .int v1] => E_X4_reach S v0 v1 m
  | _ => none
set_option maxRecDepth 100000 in
set_option maxHeartbeats 4000000 in
theorem xe_X4_reach {S : xi_S} {res : xi_R} (v0 : Int32) (v1 : Int32) (m : xi_M) (h : E_X4_reach S v0 v1 m = some res) : xi_X S (P_X4_reach S) (0, [some (.int v0), some (.int v1)], [], m) res := by
  unfold E_X4_reach at h
  refine xr_iload_n i_X4_reach_0 rfl (q := 1) rfl ?_
  refine xr_iconst i_X4_reach_1 (q := 2) rfl ?_
  by_cases c4 : v0 = (Int32.ofInt 5)
  · replace h := (if_pos c4).symm.trans h
    refine xr_if_icmp_ne_p i_X4_reach_2 c4 (q := 11) t_X4_reach_2 (q2 := 5) rfl ?_
    refine xr_iload_n i_X4_reach_5 rfl (q := 6) rfl ?_
    refine xr_iconst i_X4_reach_6 (q := 7) rfl ?_
    obtain ⟨c3, h⟩ := xi_ifn_some h
    refine xr_idiv i_X4_reach_7 c3 (q := 8) rfl ?_
    refine xr_iconst i_X4_reach_8 (q := 9) rfl ?_
    refine xr_iadd i_X4_reach_9 (q := 10) rfl ?_
    exact xr_ireturn i_X4_reach_10 rfl h
  · replace h := (if_neg c4).symm.trans h
    refine xr_if_icmp_ne_n i_X4_reach_2 c4 (q := 11) t_X4_reach_2 (q2 := 5) rfl ?_
    refine xr_iload_n i_X4_reach_11 rfl (q := 12) rfl ?_
    refine xr_iconst i_X4_reach_12 (q := 13) rfl ?_
    by_cases c2 : v0 = (Int32.ofInt 2)
    · replace h := (if_pos c2).symm.trans h
      refine xr_if_icmp_ne_p i_X4_reach_13 c2 (q := 22) t_X4_reach_13 (q2 := 16) rfl ?_
      refine xr_iload_n i_X4_reach_16 rfl (q := 17) rfl ?_
      refine xr_iconst i_X4_reach_17 (q := 18) rfl ?_
      obtain ⟨c1, h⟩ := xi_ifn_some h
      refine xr_idiv i_X4_reach_18 c1 (q := 19) rfl ?_
      refine xr_goto i_X4_reach_19 (q := 24) t_X4_reach_19 ?_
      exact xr_ireturn i_X4_reach_24 rfl h
    · replace h := (if_neg c2).symm.trans h
      refine xr_if_icmp_ne_n i_X4_reach_13 c2 (q := 22) t_X4_reach_13 (q2 := 16) rfl ?_
      refine xr_bipush i_X4_reach_22 (q := 24) rfl ?_
      exact xr_ireturn i_X4_reach_24 rfl h
set_option maxRecDepth 100000 in
theorem po_X4_reach {l : Launch} {E : xi_E} {S : xi_S} {D : va_G} {tys : List (ClassId × FieldType)} (hC : xCx E S tys) : xi_Pok l E S D vwCl tys xNs RX4 xTs cX4_reach 2 0 (P_X4_reach S) := ⟨xi_dc_ok, by rw [hC.2]; exact xfo_X4, xkio_X4, xklo_X4, xi_calls_ok (ins := .invokestatic) (fun _ h => absurd h List.not_mem_nil), xi_calls_ok (ins := .invokevirtual) (fun _ h => absurd h List.not_mem_nil)⟩
theorem sn_X4_reach {l : Launch} {E : xi_E} {S : xi_S} {D : va_G} {tys : List (ClassId × FieldType)} (hC : xCx E S tys) : ∀ As m1 r m2, F_X4_reach S As m1 = some (r, m2) → xi_Sound l E S D vwCl tys xNs xTs yX4_reach cX4_reach 2 (some .int) 0 As m1 r m2 := by
  intro As m1 r m2 h
  unfold F_X4_reach at h
  split at h
  · exact xi_meth (P := P_X4_reach S) (by decide) hC.1 (po_X4_reach hC) (Nat.le_of_ble_eq_true rfl) rfl (xe_X4_reach _ _ _ h)
  · exact xi_no h
theorem i_X6_reached_0 : xi_dc cX6_reached 0 = some (.aload_n 0, 1) := by decide +kernel
theorem i_X6_reached_1 : xi_dc cX6_reached 1 = some (.getfield 18, 3) := by decide +kernel
theorem i_X6_reached_4 : xi_dc cX6_reached 4 = some (.iload_n 1, 1) := by decide +kernel
theorem i_X6_reached_5 : xi_dc cX6_reached 5 = some (.iaload, 1) := by decide +kernel
theorem i_X6_reached_6 : xi_dc cX6_reached 6 = some (.aload_n 0, 1) := by decide +kernel
theorem i_X6_reached_7 : xi_dc cX6_reached 7 = some (.getfield 27, 3) := by decide +kernel
theorem i_X6_reached_10 : xi_dc cX6_reached 10 = some (.iload_n 1, 1) := by decide +kernel
theorem i_X6_reached_11 : xi_dc cX6_reached 11 = some (.iaload, 1) := by decide +kernel
theorem i_X6_reached_12 : xi_dc cX6_reached 12 = some (.invokestatic 82, 3) := by decide +kernel
theorem i_X6_reached_15 : xi_dc cX6_reached 15 = some (.istore_n 2, 1) := by decide +kernel
theorem i_X6_reached_16 : xi_dc cX6_reached 16 = some (.iload_n 2, 1) := by decide +kernel
theorem i_X6_reached_17 : xi_dc cX6_reached 17 = some (.bipush (-9), 2) := by decide +kernel
theorem i_X6_reached_19 : xi_dc cX6_reached 19 = some (.if_icmp .ne 5, 3) := by decide +kernel
theorem t_X6_reached_19 : ((19 : Nat) : Int) + 5 = ((24 : Nat) : Int) := by decide +kernel
theorem i_X6_reached_22 : xi_dc cX6_reached 22 = some (.iconst 0, 1) := by decide +kernel
theorem i_X6_reached_23 : xi_dc cX6_reached 23 = some (.ireturn, 1) := by decide +kernel
theorem i_X6_reached_24 : xi_dc cX6_reached 24 = some (.iconst 0, 1) := by decide +kernel
theorem i_X6_reached_25 : xi_dc cX6_reached 25 = some (.aload_n 0, 1) := by decide +kernel
theorem i_X6_reached_26 : xi_dc cX6_reached 26 = some (.getfield 24, 3) := by decide +kernel
theorem i_X6_reached_29 : xi_dc cX6_reached 29 = some (.iload_n 1, 1) := by decide +kernel
theorem i_X6_reached_30 : xi_dc cX6_reached 30 = some (.iaload, 1) := by decide +kernel
theorem i_X6_reached_31 : xi_dc cX6_reached 31 = some (.iload_n 2, 1) := by decide +kernel
theorem i_X6_reached_32 : xi_dc cX6_reached 32 = some (.isub, 1) := by decide +kernel
theorem i_X6_reached_33 : xi_dc cX6_reached 33 = some (.invokestatic 85, 3) := by decide +kernel
theorem i_X6_reached_36 : xi_dc cX6_reached 36 = some (.bipush 20, 2) := by decide +kernel
theorem i_X6_reached_38 : xi_dc cX6_reached 38 = some (.aload_n 0, 1) := by decide +kernel
theorem i_X6_reached_39 : xi_dc cX6_reached 39 = some (.getfield 24, 3) := by decide +kernel
theorem i_X6_reached_42 : xi_dc cX6_reached 42 = some (.iload_n 1, 1) := by decide +kernel
theorem i_X6_reached_43 : xi_dc cX6_reached 43 = some (.iaload, 1) := by decide +kernel
theorem i_X6_reached_44 : xi_dc cX6_reached 44 = some (.iload_n 2, 1) := by decide +kernel
theorem i_X6_reached_45 : xi_dc cX6_reached 45 = some (.iadd, 1) := by decide +kernel
theorem i_X6_reached_46 : xi_dc cX6_reached 46 = some (.invokestatic 76, 3) := by decide +kernel
theorem i_X6_reached_49 : xi_dc cX6_reached 49 = some (.invokestatic 88, 3) := by decide +kernel
theorem i_X6_reached_52 : xi_dc cX6_reached 52 = some (.ireturn, 1) := by decide +kernel
def P_X6_reached (S : xi_S) : xi_P := (xi_dc cX6_reached, xi_tab xfl_X6, xi_tab xki_X6, xi_tab xkl_X6, xi_tab xcs_X6, xi_tab xcv_X6, xi_calls [(76, xi_wS 2 (F_J9_min_7cf53 S)), (82, xi_wS 2 (F_X4_reach S)), (85, xi_wS 2 (F_J9_max_7cf53 S)), (88, xi_wS 2 (F_X8_span S))], xi_calls [], 1)
theorem cc_X6_reached_76 (S : xi_S) (a0 : Int32) (a1 : Int32) (m : xi_M) : (P_X6_reached S).2.2.2.2.2.2.1 76 [.int a0, .int a1] m = (E_J9_min_7cf53 S a0 a1 m) := by
  show xi_calls [(76, xi_wS 2 (F_J9_min_7cf53 S)), (82, xi_wS 2 (F_X4_reach S)), (85, xi_wS 2 (F_J9_max_7cf53 S)), (88, xi_wS 2 (F_X8_span S))] 76 [.int a0, .int a1] m = _
  refine Eq.trans (b := xi_wS 2 (F_J9_min_7cf53 S) [.int a0, .int a1] m) (xi_calls_hit rfl) ?_
  exact xi_wS_eq rfl
theorem cc_X6_reached_82 (S : xi_S) (a0 : Int32) (a1 : Int32) (m : xi_M) : (P_X6_reached S).2.2.2.2.2.2.1 82 [.int a0, .int a1] m = (E_X4_reach S a0 a1 m) := by
  show xi_calls [(76, xi_wS 2 (F_J9_min_7cf53 S)), (82, xi_wS 2 (F_X4_reach S)), (85, xi_wS 2 (F_J9_max_7cf53 S)), (88, xi_wS 2 (F_X8_span S))] 82 [.int a0, .int a1] m = _
  refine Eq.trans (b := xi_calls [(82, xi_wS 2 (F_X4_reach S)), (85, xi_wS 2 (F_J9_max_7cf53 S)), (88, xi_wS 2 (F_X8_span S))] 82 [.int a0, .int a1] m) (xi_calls_miss rfl) ?_
  refine Eq.trans (b := xi_wS 2 (F_X4_reach S) [.int a0, .int a1] m) (xi_calls_hit rfl) ?_
  exact xi_wS_eq rfl
theorem cc_X6_reached_85 (S : xi_S) (a0 : Int32) (a1 : Int32) (m : xi_M) : (P_X6_reached S).2.2.2.2.2.2.1 85 [.int a0, .int a1] m = (E_J9_max_7cf53 S a0 a1 m) := by
  show xi_calls [(76, xi_wS 2 (F_J9_min_7cf53 S)), (82, xi_wS 2 (F_X4_reach S)), (85, xi_wS 2 (F_J9_max_7cf53 S)), (88, xi_wS 2 (F_X8_span S))] 85 [.int a0, .int a1] m = _
  refine Eq.trans (b := xi_calls [(82, xi_wS 2 (F_X4_reach S)), (85, xi_wS 2 (F_J9_max_7cf53 S)), (88, xi_wS 2 (F_X8_span S))] 85 [.int a0, .int a1] m) (xi_calls_miss rfl) ?_
  refine Eq.trans (b := xi_calls [(85, xi_wS 2 (F_J9_max_7cf53 S)), (88, xi_wS 2 (F_X8_span S))] 85 [.int a0, .int a1] m) (xi_calls_miss rfl) ?_
  refine Eq.trans (b := xi_wS 2 (F_J9_max_7cf53 S) [.int a0, .int a1] m) (xi_calls_hit rfl) ?_
  exact xi_wS_eq rfl
theorem cc_X6_reached_88 (S : xi_S) (a0 : Int32) (a1 : Int32) (m : xi_M) : (P_X6_reached S).2.2.2.2.2.2.1 88 [.int a0, .int a1] m = (E_X8_span S a0 a1 m) := by
  show xi_calls [(76, xi_wS 2 (F_J9_min_7cf53 S)), (82, xi_wS 2 (F_X4_reach S)), (85, xi_wS 2 (F_J9_max_7cf53 S)), (88, xi_wS 2 (F_X8_span S))] 88 [.int a0, .int a1] m = _
  refine Eq.trans (b := xi_calls [(82, xi_wS 2 (F_X4_reach S)), (85, xi_wS 2 (F_J9_max_7cf53 S)), (88, xi_wS 2 (F_X8_span S))] 88 [.int a0, .int a1] m) (xi_calls_miss rfl) ?_
  refine Eq.trans (b := xi_calls [(85, xi_wS 2 (F_J9_max_7cf53 S)), (88, xi_wS 2 (F_X8_span S))] 88 [.int a0, .int a1] m) (xi_calls_miss rfl) ?_
  refine Eq.trans (b := xi_calls [(88, xi_wS 2 (F_X8_span S))] 88 [.int a0, .int a1] m) (xi_calls_miss rfl) ?_
  refine Eq.trans (b := xi_wS 2 (F_X8_span S) [.int a0, .int a1] m) (xi_calls_hit rfl) ?_
  exact xi_wS_eq rfl
def E_X6_reached (S : xi_S) (v0 : Nat) (v1 : Int32) (m : xi_M) : Option xi_R :=
  if S.1 v0 = 8 then (S.2.2 v0 7).bind fun b2 =>
    if S.1 b2 = 0 ∧ ¬ (v1 < 0 ∨ S.2.1 b2 ≤ Int32.toNatClampNeg v1) then
      if S.1 v0 = 8 then (S.2.2 v0 10).bind fun b5 =>
        if S.1 b5 = 0 ∧ ¬ (v1 < 0 ∨ S.2.1 b5 ≤ Int32.toNatClampNeg v1) then
          xi_bI (E_X4_reach S (m.1 b2 (Int32.toNatClampNeg v1)) (m.1 b5 (Int32.toNatClampNeg v1)) m) fun x8 m7 =>
          if x8 = ((Int8.ofInt (-9)).toInt32) then
            some (some (.int (Int32.ofInt 0)), m7)
          else
            if S.1 v0 = 8 then (S.2.2 v0 9).bind fun b10 =>
              if S.1 b10 = 0 ∧ ¬ (v1 < 0 ∨ S.2.1 b10 ≤ Int32.toNatClampNeg v1) then
                xi_bI (E_J9_max_7cf53 S (Int32.ofInt 0) ((m7.1 b10 (Int32.toNatClampNeg v1)) - x8) m7) fun x13 m12 =>
                if S.1 v0 = 8 then (S.2.2 v0 9).bind fun b15 =>
                  if S.1 b15 = 0 ∧ ¬ (v1 < 0 ∨ S.2.1 b15 ≤ Int32.toNatClampNeg v1) then
                    xi_bI (E_J9_min_7cf53 S ((Int8.ofInt 20).toInt32) ((m12.1 b15 (Int32.toNatClampNeg v1)) + x8) m12) fun x18 m17 =>
                    xi_bI (E_X8_span S x13 x18 m17) fun x20 m19 =>
                    some (some (.int x20), m19)
                  else none
                else none
              else none
            else none
        else none
      else none
    else none
  else none
def F_X6_reached (S : xi_S) : xi_F := fun As m => match As with
  | [.ref v0, .int v1] => E_X6_reached S v0 v1 m
  | _ => none
set_option maxRecDepth 100000 in
set_option maxHeartbeats 4000000 in
theorem xe_X6_reached {S : xi_S} {res : xi_R} (v0 : Nat) (v1 : Int32) (m : xi_M) (h : E_X6_reached S v0 v1 m = some res) : xi_X S (P_X6_reached S) (0, [some (.ref v0), some (.int v1), none], [], m) res := by
  unfold E_X6_reached at h
  refine xr_aload_n i_X6_reached_0 rfl (q := 1) rfl ?_
  obtain ⟨c1, h⟩ := xi_if_some h
  obtain ⟨b2, eb2, h⟩ := xi_bind_some h
  refine xr_getR i_X6_reached_1 xfe_X6_18 c1 eb2 (q := 4) rfl ?_
  refine xr_iload_n i_X6_reached_4 rfl (q := 5) rfl ?_
  obtain ⟨c3, h⟩ := xi_if_some h
  refine xr_iaload i_X6_reached_5 c3 (q := 6) rfl ?_
  refine xr_aload_n i_X6_reached_6 rfl (q := 7) rfl ?_
  obtain ⟨c4, h⟩ := xi_if_some h
  obtain ⟨b5, eb5, h⟩ := xi_bind_some h
  refine xr_getR i_X6_reached_7 xfe_X6_27 c4 eb5 (q := 10) rfl ?_
  refine xr_iload_n i_X6_reached_10 rfl (q := 11) rfl ?_
  obtain ⟨c6, h⟩ := xi_if_some h
  refine xr_iaload i_X6_reached_11 c6 (q := 12) rfl ?_
  obtain ⟨x8, m7, em7, h⟩ := xi_bI_some h
  refine xr_SI i_X6_reached_12 xcse_X6_82 rfl (As := [.int (m.1 b2 (Int32.toNatClampNeg v1)), .int (m.1 b5 (Int32.toNatClampNeg v1))]) rfl (rest := []) rfl ((cc_X6_reached_82 S _ _ _).trans em7) (q := 15) rfl ?_
  refine xr_istore_n i_X6_reached_15 rfl (L2 := [some (.ref v0), some (.int v1), some (.int x8)]) rfl (q := 16) rfl ?_
  refine xr_iload_n i_X6_reached_16 rfl (q := 17) rfl ?_
  refine xr_bipush i_X6_reached_17 (q := 19) rfl ?_
  by_cases c21 : x8 = ((Int8.ofInt (-9)).toInt32)
  · replace h := (if_pos c21).symm.trans h
    refine xr_if_icmp_ne_p i_X6_reached_19 c21 (q := 24) t_X6_reached_19 (q2 := 22) rfl ?_
    refine xr_iconst i_X6_reached_22 (q := 23) rfl ?_
    exact xr_ireturn i_X6_reached_23 rfl h
  · replace h := (if_neg c21).symm.trans h
    refine xr_if_icmp_ne_n i_X6_reached_19 c21 (q := 24) t_X6_reached_19 (q2 := 22) rfl ?_
    refine xr_iconst i_X6_reached_24 (q := 25) rfl ?_
    refine xr_aload_n i_X6_reached_25 rfl (q := 26) rfl ?_
    obtain ⟨c9, h⟩ := xi_if_some h
    obtain ⟨b10, eb10, h⟩ := xi_bind_some h
    refine xr_getR i_X6_reached_26 xfe_X6_24 c9 eb10 (q := 29) rfl ?_
    refine xr_iload_n i_X6_reached_29 rfl (q := 30) rfl ?_
    obtain ⟨c11, h⟩ := xi_if_some h
    refine xr_iaload i_X6_reached_30 c11 (q := 31) rfl ?_
    refine xr_iload_n i_X6_reached_31 rfl (q := 32) rfl ?_
    refine xr_isub i_X6_reached_32 (q := 33) rfl ?_
    obtain ⟨x13, m12, em12, h⟩ := xi_bI_some h
    refine xr_SI i_X6_reached_33 xcse_X6_85 rfl (As := [.int (Int32.ofInt 0), .int ((m7.1 b10 (Int32.toNatClampNeg v1)) - x8)]) rfl (rest := []) rfl ((cc_X6_reached_85 S _ _ _).trans em12) (q := 36) rfl ?_
    refine xr_bipush i_X6_reached_36 (q := 38) rfl ?_
    refine xr_aload_n i_X6_reached_38 rfl (q := 39) rfl ?_
    obtain ⟨c14, h⟩ := xi_if_some h
    obtain ⟨b15, eb15, h⟩ := xi_bind_some h
    refine xr_getR i_X6_reached_39 xfe_X6_24 c14 eb15 (q := 42) rfl ?_
    refine xr_iload_n i_X6_reached_42 rfl (q := 43) rfl ?_
    obtain ⟨c16, h⟩ := xi_if_some h
    refine xr_iaload i_X6_reached_43 c16 (q := 44) rfl ?_
    refine xr_iload_n i_X6_reached_44 rfl (q := 45) rfl ?_
    refine xr_iadd i_X6_reached_45 (q := 46) rfl ?_
    obtain ⟨x18, m17, em17, h⟩ := xi_bI_some h
    refine xr_SI i_X6_reached_46 xcse_X6_76 rfl (As := [.int ((Int8.ofInt 20).toInt32), .int ((m12.1 b15 (Int32.toNatClampNeg v1)) + x8)]) rfl (rest := [.int x13]) rfl ((cc_X6_reached_76 S _ _ _).trans em17) (q := 49) rfl ?_
    obtain ⟨x20, m19, em19, h⟩ := xi_bI_some h
    refine xr_SI i_X6_reached_49 xcse_X6_88 rfl (As := [.int x13, .int x18]) rfl (rest := []) rfl ((cc_X6_reached_88 S _ _ _).trans em19) (q := 52) rfl ?_
    exact xr_ireturn i_X6_reached_52 rfl h
set_option maxRecDepth 100000 in
theorem po_X6_reached {l : Launch} {E : xi_E} {S : xi_S} {D : va_G} {tys : List (ClassId × FieldType)} (hC : xCx E S tys) : xi_Pok l E S D vwCl tys xNs RX6 xTs cX6_reached 3 1 (P_X6_reached S) := ⟨xi_dc_ok, by rw [hC.2]; exact xfo_X6, xkio_X6, xklo_X6, xi_calls_ok (ins := .invokestatic) (List.forall_mem_cons.mpr ⟨(xm_X6_76 (by decide)), List.forall_mem_cons.mpr ⟨(xc_X6_82 (sn_X4_reach hC) (by decide)), List.forall_mem_cons.mpr ⟨(xm_X6_85 (by decide)), List.forall_mem_cons.mpr ⟨(xc_X6_88 (sn_X8_span hC) (by decide)), fun _ h => absurd h List.not_mem_nil⟩⟩⟩⟩), xi_calls_ok (ins := .invokevirtual) (fun _ h => absurd h List.not_mem_nil)⟩
theorem sn_X6_reached {l : Launch} {E : xi_E} {S : xi_S} {D : va_G} {tys : List (ClassId × FieldType)} (hC : xCx E S tys) : ∀ As m1 r m2, F_X6_reached S As m1 = some (r, m2) → xi_Sound l E S D vwCl tys xNs xTs yX6_reached cX6_reached 3 (some .int) 1 As m1 r m2 := by
  intro As m1 r m2 h
  unfold F_X6_reached at h
  split at h
  · exact xi_meth (P := P_X6_reached S) (by decide) hC.1 (po_X6_reached hC) (Nat.le_of_ble_eq_true rfl) rfl (xe_X6_reached _ _ _ h)
  · exact xi_no h
theorem i_X6_openPlaces_0 : xi_dc cX6_openPlaces 0 = some (.ldc 91, 2) := by decide +kernel
theorem i_X6_openPlaces_2 : xi_dc cX6_openPlaces 2 = some (.istore_n 2, 1) := by decide +kernel
theorem i_X6_openPlaces_3 : xi_dc cX6_openPlaces 3 = some (.iconst 0, 1) := by decide +kernel
theorem i_X6_openPlaces_4 : xi_dc cX6_openPlaces 4 = some (.istore_n 3, 1) := by decide +kernel
theorem i_X6_openPlaces_5 : xi_dc cX6_openPlaces 5 = some (.iload_n 3, 1) := by decide +kernel
theorem i_X6_openPlaces_6 : xi_dc cX6_openPlaces 6 = some (.aload_n 0, 1) := by decide +kernel
theorem i_X6_openPlaces_7 : xi_dc cX6_openPlaces 7 = some (.getfield 43, 3) := by decide +kernel
theorem i_X6_openPlaces_10 : xi_dc cX6_openPlaces 10 = some (.if_icmp .ge 29, 3) := by decide +kernel
theorem t_X6_openPlaces_10 : ((10 : Nat) : Int) + 29 = ((39 : Nat) : Int) := by decide +kernel
theorem i_X6_openPlaces_13 : xi_dc cX6_openPlaces 13 = some (.aload_n 0, 1) := by decide +kernel
theorem i_X6_openPlaces_14 : xi_dc cX6_openPlaces 14 = some (.getfield 21, 3) := by decide +kernel
theorem i_X6_openPlaces_17 : xi_dc cX6_openPlaces 17 = some (.iload_n 3, 1) := by decide +kernel
theorem i_X6_openPlaces_18 : xi_dc cX6_openPlaces 18 = some (.iaload, 1) := by decide +kernel
theorem i_X6_openPlaces_19 : xi_dc cX6_openPlaces 19 = some (.iload_n 1, 1) := by decide +kernel
theorem i_X6_openPlaces_20 : xi_dc cX6_openPlaces 20 = some (.if_icmp .ne 13, 3) := by decide +kernel
theorem t_X6_openPlaces_20 : ((20 : Nat) : Int) + 13 = ((33 : Nat) : Int) := by decide +kernel
theorem i_X6_openPlaces_23 : xi_dc cX6_openPlaces 23 = some (.iload_n 2, 1) := by decide +kernel
theorem i_X6_openPlaces_24 : xi_dc cX6_openPlaces 24 = some (.aload_n 0, 1) := by decide +kernel
theorem i_X6_openPlaces_25 : xi_dc cX6_openPlaces 25 = some (.iload_n 3, 1) := by decide +kernel
theorem i_X6_openPlaces_26 : xi_dc cX6_openPlaces 26 = some (.invokevirtual 92, 3) := by decide +kernel
theorem i_X6_openPlaces_29 : xi_dc cX6_openPlaces 29 = some (.iconst (-1), 1) := by decide +kernel
theorem i_X6_openPlaces_30 : xi_dc cX6_openPlaces 30 = some (.ixor, 1) := by decide +kernel
theorem i_X6_openPlaces_31 : xi_dc cX6_openPlaces 31 = some (.iand, 1) := by decide +kernel
theorem i_X6_openPlaces_32 : xi_dc cX6_openPlaces 32 = some (.istore_n 2, 1) := by decide +kernel
theorem i_X6_openPlaces_33 : xi_dc cX6_openPlaces 33 = some (.iinc 3 1, 3) := by decide +kernel
theorem i_X6_openPlaces_36 : xi_dc cX6_openPlaces 36 = some (.goto (-31), 3) := by decide +kernel
theorem t_X6_openPlaces_36 : ((36 : Nat) : Int) + (-31) = ((5 : Nat) : Int) := by decide +kernel
theorem i_X6_openPlaces_39 : xi_dc cX6_openPlaces 39 = some (.iload_n 2, 1) := by decide +kernel
theorem i_X6_openPlaces_40 : xi_dc cX6_openPlaces 40 = some (.ireturn, 1) := by decide +kernel
def P_X6_openPlaces (S : xi_S) : xi_P := (xi_dc cX6_openPlaces, xi_tab xfl_X6, xi_tab xki_X6, xi_tab xkl_X6, xi_tab xcs_X6, xi_tab xcv_X6, xi_calls [], xi_calls [(92, xi_wV S 8 1 (F_X6_reached S))], 1)
theorem cc_X6_openPlaces_92 (S : xi_S) (a0 : Nat) (a1 : Int32) (m : xi_M) : (P_X6_openPlaces S).2.2.2.2.2.2.2.1 92 [.ref a0, .int a1] m = (if S.1 a0 = 8 then E_X6_reached S a0 a1 m else none) := by
  show xi_calls [(92, xi_wV S 8 1 (F_X6_reached S))] 92 [.ref a0, .int a1] m = _
  refine Eq.trans (b := xi_wV S 8 1 (F_X6_reached S) [.ref a0, .int a1] m) (xi_calls_hit rfl) ?_
  exact xi_wV_eq rfl
def G_X6_openPlaces_5 (S : xi_S) : Nat → Nat → Int32 → Int32 → Int32 → xi_M → Option xi_R
  | 0, _, _, _, _, _ => none
  | n + 1, v0, v1, v2, v3, m =>
    if S.1 v0 = 8 then
      if (m.1 v0 1) ≤ v3 then
        some (some (.int v2), m)
      else
        if S.1 v0 = 8 then (S.2.2 v0 8).bind fun b3 =>
          if S.1 b3 = 0 ∧ ¬ (v3 < 0 ∨ S.2.1 b3 ≤ Int32.toNatClampNeg v3) then
            if (m.1 b3 (Int32.toNatClampNeg v3)) = v1 then
              xi_bI (if S.1 v0 = 8 then E_X6_reached S v0 v3 m else none) fun x6 m5 =>
              G_X6_openPlaces_5 S n v0 v1 (v2 &&& (x6 ^^^ (Int32.ofInt (-1)))) (v3 + Int32.ofInt 1) m5
            else
              G_X6_openPlaces_5 S n v0 v1 v2 (v3 + Int32.ofInt 1) m
          else none
        else none
    else none
set_option maxRecDepth 100000 in
set_option maxHeartbeats 4000000 in
theorem xs_X6_openPlaces_5 {S : xi_S} {res : xi_R} : ∀ (n : Nat) (v0 : Nat) (v1 : Int32) (v2 : Int32) (v3 : Int32) (m : xi_M), G_X6_openPlaces_5 S n v0 v1 v2 v3 m = some res → xi_X S (P_X6_openPlaces S) (5, [some (.ref v0), some (.int v1), some (.int v2), some (.int v3)], [], m) res := by
  intro n
  induction n with
  | zero => intro v0 v1 v2 v3 m h; exact xi_no h
  | succ n ih =>
    intro v0 v1 v2 v3 m h
    unfold G_X6_openPlaces_5 at h
    refine xr_iload_n i_X6_openPlaces_5 rfl (q := 6) rfl ?_
    refine xr_aload_n i_X6_openPlaces_6 rfl (q := 7) rfl ?_
    obtain ⟨c1, h⟩ := xi_if_some h
    refine xr_getI i_X6_openPlaces_7 xfe_X6_43 c1 (q := 10) rfl ?_
    by_cases c8 : (m.1 v0 1) ≤ v3
    · replace h := (if_pos c8).symm.trans h
      refine xr_if_icmp_ge_p i_X6_openPlaces_10 c8 (q := 39) t_X6_openPlaces_10 (q2 := 13) rfl ?_
      refine xr_iload_n i_X6_openPlaces_39 rfl (q := 40) rfl ?_
      exact xr_ireturn i_X6_openPlaces_40 rfl h
    · replace h := (if_neg c8).symm.trans h
      refine xr_if_icmp_ge_n i_X6_openPlaces_10 c8 (q := 39) t_X6_openPlaces_10 (q2 := 13) rfl ?_
      refine xr_aload_n i_X6_openPlaces_13 rfl (q := 14) rfl ?_
      obtain ⟨c2, h⟩ := xi_if_some h
      obtain ⟨b3, eb3, h⟩ := xi_bind_some h
      refine xr_getR i_X6_openPlaces_14 xfe_X6_21 c2 eb3 (q := 17) rfl ?_
      refine xr_iload_n i_X6_openPlaces_17 rfl (q := 18) rfl ?_
      obtain ⟨c4, h⟩ := xi_if_some h
      refine xr_iaload i_X6_openPlaces_18 c4 (q := 19) rfl ?_
      refine xr_iload_n i_X6_openPlaces_19 rfl (q := 20) rfl ?_
      by_cases c7 : (m.1 b3 (Int32.toNatClampNeg v3)) = v1
      · replace h := (if_pos c7).symm.trans h
        refine xr_if_icmp_ne_p i_X6_openPlaces_20 c7 (q := 33) t_X6_openPlaces_20 (q2 := 23) rfl ?_
        refine xr_iload_n i_X6_openPlaces_23 rfl (q := 24) rfl ?_
        refine xr_aload_n i_X6_openPlaces_24 rfl (q := 25) rfl ?_
        refine xr_iload_n i_X6_openPlaces_25 rfl (q := 26) rfl ?_
        obtain ⟨x6, m5, em5, h⟩ := xi_bI_some h
        refine xr_VI i_X6_openPlaces_26 xcve_X6_92 rfl (As := [.ref v0, .int v3]) rfl (rest := [.int v2]) rfl ((cc_X6_openPlaces_92 S _ _ _).trans em5) (q := 29) rfl ?_
        refine xr_iconst i_X6_openPlaces_29 (q := 30) rfl ?_
        refine xr_ixor i_X6_openPlaces_30 (q := 31) rfl ?_
        refine xr_iand i_X6_openPlaces_31 (q := 32) rfl ?_
        refine xr_istore_n i_X6_openPlaces_32 rfl (L2 := [some (.ref v0), some (.int v1), some (.int (v2 &&& (x6 ^^^ (Int32.ofInt (-1))))), some (.int v3)]) rfl (q := 33) rfl ?_
        refine xr_iinc i_X6_openPlaces_33 rfl rfl (L2 := [some (.ref v0), some (.int v1), some (.int (v2 &&& (x6 ^^^ (Int32.ofInt (-1))))), some (.int (v3 + Int32.ofInt 1))]) rfl (q := 36) rfl ?_
        refine xr_goto i_X6_openPlaces_36 (q := 5) t_X6_openPlaces_36 ?_
        exact xi_X_le (xi_le_s (xi_le_s (xi_le_s (xi_le_s xi_le_z)))) (ih _ _ _ _ _ h)
      · replace h := (if_neg c7).symm.trans h
        refine xr_if_icmp_ne_n i_X6_openPlaces_20 c7 (q := 33) t_X6_openPlaces_20 (q2 := 23) rfl ?_
        refine xr_iinc i_X6_openPlaces_33 rfl rfl (L2 := [some (.ref v0), some (.int v1), some (.int v2), some (.int (v3 + Int32.ofInt 1))]) rfl (q := 36) rfl ?_
        refine xr_goto i_X6_openPlaces_36 (q := 5) t_X6_openPlaces_36 ?_
        exact xi_X_le (xi_le_s (xi_le_s (xi_le_s (xi_le_s xi_le_z)))) (ih _ _ _ _ _ h)
def E_X6_openPlaces (S : xi_S) (v0 : Nat) (v1 : Int32) (m : xi_M) : Option xi_R :=
  G_X6_openPlaces_5 S 10000 v0 v1 (2097151 : Int32) (Int32.ofInt 0) m
def F_X6_openPlaces (S : xi_S) : xi_F := fun As m => match As with
  | [.ref v0, .int v1] => E_X6_openPlaces S v0 v1 m
  | _ => none
set_option maxRecDepth 100000 in
set_option maxHeartbeats 4000000 in
theorem xe_X6_openPlaces {S : xi_S} {res : xi_R} (v0 : Nat) (v1 : Int32) (m : xi_M) (h : E_X6_openPlaces S v0 v1 m = some res) : xi_X S (P_X6_openPlaces S) (0, [some (.ref v0), some (.int v1), none, none], [], m) res := by
  unfold E_X6_openPlaces at h
  refine xr_ldc i_X6_openPlaces_0 xkie_X6_91 (q := 2) rfl ?_
  refine xr_istore_n i_X6_openPlaces_2 rfl (L2 := [some (.ref v0), some (.int v1), some (.int (2097151 : Int32)), none]) rfl (q := 3) rfl ?_
  refine xr_iconst i_X6_openPlaces_3 (q := 4) rfl ?_
  refine xr_istore_n i_X6_openPlaces_4 rfl (L2 := [some (.ref v0), some (.int v1), some (.int (2097151 : Int32)), some (.int (Int32.ofInt 0))]) rfl (q := 5) rfl ?_
  exact xi_X_le (xi_le_s (xi_le_s (xi_le_s (xi_le_s xi_le_z)))) (xs_X6_openPlaces_5 10000 _ _ _ _ _ h)
set_option maxRecDepth 100000 in
theorem po_X6_openPlaces {l : Launch} {E : xi_E} {S : xi_S} {D : va_G} {tys : List (ClassId × FieldType)} (hC : xCx E S tys) : xi_Pok l E S D vwCl tys xNs RX6 xTs cX6_openPlaces 4 2 (P_X6_openPlaces S) := ⟨xi_dc_ok, by rw [hC.2]; exact xfo_X6, xkio_X6, xklo_X6, xi_calls_ok (ins := .invokestatic) (fun _ h => absurd h List.not_mem_nil), xi_calls_ok (ins := .invokevirtual) (List.forall_mem_cons.mpr ⟨(xc_X6_92 hC.1 (sn_X6_reached hC) (by decide)), fun _ h => absurd h List.not_mem_nil⟩)⟩
theorem sn_X6_openPlaces {l : Launch} {E : xi_E} {S : xi_S} {D : va_G} {tys : List (ClassId × FieldType)} (hC : xCx E S tys) : ∀ As m1 r m2, F_X6_openPlaces S As m1 = some (r, m2) → xi_Sound l E S D vwCl tys xNs xTs yX6_openPlaces cX6_openPlaces 4 (some .int) 2 As m1 r m2 := by
  intro As m1 r m2 h
  unfold F_X6_openPlaces at h
  split at h
  · exact xi_meth (P := P_X6_openPlaces S) (by decide) hC.1 (po_X6_openPlaces hC) (Nat.le_of_ble_eq_true rfl) rfl (xe_X6_openPlaces _ _ _ h)
  · exact xi_no h
theorem i_X4_isOf_0 : xi_dc cX4_isOf 0 = some (.iload_n 0, 1) := by decide +kernel
theorem i_X4_isOf_1 : xi_dc cX4_isOf 1 = some (.iload_n 1, 1) := by decide +kernel
theorem i_X4_isOf_2 : xi_dc cX4_isOf 2 = some (.if_icmp .eq 27, 3) := by decide +kernel
theorem t_X4_isOf_2 : ((2 : Nat) : Int) + 27 = ((29 : Nat) : Int) := by decide +kernel
theorem i_X4_isOf_5 : xi_dc cX4_isOf 5 = some (.iload_n 1, 1) := by decide +kernel
theorem i_X4_isOf_6 : xi_dc cX4_isOf 6 = some (.ifCond .eq 23, 3) := by decide +kernel
theorem t_X4_isOf_6 : ((6 : Nat) : Int) + 23 = ((29 : Nat) : Int) := by decide +kernel
theorem i_X4_isOf_9 : xi_dc cX4_isOf 9 = some (.iload_n 0, 1) := by decide +kernel
theorem i_X4_isOf_10 : xi_dc cX4_isOf 10 = some (.iconst 4, 1) := by decide +kernel
theorem i_X4_isOf_11 : xi_dc cX4_isOf 11 = some (.if_icmp .ne 8, 3) := by decide +kernel
theorem t_X4_isOf_11 : ((11 : Nat) : Int) + 8 = ((19 : Nat) : Int) := by decide +kernel
theorem i_X4_isOf_14 : xi_dc cX4_isOf 14 = some (.iload_n 1, 1) := by decide +kernel
theorem i_X4_isOf_15 : xi_dc cX4_isOf 15 = some (.iconst 1, 1) := by decide +kernel
theorem i_X4_isOf_16 : xi_dc cX4_isOf 16 = some (.if_icmp .eq 13, 3) := by decide +kernel
theorem t_X4_isOf_16 : ((16 : Nat) : Int) + 13 = ((29 : Nat) : Int) := by decide +kernel
theorem i_X4_isOf_19 : xi_dc cX4_isOf 19 = some (.iload_n 0, 1) := by decide +kernel
theorem i_X4_isOf_20 : xi_dc cX4_isOf 20 = some (.iconst 5, 1) := by decide +kernel
theorem i_X4_isOf_21 : xi_dc cX4_isOf 21 = some (.if_icmp .ne 12, 3) := by decide +kernel
theorem t_X4_isOf_21 : ((21 : Nat) : Int) + 12 = ((33 : Nat) : Int) := by decide +kernel
theorem i_X4_isOf_24 : xi_dc cX4_isOf 24 = some (.iload_n 1, 1) := by decide +kernel
theorem i_X4_isOf_25 : xi_dc cX4_isOf 25 = some (.iconst 2, 1) := by decide +kernel
theorem i_X4_isOf_26 : xi_dc cX4_isOf 26 = some (.if_icmp .ne 7, 3) := by decide +kernel
theorem t_X4_isOf_26 : ((26 : Nat) : Int) + 7 = ((33 : Nat) : Int) := by decide +kernel
theorem i_X4_isOf_29 : xi_dc cX4_isOf 29 = some (.iconst 1, 1) := by decide +kernel
theorem i_X4_isOf_30 : xi_dc cX4_isOf 30 = some (.goto 4, 3) := by decide +kernel
theorem t_X4_isOf_30 : ((30 : Nat) : Int) + 4 = ((34 : Nat) : Int) := by decide +kernel
theorem i_X4_isOf_33 : xi_dc cX4_isOf 33 = some (.iconst 0, 1) := by decide +kernel
theorem i_X4_isOf_34 : xi_dc cX4_isOf 34 = some (.ireturn, 1) := by decide +kernel
def P_X4_isOf (S : xi_S) : xi_P := (xi_dc cX4_isOf, xi_tab xfl_X4, xi_tab xki_X4, xi_tab xkl_X4, xi_tab xcs_X4, xi_tab xcv_X4, xi_calls [], xi_calls [], 2)
def E_X4_isOf (S : xi_S) (v0 : Int32) (v1 : Int32) (m : xi_M) : Option xi_R :=
  if v0 = v1 then
    if (Int32.ofInt 1) = 0 ∨ (Int32.ofInt 1) = 1 then some (some (.int (Int32.ofInt 1)), m) else none
  else
    if v1 = 0 then
      if (Int32.ofInt 1) = 0 ∨ (Int32.ofInt 1) = 1 then some (some (.int (Int32.ofInt 1)), m) else none
    else
      if v0 = (Int32.ofInt 4) then
        if v1 = (Int32.ofInt 1) then
          if (Int32.ofInt 1) = 0 ∨ (Int32.ofInt 1) = 1 then some (some (.int (Int32.ofInt 1)), m) else none
        else
          if v0 = (Int32.ofInt 5) then
            if v1 = (Int32.ofInt 2) then
              if (Int32.ofInt 1) = 0 ∨ (Int32.ofInt 1) = 1 then some (some (.int (Int32.ofInt 1)), m) else none
            else
              if (Int32.ofInt 0) = 0 ∨ (Int32.ofInt 0) = 1 then some (some (.int (Int32.ofInt 0)), m) else none
          else
            if (Int32.ofInt 0) = 0 ∨ (Int32.ofInt 0) = 1 then some (some (.int (Int32.ofInt 0)), m) else none
      else
        if v0 = (Int32.ofInt 5) then
          if v1 = (Int32.ofInt 2) then
            if (Int32.ofInt 1) = 0 ∨ (Int32.ofInt 1) = 1 then some (some (.int (Int32.ofInt 1)), m) else none
          else
            if (Int32.ofInt 0) = 0 ∨ (Int32.ofInt 0) = 1 then some (some (.int (Int32.ofInt 0)), m) else none
        else
          if (Int32.ofInt 0) = 0 ∨ (Int32.ofInt 0) = 1 then some (some (.int (Int32.ofInt 0)), m) else none
def F_X4_isOf (S : xi_S) : xi_F := fun As m => match As with
  | [.int v0, .int v1] => E_X4_isOf S v0 v1 m
  | _ => none
set_option maxRecDepth 100000 in
set_option maxHeartbeats 4000000 in
theorem xe_X4_isOf {S : xi_S} {res : xi_R} (v0 : Int32) (v1 : Int32) (m : xi_M) (h : E_X4_isOf S v0 v1 m = some res) : xi_X S (P_X4_isOf S) (0, [some (.int v0), some (.int v1)], [], m) res := by
  unfold E_X4_isOf at h
  refine xr_iload_n i_X4_isOf_0 rfl (q := 1) rfl ?_
  refine xr_iload_n i_X4_isOf_1 rfl (q := 2) rfl ?_
  by_cases c8 : v0 = v1
  · replace h := (if_pos c8).symm.trans h
    refine xr_if_icmp_eq_p i_X4_isOf_2 c8 (q := 29) t_X4_isOf_2 (q2 := 5) rfl ?_
    refine xr_iconst i_X4_isOf_29 (q := 30) rfl ?_
    refine xr_goto i_X4_isOf_30 (q := 34) t_X4_isOf_30 ?_
    exact xr_zreturn i_X4_isOf_34 rfl h
  · replace h := (if_neg c8).symm.trans h
    refine xr_if_icmp_eq_n i_X4_isOf_2 c8 (q := 29) t_X4_isOf_2 (q2 := 5) rfl ?_
    refine xr_iload_n i_X4_isOf_5 rfl (q := 6) rfl ?_
    by_cases c7 : v1 = 0
    · replace h := (if_pos c7).symm.trans h
      refine xr_ifCond_eq_p i_X4_isOf_6 c7 (q := 29) t_X4_isOf_6 (q2 := 9) rfl ?_
      refine xr_iconst i_X4_isOf_29 (q := 30) rfl ?_
      refine xr_goto i_X4_isOf_30 (q := 34) t_X4_isOf_30 ?_
      exact xr_zreturn i_X4_isOf_34 rfl h
    · replace h := (if_neg c7).symm.trans h
      refine xr_ifCond_eq_n i_X4_isOf_6 c7 (q := 29) t_X4_isOf_6 (q2 := 9) rfl ?_
      refine xr_iload_n i_X4_isOf_9 rfl (q := 10) rfl ?_
      refine xr_iconst i_X4_isOf_10 (q := 11) rfl ?_
      by_cases c6 : v0 = (Int32.ofInt 4)
      · replace h := (if_pos c6).symm.trans h
        refine xr_if_icmp_ne_p i_X4_isOf_11 c6 (q := 19) t_X4_isOf_11 (q2 := 14) rfl ?_
        refine xr_iload_n i_X4_isOf_14 rfl (q := 15) rfl ?_
        refine xr_iconst i_X4_isOf_15 (q := 16) rfl ?_
        by_cases c5 : v1 = (Int32.ofInt 1)
        · replace h := (if_pos c5).symm.trans h
          refine xr_if_icmp_eq_p i_X4_isOf_16 c5 (q := 29) t_X4_isOf_16 (q2 := 19) rfl ?_
          refine xr_iconst i_X4_isOf_29 (q := 30) rfl ?_
          refine xr_goto i_X4_isOf_30 (q := 34) t_X4_isOf_30 ?_
          exact xr_zreturn i_X4_isOf_34 rfl h
        · replace h := (if_neg c5).symm.trans h
          refine xr_if_icmp_eq_n i_X4_isOf_16 c5 (q := 29) t_X4_isOf_16 (q2 := 19) rfl ?_
          refine xr_iload_n i_X4_isOf_19 rfl (q := 20) rfl ?_
          refine xr_iconst i_X4_isOf_20 (q := 21) rfl ?_
          by_cases c4 : v0 = (Int32.ofInt 5)
          · replace h := (if_pos c4).symm.trans h
            refine xr_if_icmp_ne_p i_X4_isOf_21 c4 (q := 33) t_X4_isOf_21 (q2 := 24) rfl ?_
            refine xr_iload_n i_X4_isOf_24 rfl (q := 25) rfl ?_
            refine xr_iconst i_X4_isOf_25 (q := 26) rfl ?_
            by_cases c3 : v1 = (Int32.ofInt 2)
            · replace h := (if_pos c3).symm.trans h
              refine xr_if_icmp_ne_p i_X4_isOf_26 c3 (q := 33) t_X4_isOf_26 (q2 := 29) rfl ?_
              refine xr_iconst i_X4_isOf_29 (q := 30) rfl ?_
              refine xr_goto i_X4_isOf_30 (q := 34) t_X4_isOf_30 ?_
              exact xr_zreturn i_X4_isOf_34 rfl h
            · replace h := (if_neg c3).symm.trans h
              refine xr_if_icmp_ne_n i_X4_isOf_26 c3 (q := 33) t_X4_isOf_26 (q2 := 29) rfl ?_
              refine xr_iconst i_X4_isOf_33 (q := 34) rfl ?_
              exact xr_zreturn i_X4_isOf_34 rfl h
          · replace h := (if_neg c4).symm.trans h
            refine xr_if_icmp_ne_n i_X4_isOf_21 c4 (q := 33) t_X4_isOf_21 (q2 := 24) rfl ?_
            refine xr_iconst i_X4_isOf_33 (q := 34) rfl ?_
            exact xr_zreturn i_X4_isOf_34 rfl h
      · replace h := (if_neg c6).symm.trans h
        refine xr_if_icmp_ne_n i_X4_isOf_11 c6 (q := 19) t_X4_isOf_11 (q2 := 14) rfl ?_
        refine xr_iload_n i_X4_isOf_19 rfl (q := 20) rfl ?_
        refine xr_iconst i_X4_isOf_20 (q := 21) rfl ?_
        by_cases c2 : v0 = (Int32.ofInt 5)
        · replace h := (if_pos c2).symm.trans h
          refine xr_if_icmp_ne_p i_X4_isOf_21 c2 (q := 33) t_X4_isOf_21 (q2 := 24) rfl ?_
          refine xr_iload_n i_X4_isOf_24 rfl (q := 25) rfl ?_
          refine xr_iconst i_X4_isOf_25 (q := 26) rfl ?_
          by_cases c1 : v1 = (Int32.ofInt 2)
          · replace h := (if_pos c1).symm.trans h
            refine xr_if_icmp_ne_p i_X4_isOf_26 c1 (q := 33) t_X4_isOf_26 (q2 := 29) rfl ?_
            refine xr_iconst i_X4_isOf_29 (q := 30) rfl ?_
            refine xr_goto i_X4_isOf_30 (q := 34) t_X4_isOf_30 ?_
            exact xr_zreturn i_X4_isOf_34 rfl h
          · replace h := (if_neg c1).symm.trans h
            refine xr_if_icmp_ne_n i_X4_isOf_26 c1 (q := 33) t_X4_isOf_26 (q2 := 29) rfl ?_
            refine xr_iconst i_X4_isOf_33 (q := 34) rfl ?_
            exact xr_zreturn i_X4_isOf_34 rfl h
        · replace h := (if_neg c2).symm.trans h
          refine xr_if_icmp_ne_n i_X4_isOf_21 c2 (q := 33) t_X4_isOf_21 (q2 := 24) rfl ?_
          refine xr_iconst i_X4_isOf_33 (q := 34) rfl ?_
          exact xr_zreturn i_X4_isOf_34 rfl h
set_option maxRecDepth 100000 in
theorem po_X4_isOf {l : Launch} {E : xi_E} {S : xi_S} {D : va_G} {tys : List (ClassId × FieldType)} (hC : xCx E S tys) : xi_Pok l E S D vwCl tys xNs RX4 xTs cX4_isOf 2 0 (P_X4_isOf S) := ⟨xi_dc_ok, by rw [hC.2]; exact xfo_X4, xkio_X4, xklo_X4, xi_calls_ok (ins := .invokestatic) (fun _ h => absurd h List.not_mem_nil), xi_calls_ok (ins := .invokevirtual) (fun _ h => absurd h List.not_mem_nil)⟩
theorem sn_X4_isOf {l : Launch} {E : xi_E} {S : xi_S} {D : va_G} {tys : List (ClassId × FieldType)} (hC : xCx E S tys) : ∀ As m1 r m2, F_X4_isOf S As m1 = some (r, m2) → xi_Sound l E S D vwCl tys xNs xTs yX4_isOf cX4_isOf 2 (some .boolean) 0 As m1 r m2 := by
  intro As m1 r m2 h
  unfold F_X4_isOf at h
  split at h
  · exact xi_meth (P := P_X4_isOf S) (by decide) hC.1 (po_X4_isOf hC) (Nat.le_of_ble_eq_true rfl) rfl (xe_X4_isOf _ _ _ h)
  · exact xi_no h
theorem i_X4_landing_0 : xi_dc cX4_landing 0 = some (.iload_n 0, 1) := by decide +kernel
theorem i_X4_landing_1 : xi_dc cX4_landing 1 = some (.iconst 2, 1) := by decide +kernel
theorem i_X4_landing_2 : xi_dc cX4_landing 2 = some (.invokestatic 11, 3) := by decide +kernel
theorem i_X4_landing_5 : xi_dc cX4_landing 5 = some (.ifCond .eq 6, 3) := by decide +kernel
theorem t_X4_landing_5 : ((5 : Nat) : Int) + 6 = ((11 : Nat) : Int) := by decide +kernel
theorem i_X4_landing_8 : xi_dc cX4_landing 8 = some (.bipush (-9), 2) := by decide +kernel
theorem i_X4_landing_10 : xi_dc cX4_landing 10 = some (.ireturn, 1) := by decide +kernel
theorem i_X4_landing_11 : xi_dc cX4_landing 11 = some (.iconst 0, 1) := by decide +kernel
theorem i_X4_landing_12 : xi_dc cX4_landing 12 = some (.istore 4, 2) := by decide +kernel
theorem i_X4_landing_14 : xi_dc cX4_landing 14 = some (.iload_n 0, 1) := by decide +kernel
theorem i_X4_landing_15 : xi_dc cX4_landing 15 = some (.iconst 1, 1) := by decide +kernel
theorem i_X4_landing_16 : xi_dc cX4_landing 16 = some (.if_icmp .ne 9, 3) := by decide +kernel
theorem t_X4_landing_16 : ((16 : Nat) : Int) + 9 = ((25 : Nat) : Int) := by decide +kernel
theorem i_X4_landing_19 : xi_dc cX4_landing 19 = some (.iload_n 2, 1) := by decide +kernel
theorem i_X4_landing_20 : xi_dc cX4_landing 20 = some (.istore 4, 2) := by decide +kernel
theorem i_X4_landing_22 : xi_dc cX4_landing 22 = some (.goto 39, 3) := by decide +kernel
theorem t_X4_landing_22 : ((22 : Nat) : Int) + 39 = ((61 : Nat) : Int) := by decide +kernel
theorem i_X4_landing_25 : xi_dc cX4_landing 25 = some (.iload_n 0, 1) := by decide +kernel
theorem i_X4_landing_26 : xi_dc cX4_landing 26 = some (.iconst 4, 1) := by decide +kernel
theorem i_X4_landing_27 : xi_dc cX4_landing 27 = some (.if_icmp .ne 20, 3) := by decide +kernel
theorem t_X4_landing_27 : ((27 : Nat) : Int) + 20 = ((47 : Nat) : Int) := by decide +kernel
theorem i_X4_landing_30 : xi_dc cX4_landing 30 = some (.iload_n 3, 1) := by decide +kernel
theorem i_X4_landing_31 : xi_dc cX4_landing 31 = some (.iconst 1, 1) := by decide +kernel
theorem i_X4_landing_32 : xi_dc cX4_landing 32 = some (.if_icmp .ne 7, 3) := by decide +kernel
theorem t_X4_landing_32 : ((32 : Nat) : Int) + 7 = ((39 : Nat) : Int) := by decide +kernel
theorem i_X4_landing_35 : xi_dc cX4_landing 35 = some (.iload_n 2, 1) := by decide +kernel
theorem i_X4_landing_36 : xi_dc cX4_landing 36 = some (.goto 6, 3) := by decide +kernel
theorem t_X4_landing_36 : ((36 : Nat) : Int) + 6 = ((42 : Nat) : Int) := by decide +kernel
theorem i_X4_landing_39 : xi_dc cX4_landing 39 = some (.iload_n 2, 1) := by decide +kernel
theorem i_X4_landing_40 : xi_dc cX4_landing 40 = some (.iconst 2, 1) := by decide +kernel
theorem i_X4_landing_41 : xi_dc cX4_landing 41 = some (.idiv, 1) := by decide +kernel
theorem i_X4_landing_42 : xi_dc cX4_landing 42 = some (.istore 4, 2) := by decide +kernel
theorem i_X4_landing_44 : xi_dc cX4_landing 44 = some (.goto 17, 3) := by decide +kernel
theorem t_X4_landing_44 : ((44 : Nat) : Int) + 17 = ((61 : Nat) : Int) := by decide +kernel
theorem i_X4_landing_47 : xi_dc cX4_landing 47 = some (.iload_n 0, 1) := by decide +kernel
theorem i_X4_landing_48 : xi_dc cX4_landing 48 = some (.iconst 3, 1) := by decide +kernel
theorem i_X4_landing_49 : xi_dc cX4_landing 49 = some (.if_icmp .ne 12, 3) := by decide +kernel
theorem t_X4_landing_49 : ((49 : Nat) : Int) + 12 = ((61 : Nat) : Int) := by decide +kernel
theorem i_X4_landing_52 : xi_dc cX4_landing 52 = some (.iload_n 3, 1) := by decide +kernel
theorem i_X4_landing_53 : xi_dc cX4_landing 53 = some (.iconst 1, 1) := by decide +kernel
theorem i_X4_landing_54 : xi_dc cX4_landing 54 = some (.if_icmp .ne 7, 3) := by decide +kernel
theorem t_X4_landing_54 : ((54 : Nat) : Int) + 7 = ((61 : Nat) : Int) := by decide +kernel
theorem i_X4_landing_57 : xi_dc cX4_landing 57 = some (.bipush (-2), 2) := by decide +kernel
theorem i_X4_landing_59 : xi_dc cX4_landing 59 = some (.istore 4, 2) := by decide +kernel
theorem i_X4_landing_61 : xi_dc cX4_landing 61 = some (.iconst 0, 1) := by decide +kernel
theorem i_X4_landing_62 : xi_dc cX4_landing 62 = some (.bipush 20, 2) := by decide +kernel
theorem i_X4_landing_64 : xi_dc cX4_landing 64 = some (.iload_n 1, 1) := by decide +kernel
theorem i_X4_landing_65 : xi_dc cX4_landing 65 = some (.iload 4, 2) := by decide +kernel
theorem i_X4_landing_67 : xi_dc cX4_landing 67 = some (.iadd, 1) := by decide +kernel
theorem i_X4_landing_68 : xi_dc cX4_landing 68 = some (.invokestatic 15, 3) := by decide +kernel
theorem i_X4_landing_71 : xi_dc cX4_landing 71 = some (.invokestatic 21, 3) := by decide +kernel
theorem i_X4_landing_74 : xi_dc cX4_landing 74 = some (.ireturn, 1) := by decide +kernel
def P_X4_landing (S : xi_S) : xi_P := (xi_dc cX4_landing, xi_tab xfl_X4, xi_tab xki_X4, xi_tab xkl_X4, xi_tab xcs_X4, xi_tab xcv_X4, xi_calls [(11, xi_wS 2 (F_X4_isOf S)), (15, xi_wS 2 (F_J9_min_7cf53 S)), (21, xi_wS 2 (F_J9_max_7cf53 S))], xi_calls [], 1)
theorem cc_X4_landing_11 (S : xi_S) (a0 : Int32) (a1 : Int32) (m : xi_M) : (P_X4_landing S).2.2.2.2.2.2.1 11 [.int a0, .int a1] m = (E_X4_isOf S a0 a1 m) := by
  show xi_calls [(11, xi_wS 2 (F_X4_isOf S)), (15, xi_wS 2 (F_J9_min_7cf53 S)), (21, xi_wS 2 (F_J9_max_7cf53 S))] 11 [.int a0, .int a1] m = _
  refine Eq.trans (b := xi_wS 2 (F_X4_isOf S) [.int a0, .int a1] m) (xi_calls_hit rfl) ?_
  exact xi_wS_eq rfl
theorem cc_X4_landing_15 (S : xi_S) (a0 : Int32) (a1 : Int32) (m : xi_M) : (P_X4_landing S).2.2.2.2.2.2.1 15 [.int a0, .int a1] m = (E_J9_min_7cf53 S a0 a1 m) := by
  show xi_calls [(11, xi_wS 2 (F_X4_isOf S)), (15, xi_wS 2 (F_J9_min_7cf53 S)), (21, xi_wS 2 (F_J9_max_7cf53 S))] 15 [.int a0, .int a1] m = _
  refine Eq.trans (b := xi_calls [(15, xi_wS 2 (F_J9_min_7cf53 S)), (21, xi_wS 2 (F_J9_max_7cf53 S))] 15 [.int a0, .int a1] m) (xi_calls_miss rfl) ?_
  refine Eq.trans (b := xi_wS 2 (F_J9_min_7cf53 S) [.int a0, .int a1] m) (xi_calls_hit rfl) ?_
  exact xi_wS_eq rfl
theorem cc_X4_landing_21 (S : xi_S) (a0 : Int32) (a1 : Int32) (m : xi_M) : (P_X4_landing S).2.2.2.2.2.2.1 21 [.int a0, .int a1] m = (E_J9_max_7cf53 S a0 a1 m) := by
  show xi_calls [(11, xi_wS 2 (F_X4_isOf S)), (15, xi_wS 2 (F_J9_min_7cf53 S)), (21, xi_wS 2 (F_J9_max_7cf53 S))] 21 [.int a0, .int a1] m = _
  refine Eq.trans (b := xi_calls [(15, xi_wS 2 (F_J9_min_7cf53 S)), (21, xi_wS 2 (F_J9_max_7cf53 S))] 21 [.int a0, .int a1] m) (xi_calls_miss rfl) ?_
  refine Eq.trans (b := xi_calls [(21, xi_wS 2 (F_J9_max_7cf53 S))] 21 [.int a0, .int a1] m) (xi_calls_miss rfl) ?_
  refine Eq.trans (b := xi_wS 2 (F_J9_max_7cf53 S) [.int a0, .int a1] m) (xi_calls_hit rfl) ?_
  exact xi_wS_eq rfl
def E_X4_landing (S : xi_S) (v0 : Int32) (v1 : Int32) (v2 : Int32) (v3 : Int32) (m : xi_M) : Option xi_R :=
  xi_bI (E_X4_isOf S v0 (Int32.ofInt 2) m) fun x2 m1 =>
  if x2 = 0 then
    if v0 = (Int32.ofInt 1) then
      xi_bI (E_J9_min_7cf53 S ((Int8.ofInt 20).toInt32) (v1 + v2) m1) fun x29 m28 =>
      xi_bI (E_J9_max_7cf53 S (Int32.ofInt 0) x29 m28) fun x31 m30 =>
      some (some (.int x31), m30)
    else
      if v0 = (Int32.ofInt 4) then
        if v3 = (Int32.ofInt 1) then
          xi_bI (E_J9_min_7cf53 S ((Int8.ofInt 20).toInt32) (v1 + v2) m1) fun x23 m22 =>
          xi_bI (E_J9_max_7cf53 S (Int32.ofInt 0) x23 m22) fun x25 m24 =>
          some (some (.int x25), m24)
        else
          if (Int32.ofInt 2) = 0 then none else
          xi_bI (E_J9_min_7cf53 S ((Int8.ofInt 20).toInt32) (v1 + (v2 / (Int32.ofInt 2))) m1) fun x19 m18 =>
          xi_bI (E_J9_max_7cf53 S (Int32.ofInt 0) x19 m18) fun x21 m20 =>
          some (some (.int x21), m20)
      else
        if v0 = (Int32.ofInt 3) then
          if v3 = (Int32.ofInt 1) then
            xi_bI (E_J9_min_7cf53 S ((Int8.ofInt 20).toInt32) (v1 + ((Int8.ofInt (-2)).toInt32)) m1) fun x12 m11 =>
            xi_bI (E_J9_max_7cf53 S (Int32.ofInt 0) x12 m11) fun x14 m13 =>
            some (some (.int x14), m13)
          else
            xi_bI (E_J9_min_7cf53 S ((Int8.ofInt 20).toInt32) (v1 + (Int32.ofInt 0)) m1) fun x8 m7 =>
            xi_bI (E_J9_max_7cf53 S (Int32.ofInt 0) x8 m7) fun x10 m9 =>
            some (some (.int x10), m9)
        else
          xi_bI (E_J9_min_7cf53 S ((Int8.ofInt 20).toInt32) (v1 + (Int32.ofInt 0)) m1) fun x4 m3 =>
          xi_bI (E_J9_max_7cf53 S (Int32.ofInt 0) x4 m3) fun x6 m5 =>
          some (some (.int x6), m5)
  else
    some (some (.int ((Int8.ofInt (-9)).toInt32)), m1)
def F_X4_landing (S : xi_S) : xi_F := fun As m => match As with
  | [.int v0, .int v1, .int v2, .int v3] => E_X4_landing S v0 v1 v2 v3 m
  | _ => none
set_option maxRecDepth 100000 in
set_option maxHeartbeats 4000000 in
theorem xe_X4_landing {S : xi_S} {res : xi_R} (v0 : Int32) (v1 : Int32) (v2 : Int32) (v3 : Int32) (m : xi_M) (h : E_X4_landing S v0 v1 v2 v3 m = some res) : xi_X S (P_X4_landing S) (0, [some (.int v0), some (.int v1), some (.int v2), some (.int v3), none], [], m) res := by
  unfold E_X4_landing at h
  refine xr_iload_n i_X4_landing_0 rfl (q := 1) rfl ?_
  refine xr_iconst i_X4_landing_1 (q := 2) rfl ?_
  obtain ⟨x2, m1, em1, h⟩ := xi_bI_some h
  refine xr_SI i_X4_landing_2 xcse_X4_11 rfl (As := [.int v0, .int (Int32.ofInt 2)]) rfl (rest := []) rfl ((cc_X4_landing_11 S _ _ _).trans em1) (q := 5) rfl ?_
  by_cases c33 : x2 = 0
  · replace h := (if_pos c33).symm.trans h
    refine xr_ifCond_eq_p i_X4_landing_5 c33 (q := 11) t_X4_landing_5 (q2 := 8) rfl ?_
    refine xr_iconst i_X4_landing_11 (q := 12) rfl ?_
    refine xr_istore i_X4_landing_12 rfl (L2 := [some (.int v0), some (.int v1), some (.int v2), some (.int v3), some (.int (Int32.ofInt 0))]) rfl (q := 14) rfl ?_
    refine xr_iload_n i_X4_landing_14 rfl (q := 15) rfl ?_
    refine xr_iconst i_X4_landing_15 (q := 16) rfl ?_
    by_cases c32 : v0 = (Int32.ofInt 1)
    · replace h := (if_pos c32).symm.trans h
      refine xr_if_icmp_ne_p i_X4_landing_16 c32 (q := 25) t_X4_landing_16 (q2 := 19) rfl ?_
      refine xr_iload_n i_X4_landing_19 rfl (q := 20) rfl ?_
      refine xr_istore i_X4_landing_20 rfl (L2 := [some (.int v0), some (.int v1), some (.int v2), some (.int v3), some (.int v2)]) rfl (q := 22) rfl ?_
      refine xr_goto i_X4_landing_22 (q := 61) t_X4_landing_22 ?_
      refine xr_iconst i_X4_landing_61 (q := 62) rfl ?_
      refine xr_bipush i_X4_landing_62 (q := 64) rfl ?_
      refine xr_iload_n i_X4_landing_64 rfl (q := 65) rfl ?_
      refine xr_iload i_X4_landing_65 rfl (q := 67) rfl ?_
      refine xr_iadd i_X4_landing_67 (q := 68) rfl ?_
      obtain ⟨x29, m28, em28, h⟩ := xi_bI_some h
      refine xr_SI i_X4_landing_68 xcse_X4_15 rfl (As := [.int ((Int8.ofInt 20).toInt32), .int (v1 + v2)]) rfl (rest := [.int (Int32.ofInt 0)]) rfl ((cc_X4_landing_15 S _ _ _).trans em28) (q := 71) rfl ?_
      obtain ⟨x31, m30, em30, h⟩ := xi_bI_some h
      refine xr_SI i_X4_landing_71 xcse_X4_21 rfl (As := [.int (Int32.ofInt 0), .int x29]) rfl (rest := []) rfl ((cc_X4_landing_21 S _ _ _).trans em30) (q := 74) rfl ?_
      exact xr_ireturn i_X4_landing_74 rfl h
    · replace h := (if_neg c32).symm.trans h
      refine xr_if_icmp_ne_n i_X4_landing_16 c32 (q := 25) t_X4_landing_16 (q2 := 19) rfl ?_
      refine xr_iload_n i_X4_landing_25 rfl (q := 26) rfl ?_
      refine xr_iconst i_X4_landing_26 (q := 27) rfl ?_
      by_cases c27 : v0 = (Int32.ofInt 4)
      · replace h := (if_pos c27).symm.trans h
        refine xr_if_icmp_ne_p i_X4_landing_27 c27 (q := 47) t_X4_landing_27 (q2 := 30) rfl ?_
        refine xr_iload_n i_X4_landing_30 rfl (q := 31) rfl ?_
        refine xr_iconst i_X4_landing_31 (q := 32) rfl ?_
        by_cases c26 : v3 = (Int32.ofInt 1)
        · replace h := (if_pos c26).symm.trans h
          refine xr_if_icmp_ne_p i_X4_landing_32 c26 (q := 39) t_X4_landing_32 (q2 := 35) rfl ?_
          refine xr_iload_n i_X4_landing_35 rfl (q := 36) rfl ?_
          refine xr_goto i_X4_landing_36 (q := 42) t_X4_landing_36 ?_
          refine xr_istore i_X4_landing_42 rfl (L2 := [some (.int v0), some (.int v1), some (.int v2), some (.int v3), some (.int v2)]) rfl (q := 44) rfl ?_
          refine xr_goto i_X4_landing_44 (q := 61) t_X4_landing_44 ?_
          refine xr_iconst i_X4_landing_61 (q := 62) rfl ?_
          refine xr_bipush i_X4_landing_62 (q := 64) rfl ?_
          refine xr_iload_n i_X4_landing_64 rfl (q := 65) rfl ?_
          refine xr_iload i_X4_landing_65 rfl (q := 67) rfl ?_
          refine xr_iadd i_X4_landing_67 (q := 68) rfl ?_
          obtain ⟨x23, m22, em22, h⟩ := xi_bI_some h
          refine xr_SI i_X4_landing_68 xcse_X4_15 rfl (As := [.int ((Int8.ofInt 20).toInt32), .int (v1 + v2)]) rfl (rest := [.int (Int32.ofInt 0)]) rfl ((cc_X4_landing_15 S _ _ _).trans em22) (q := 71) rfl ?_
          obtain ⟨x25, m24, em24, h⟩ := xi_bI_some h
          refine xr_SI i_X4_landing_71 xcse_X4_21 rfl (As := [.int (Int32.ofInt 0), .int x23]) rfl (rest := []) rfl ((cc_X4_landing_21 S _ _ _).trans em24) (q := 74) rfl ?_
          exact xr_ireturn i_X4_landing_74 rfl h
        · replace h := (if_neg c26).symm.trans h
          refine xr_if_icmp_ne_n i_X4_landing_32 c26 (q := 39) t_X4_landing_32 (q2 := 35) rfl ?_
          refine xr_iload_n i_X4_landing_39 rfl (q := 40) rfl ?_
          refine xr_iconst i_X4_landing_40 (q := 41) rfl ?_
          obtain ⟨c17, h⟩ := xi_ifn_some h
          refine xr_idiv i_X4_landing_41 c17 (q := 42) rfl ?_
          refine xr_istore i_X4_landing_42 rfl (L2 := [some (.int v0), some (.int v1), some (.int v2), some (.int v3), some (.int (v2 / (Int32.ofInt 2)))]) rfl (q := 44) rfl ?_
          refine xr_goto i_X4_landing_44 (q := 61) t_X4_landing_44 ?_
          refine xr_iconst i_X4_landing_61 (q := 62) rfl ?_
          refine xr_bipush i_X4_landing_62 (q := 64) rfl ?_
          refine xr_iload_n i_X4_landing_64 rfl (q := 65) rfl ?_
          refine xr_iload i_X4_landing_65 rfl (q := 67) rfl ?_
          refine xr_iadd i_X4_landing_67 (q := 68) rfl ?_
          obtain ⟨x19, m18, em18, h⟩ := xi_bI_some h
          refine xr_SI i_X4_landing_68 xcse_X4_15 rfl (As := [.int ((Int8.ofInt 20).toInt32), .int (v1 + (v2 / (Int32.ofInt 2)))]) rfl (rest := [.int (Int32.ofInt 0)]) rfl ((cc_X4_landing_15 S _ _ _).trans em18) (q := 71) rfl ?_
          obtain ⟨x21, m20, em20, h⟩ := xi_bI_some h
          refine xr_SI i_X4_landing_71 xcse_X4_21 rfl (As := [.int (Int32.ofInt 0), .int x19]) rfl (rest := []) rfl ((cc_X4_landing_21 S _ _ _).trans em20) (q := 74) rfl ?_
          exact xr_ireturn i_X4_landing_74 rfl h
      · replace h := (if_neg c27).symm.trans h
        refine xr_if_icmp_ne_n i_X4_landing_27 c27 (q := 47) t_X4_landing_27 (q2 := 30) rfl ?_
        refine xr_iload_n i_X4_landing_47 rfl (q := 48) rfl ?_
        refine xr_iconst i_X4_landing_48 (q := 49) rfl ?_
        by_cases c16 : v0 = (Int32.ofInt 3)
        · replace h := (if_pos c16).symm.trans h
          refine xr_if_icmp_ne_p i_X4_landing_49 c16 (q := 61) t_X4_landing_49 (q2 := 52) rfl ?_
          refine xr_iload_n i_X4_landing_52 rfl (q := 53) rfl ?_
          refine xr_iconst i_X4_landing_53 (q := 54) rfl ?_
          by_cases c15 : v3 = (Int32.ofInt 1)
          · replace h := (if_pos c15).symm.trans h
            refine xr_if_icmp_ne_p i_X4_landing_54 c15 (q := 61) t_X4_landing_54 (q2 := 57) rfl ?_
            refine xr_bipush i_X4_landing_57 (q := 59) rfl ?_
            refine xr_istore i_X4_landing_59 rfl (L2 := [some (.int v0), some (.int v1), some (.int v2), some (.int v3), some (.int ((Int8.ofInt (-2)).toInt32))]) rfl (q := 61) rfl ?_
            refine xr_iconst i_X4_landing_61 (q := 62) rfl ?_
            refine xr_bipush i_X4_landing_62 (q := 64) rfl ?_
            refine xr_iload_n i_X4_landing_64 rfl (q := 65) rfl ?_
            refine xr_iload i_X4_landing_65 rfl (q := 67) rfl ?_
            refine xr_iadd i_X4_landing_67 (q := 68) rfl ?_
            obtain ⟨x12, m11, em11, h⟩ := xi_bI_some h
            refine xr_SI i_X4_landing_68 xcse_X4_15 rfl (As := [.int ((Int8.ofInt 20).toInt32), .int (v1 + ((Int8.ofInt (-2)).toInt32))]) rfl (rest := [.int (Int32.ofInt 0)]) rfl ((cc_X4_landing_15 S _ _ _).trans em11) (q := 71) rfl ?_
            obtain ⟨x14, m13, em13, h⟩ := xi_bI_some h
            refine xr_SI i_X4_landing_71 xcse_X4_21 rfl (As := [.int (Int32.ofInt 0), .int x12]) rfl (rest := []) rfl ((cc_X4_landing_21 S _ _ _).trans em13) (q := 74) rfl ?_
            exact xr_ireturn i_X4_landing_74 rfl h
          · replace h := (if_neg c15).symm.trans h
            refine xr_if_icmp_ne_n i_X4_landing_54 c15 (q := 61) t_X4_landing_54 (q2 := 57) rfl ?_
            refine xr_iconst i_X4_landing_61 (q := 62) rfl ?_
            refine xr_bipush i_X4_landing_62 (q := 64) rfl ?_
            refine xr_iload_n i_X4_landing_64 rfl (q := 65) rfl ?_
            refine xr_iload i_X4_landing_65 rfl (q := 67) rfl ?_
            refine xr_iadd i_X4_landing_67 (q := 68) rfl ?_
            obtain ⟨x8, m7, em7, h⟩ := xi_bI_some h
            refine xr_SI i_X4_landing_68 xcse_X4_15 rfl (As := [.int ((Int8.ofInt 20).toInt32), .int (v1 + (Int32.ofInt 0))]) rfl (rest := [.int (Int32.ofInt 0)]) rfl ((cc_X4_landing_15 S _ _ _).trans em7) (q := 71) rfl ?_
            obtain ⟨x10, m9, em9, h⟩ := xi_bI_some h
            refine xr_SI i_X4_landing_71 xcse_X4_21 rfl (As := [.int (Int32.ofInt 0), .int x8]) rfl (rest := []) rfl ((cc_X4_landing_21 S _ _ _).trans em9) (q := 74) rfl ?_
            exact xr_ireturn i_X4_landing_74 rfl h
        · replace h := (if_neg c16).symm.trans h
          refine xr_if_icmp_ne_n i_X4_landing_49 c16 (q := 61) t_X4_landing_49 (q2 := 52) rfl ?_
          refine xr_iconst i_X4_landing_61 (q := 62) rfl ?_
          refine xr_bipush i_X4_landing_62 (q := 64) rfl ?_
          refine xr_iload_n i_X4_landing_64 rfl (q := 65) rfl ?_
          refine xr_iload i_X4_landing_65 rfl (q := 67) rfl ?_
          refine xr_iadd i_X4_landing_67 (q := 68) rfl ?_
          obtain ⟨x4, m3, em3, h⟩ := xi_bI_some h
          refine xr_SI i_X4_landing_68 xcse_X4_15 rfl (As := [.int ((Int8.ofInt 20).toInt32), .int (v1 + (Int32.ofInt 0))]) rfl (rest := [.int (Int32.ofInt 0)]) rfl ((cc_X4_landing_15 S _ _ _).trans em3) (q := 71) rfl ?_
          obtain ⟨x6, m5, em5, h⟩ := xi_bI_some h
          refine xr_SI i_X4_landing_71 xcse_X4_21 rfl (As := [.int (Int32.ofInt 0), .int x4]) rfl (rest := []) rfl ((cc_X4_landing_21 S _ _ _).trans em5) (q := 74) rfl ?_
          exact xr_ireturn i_X4_landing_74 rfl h
  · replace h := (if_neg c33).symm.trans h
    refine xr_ifCond_eq_n i_X4_landing_5 c33 (q := 11) t_X4_landing_5 (q2 := 8) rfl ?_
    refine xr_bipush i_X4_landing_8 (q := 10) rfl ?_
    exact xr_ireturn i_X4_landing_10 rfl h
set_option maxRecDepth 100000 in
theorem po_X4_landing {l : Launch} {E : xi_E} {S : xi_S} {D : va_G} {tys : List (ClassId × FieldType)} (hC : xCx E S tys) : xi_Pok l E S D vwCl tys xNs RX4 xTs cX4_landing 5 1 (P_X4_landing S) := ⟨xi_dc_ok, by rw [hC.2]; exact xfo_X4, xkio_X4, xklo_X4, xi_calls_ok (ins := .invokestatic) (List.forall_mem_cons.mpr ⟨(xc_X4_11 (sn_X4_isOf hC) (by decide)), List.forall_mem_cons.mpr ⟨(xm_X4_15 (by decide)), List.forall_mem_cons.mpr ⟨(xm_X4_21 (by decide)), fun _ h => absurd h List.not_mem_nil⟩⟩⟩), xi_calls_ok (ins := .invokevirtual) (fun _ h => absurd h List.not_mem_nil)⟩
theorem sn_X4_landing {l : Launch} {E : xi_E} {S : xi_S} {D : va_G} {tys : List (ClassId × FieldType)} (hC : xCx E S tys) : ∀ As m1 r m2, F_X4_landing S As m1 = some (r, m2) → xi_Sound l E S D vwCl tys xNs xTs yX4_landing cX4_landing 5 (some .int) 1 As m1 r m2 := by
  intro As m1 r m2 h
  unfold F_X4_landing at h
  split at h
  · exact xi_meth (P := P_X4_landing S) (by decide) hC.1 (po_X4_landing hC) (Nat.le_of_ble_eq_true rfl) rfl (xe_X4_landing _ _ _ _ _ h)
  · exact xi_no h
