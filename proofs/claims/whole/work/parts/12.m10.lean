theorem i_X9_look_0 : xi_dc cX9_look 0 = some (.aload_n 0, 1) := by decide +kernel
theorem i_X9_look_1 : xi_dc cX9_look 1 = some (.getfield 84, 3) := by decide +kernel
theorem i_X9_look_4 : xi_dc cX9_look 4 = some (.aload_n 0, 1) := by decide +kernel
theorem i_X9_look_5 : xi_dc cX9_look 5 = some (.getfield 16, 3) := by decide +kernel
theorem i_X9_look_8 : xi_dc cX9_look 8 = some (.iload_n 1, 1) := by decide +kernel
theorem i_X9_look_9 : xi_dc cX9_look 9 = some (.iaload, 1) := by decide +kernel
theorem i_X9_look_10 : xi_dc cX9_look 10 = some (.if_icmp .ge 20, 3) := by decide +kernel
theorem t_X9_look_10 : ((10 : Nat) : Int) + 20 = ((30 : Nat) : Int) := by decide +kernel
theorem i_X9_look_13 : xi_dc cX9_look 13 = some (.aload_n 0, 1) := by decide +kernel
theorem i_X9_look_14 : xi_dc cX9_look 14 = some (.getfield 19, 3) := by decide +kernel
theorem i_X9_look_17 : xi_dc cX9_look 17 = some (.bipush 60, 2) := by decide +kernel
theorem i_X9_look_19 : xi_dc cX9_look 19 = some (.iload_n 1, 1) := by decide +kernel
theorem i_X9_look_20 : xi_dc cX9_look 20 = some (.imul, 1) := by decide +kernel
theorem i_X9_look_21 : xi_dc cX9_look 21 = some (.aload_n 0, 1) := by decide +kernel
theorem i_X9_look_22 : xi_dc cX9_look 22 = some (.getfield 84, 3) := by decide +kernel
theorem i_X9_look_25 : xi_dc cX9_look 25 = some (.iadd, 1) := by decide +kernel
theorem i_X9_look_26 : xi_dc cX9_look 26 = some (.iaload, 1) := by decide +kernel
theorem i_X9_look_27 : xi_dc cX9_look 27 = some (.goto 6, 3) := by decide +kernel
theorem t_X9_look_27 : ((27 : Nat) : Int) + 6 = ((33 : Nat) : Int) := by decide +kernel
theorem i_X9_look_30 : xi_dc cX9_look 30 = some (.sipush (-1000), 3) := by decide +kernel
theorem i_X9_look_33 : xi_dc cX9_look 33 = some (.ireturn, 1) := by decide +kernel
def P_X9_look (S : xi_S) : xi_P := (xi_dc cX9_look, xi_tab xfl_X9, xi_tab xki_X9, xi_tab xkl_X9, xi_tab xcs_X9, xi_tab xcv_X9, xi_calls [], xi_calls [], 1)
def E_X9_look (S : xi_S) (v0 : Nat) (v1 : Int32) (m : xi_M) : Option xi_R :=
  if S.1 v0 = 11 then
    if S.1 v0 = 11 then (S.2.2 v0 2).bind fun b3 =>
      if S.1 b3 = 0 ∧ ¬ (v1 < 0 ∨ S.2.1 b3 ≤ Int32.toNatClampNeg v1) then
        if (m.1 b3 (Int32.toNatClampNeg v1)) ≤ (m.1 v0 18) then
          some (some (.int ((Int16.ofInt (-1000)).toInt32)), m)
        else
          if S.1 v0 = 11 then (S.2.2 v0 3).bind fun b6 =>
            if S.1 v0 = 11 then
              if S.1 b6 = 0 ∧ ¬ (((((Int8.ofInt 60).toInt32) * v1) + (m.1 v0 18)) < 0 ∨ S.2.1 b6 ≤ Int32.toNatClampNeg ((((Int8.ofInt 60).toInt32) * v1) + (m.1 v0 18))) then
                some (some (.int (m.1 b6 (Int32.toNatClampNeg ((((Int8.ofInt 60).toInt32) * v1) + (m.1 v0 18))))), m)
              else none
            else none
          else none
      else none
    else none
  else none
def F_X9_look (S : xi_S) : xi_F := fun As m => match As with
  | [.ref v0, .int v1] => E_X9_look S v0 v1 m
  | _ => none
set_option maxRecDepth 100000 in
set_option maxHeartbeats 4000000 in
theorem xe_X9_look {S : xi_S} {res : xi_R} (v0 : Nat) (v1 : Int32) (m : xi_M) (h : E_X9_look S v0 v1 m = some res) : xi_X S (P_X9_look S) (0, [some (.ref v0), some (.int v1)], [], m) res := by
  unfold E_X9_look at h
  refine xr_aload_n i_X9_look_0 rfl (q := 1) rfl ?_
  obtain ⟨c1, h⟩ := xi_if_some h
  refine xr_getI i_X9_look_1 xfe_X9_84 c1 (q := 4) rfl ?_
  refine xr_aload_n i_X9_look_4 rfl (q := 5) rfl ?_
  obtain ⟨c2, h⟩ := xi_if_some h
  obtain ⟨b3, eb3, h⟩ := xi_bind_some h
  refine xr_getR i_X9_look_5 xfe_X9_16 c2 eb3 (q := 8) rfl ?_
  refine xr_iload_n i_X9_look_8 rfl (q := 9) rfl ?_
  obtain ⟨c4, h⟩ := xi_if_some h
  refine xr_iaload i_X9_look_9 c4 (q := 10) rfl ?_
  by_cases c9 : (m.1 b3 (Int32.toNatClampNeg v1)) ≤ (m.1 v0 18)
  · replace h := (if_pos c9).symm.trans h
    refine xr_if_icmp_ge_p i_X9_look_10 c9 (q := 30) t_X9_look_10 (q2 := 13) rfl ?_
    refine xr_sipush i_X9_look_30 (q := 33) rfl ?_
    exact xr_ireturn i_X9_look_33 rfl h
  · replace h := (if_neg c9).symm.trans h
    refine xr_if_icmp_ge_n i_X9_look_10 c9 (q := 30) t_X9_look_10 (q2 := 13) rfl ?_
    refine xr_aload_n i_X9_look_13 rfl (q := 14) rfl ?_
    obtain ⟨c5, h⟩ := xi_if_some h
    obtain ⟨b6, eb6, h⟩ := xi_bind_some h
    refine xr_getR i_X9_look_14 xfe_X9_19 c5 eb6 (q := 17) rfl ?_
    refine xr_bipush i_X9_look_17 (q := 19) rfl ?_
    refine xr_iload_n i_X9_look_19 rfl (q := 20) rfl ?_
    refine xr_imul i_X9_look_20 (q := 21) rfl ?_
    refine xr_aload_n i_X9_look_21 rfl (q := 22) rfl ?_
    obtain ⟨c7, h⟩ := xi_if_some h
    refine xr_getI i_X9_look_22 xfe_X9_84 c7 (q := 25) rfl ?_
    refine xr_iadd i_X9_look_25 (q := 26) rfl ?_
    obtain ⟨c8, h⟩ := xi_if_some h
    refine xr_iaload i_X9_look_26 c8 (q := 27) rfl ?_
    refine xr_goto i_X9_look_27 (q := 33) t_X9_look_27 ?_
    exact xr_ireturn i_X9_look_33 rfl h
set_option maxRecDepth 100000 in
theorem po_X9_look {l : Launch} {E : xi_E} {S : xi_S} {D : va_G} {tys : List (ClassId × FieldType)} (hC : xCx E S tys) : xi_Pok l E S D vwCl tys xNs RX9 xTs cX9_look 2 0 (P_X9_look S) := ⟨xi_dc_ok, by rw [hC.2]; exact xfo_X9, xkio_X9, xklo_X9, xi_calls_ok (ins := .invokestatic) (fun _ h => absurd h List.not_mem_nil), xi_calls_ok (ins := .invokevirtual) (fun _ h => absurd h List.not_mem_nil)⟩
theorem sn_X9_look {l : Launch} {E : xi_E} {S : xi_S} {D : va_G} {tys : List (ClassId × FieldType)} (hC : xCx E S tys) : ∀ As m1 r m2, F_X9_look S As m1 = some (r, m2) → xi_Sound l E S D vwCl tys xNs xTs yX9_look cX9_look 2 (some .int) 0 As m1 r m2 := by
  intro As m1 r m2 h
  unfold F_X9_look at h
  split at h
  · exact xi_meth (P := P_X9_look S) (by decide) hC.1 (po_X9_look hC) (Nat.le_of_ble_eq_true rfl) rfl (xe_X9_look _ _ _ h)
  · exact xi_no h
theorem i_X9_blanks_0 : xi_dc cX9_blanks 0 = some (.aload_n 0, 1) := by decide +kernel
theorem i_X9_blanks_1 : xi_dc cX9_blanks 1 = some (.getfield 87, 3) := by decide +kernel
theorem i_X9_blanks_4 : xi_dc cX9_blanks 4 = some (.bipush (-9), 2) := by decide +kernel
theorem i_X9_blanks_6 : xi_dc cX9_blanks 6 = some (.if_icmp .ne 26, 3) := by decide +kernel
theorem t_X9_blanks_6 : ((6 : Nat) : Int) + 26 = ((32 : Nat) : Int) := by decide +kernel
theorem i_X9_blanks_9 : xi_dc cX9_blanks 9 = some (.aload_n 0, 1) := by decide +kernel
theorem i_X9_blanks_10 : xi_dc cX9_blanks 10 = some (.iload_n 1, 1) := by decide +kernel
theorem i_X9_blanks_11 : xi_dc cX9_blanks 11 = some (.invokevirtual 90, 3) := by decide +kernel
theorem i_X9_blanks_14 : xi_dc cX9_blanks 14 = some (.bipush 32, 2) := by decide +kernel
theorem i_X9_blanks_16 : xi_dc cX9_blanks 16 = some (.if_icmp .ne 16, 3) := by decide +kernel
theorem t_X9_blanks_16 : ((16 : Nat) : Int) + 16 = ((32 : Nat) : Int) := by decide +kernel
theorem i_X9_blanks_19 : xi_dc cX9_blanks 19 = some (.aload_n 0, 1) := by decide +kernel
theorem i_X9_blanks_20 : xi_dc cX9_blanks 20 = some (.dup, 1) := by decide +kernel
theorem i_X9_blanks_21 : xi_dc cX9_blanks 21 = some (.getfield 84, 3) := by decide +kernel
theorem i_X9_blanks_24 : xi_dc cX9_blanks 24 = some (.iconst 1, 1) := by decide +kernel
theorem i_X9_blanks_25 : xi_dc cX9_blanks 25 = some (.iadd, 1) := by decide +kernel
theorem i_X9_blanks_26 : xi_dc cX9_blanks 26 = some (.putfield 84, 3) := by decide +kernel
theorem i_X9_blanks_29 : xi_dc cX9_blanks 29 = some (.goto (-29), 3) := by decide +kernel
theorem t_X9_blanks_29 : ((29 : Nat) : Int) + (-29) = ((0 : Nat) : Int) := by decide +kernel
theorem i_X9_blanks_32 : xi_dc cX9_blanks 32 = some (.return_, 1) := by decide +kernel
def P_X9_blanks (S : xi_S) : xi_P := (xi_dc cX9_blanks, xi_tab xfl_X9, xi_tab xki_X9, xi_tab xkl_X9, xi_tab xcs_X9, xi_tab xcv_X9, xi_calls [], xi_calls [(90, xi_wV S 11 1 (F_X9_look S))], 0)
theorem cc_X9_blanks_90 (S : xi_S) (a0 : Nat) (a1 : Int32) (m : xi_M) : (P_X9_blanks S).2.2.2.2.2.2.2.1 90 [.ref a0, .int a1] m = (if S.1 a0 = 11 then E_X9_look S a0 a1 m else none) := by
  show xi_calls [(90, xi_wV S 11 1 (F_X9_look S))] 90 [.ref a0, .int a1] m = _
  refine Eq.trans (b := xi_wV S 11 1 (F_X9_look S) [.ref a0, .int a1] m) (xi_calls_hit rfl) ?_
  exact xi_wV_eq rfl
def G_X9_blanks_0 (S : xi_S) : Nat → Nat → Int32 → xi_M → Option xi_R
  | 0, _, _, _ => none
  | n + 1, v0, v1, m =>
    if S.1 v0 = 11 then
      if (m.1 v0 19) = ((Int8.ofInt (-9)).toInt32) then
        xi_bI (if S.1 v0 = 11 then E_X9_look S v0 v1 m else none) fun x3 m2 =>
        if x3 = ((Int8.ofInt 32).toInt32) then
          if S.1 v0 = 11 then
            if S.1 v0 = 11 then
              G_X9_blanks_0 S n v0 v1 (xi_wI m2 v0 18 ((m2.1 v0 18) + (Int32.ofInt 1)))
            else none
          else none
        else
          some (none, m2)
      else
        some (none, m)
    else none
set_option maxRecDepth 100000 in
set_option maxHeartbeats 4000000 in
theorem xs_X9_blanks_0 {S : xi_S} {res : xi_R} : ∀ (n : Nat) (v0 : Nat) (v1 : Int32) (m : xi_M), G_X9_blanks_0 S n v0 v1 m = some res → xi_X S (P_X9_blanks S) (0, [some (.ref v0), some (.int v1)], [], m) res := by
  intro n
  induction n with
  | zero => intro v0 v1 m h; exact xi_no h
  | succ n ih =>
    intro v0 v1 m h
    unfold G_X9_blanks_0 at h
    refine xr_aload_n i_X9_blanks_0 rfl (q := 1) rfl ?_
    obtain ⟨c1, h⟩ := xi_if_some h
    refine xr_getI i_X9_blanks_1 xfe_X9_87 c1 (q := 4) rfl ?_
    refine xr_bipush i_X9_blanks_4 (q := 6) rfl ?_
    by_cases c7 : (m.1 v0 19) = ((Int8.ofInt (-9)).toInt32)
    · replace h := (if_pos c7).symm.trans h
      refine xr_if_icmp_ne_p i_X9_blanks_6 c7 (q := 32) t_X9_blanks_6 (q2 := 9) rfl ?_
      refine xr_aload_n i_X9_blanks_9 rfl (q := 10) rfl ?_
      refine xr_iload_n i_X9_blanks_10 rfl (q := 11) rfl ?_
      obtain ⟨x3, m2, em2, h⟩ := xi_bI_some h
      refine xr_VI i_X9_blanks_11 xcve_X9_90 rfl (As := [.ref v0, .int v1]) rfl (rest := []) rfl ((cc_X9_blanks_90 S _ _ _).trans em2) (q := 14) rfl ?_
      refine xr_bipush i_X9_blanks_14 (q := 16) rfl ?_
      by_cases c6 : x3 = ((Int8.ofInt 32).toInt32)
      · replace h := (if_pos c6).symm.trans h
        refine xr_if_icmp_ne_p i_X9_blanks_16 c6 (q := 32) t_X9_blanks_16 (q2 := 19) rfl ?_
        refine xr_aload_n i_X9_blanks_19 rfl (q := 20) rfl ?_
        refine xr_dup_r i_X9_blanks_20 (q := 21) rfl ?_
        obtain ⟨c4, h⟩ := xi_if_some h
        refine xr_getI i_X9_blanks_21 xfe_X9_84 c4 (q := 24) rfl ?_
        refine xr_iconst i_X9_blanks_24 (q := 25) rfl ?_
        refine xr_iadd i_X9_blanks_25 (q := 26) rfl ?_
        obtain ⟨c5, h⟩ := xi_if_some h
        refine xr_putI i_X9_blanks_26 xfe_X9_84 c5 (q := 29) rfl ?_
        refine xr_goto i_X9_blanks_29 (q := 0) t_X9_blanks_29 ?_
        exact xi_X_le (xi_le_s (xi_le_s xi_le_z)) (ih _ _ _ h)
      · replace h := (if_neg c6).symm.trans h
        refine xr_if_icmp_ne_n i_X9_blanks_16 c6 (q := 32) t_X9_blanks_16 (q2 := 19) rfl ?_
        exact xr_return i_X9_blanks_32 rfl h
    · replace h := (if_neg c7).symm.trans h
      refine xr_if_icmp_ne_n i_X9_blanks_6 c7 (q := 32) t_X9_blanks_6 (q2 := 9) rfl ?_
      exact xr_return i_X9_blanks_32 rfl h
def E_X9_blanks (S : xi_S) (v0 : Nat) (v1 : Int32) (m : xi_M) : Option xi_R :=
  if S.1 v0 = 11 then
    if (m.1 v0 19) = ((Int8.ofInt (-9)).toInt32) then
      xi_bI (if S.1 v0 = 11 then E_X9_look S v0 v1 m else none) fun x3 m2 =>
      if x3 = ((Int8.ofInt 32).toInt32) then
        if S.1 v0 = 11 then
          if S.1 v0 = 11 then
            G_X9_blanks_0 S 10000 v0 v1 (xi_wI m2 v0 18 ((m2.1 v0 18) + (Int32.ofInt 1)))
          else none
        else none
      else
        some (none, m2)
    else
      some (none, m)
  else none
def F_X9_blanks (S : xi_S) : xi_F := fun As m => match As with
  | [.ref v0, .int v1] => E_X9_blanks S v0 v1 m
  | _ => none
set_option maxRecDepth 100000 in
set_option maxHeartbeats 4000000 in
theorem xe_X9_blanks {S : xi_S} {res : xi_R} (v0 : Nat) (v1 : Int32) (m : xi_M) (h : E_X9_blanks S v0 v1 m = some res) : xi_X S (P_X9_blanks S) (0, [some (.ref v0), some (.int v1)], [], m) res := by
  unfold E_X9_blanks at h
  refine xr_aload_n i_X9_blanks_0 rfl (q := 1) rfl ?_
  obtain ⟨c1, h⟩ := xi_if_some h
  refine xr_getI i_X9_blanks_1 xfe_X9_87 c1 (q := 4) rfl ?_
  refine xr_bipush i_X9_blanks_4 (q := 6) rfl ?_
  by_cases c7 : (m.1 v0 19) = ((Int8.ofInt (-9)).toInt32)
  · replace h := (if_pos c7).symm.trans h
    refine xr_if_icmp_ne_p i_X9_blanks_6 c7 (q := 32) t_X9_blanks_6 (q2 := 9) rfl ?_
    refine xr_aload_n i_X9_blanks_9 rfl (q := 10) rfl ?_
    refine xr_iload_n i_X9_blanks_10 rfl (q := 11) rfl ?_
    obtain ⟨x3, m2, em2, h⟩ := xi_bI_some h
    refine xr_VI i_X9_blanks_11 xcve_X9_90 rfl (As := [.ref v0, .int v1]) rfl (rest := []) rfl ((cc_X9_blanks_90 S _ _ _).trans em2) (q := 14) rfl ?_
    refine xr_bipush i_X9_blanks_14 (q := 16) rfl ?_
    by_cases c6 : x3 = ((Int8.ofInt 32).toInt32)
    · replace h := (if_pos c6).symm.trans h
      refine xr_if_icmp_ne_p i_X9_blanks_16 c6 (q := 32) t_X9_blanks_16 (q2 := 19) rfl ?_
      refine xr_aload_n i_X9_blanks_19 rfl (q := 20) rfl ?_
      refine xr_dup_r i_X9_blanks_20 (q := 21) rfl ?_
      obtain ⟨c4, h⟩ := xi_if_some h
      refine xr_getI i_X9_blanks_21 xfe_X9_84 c4 (q := 24) rfl ?_
      refine xr_iconst i_X9_blanks_24 (q := 25) rfl ?_
      refine xr_iadd i_X9_blanks_25 (q := 26) rfl ?_
      obtain ⟨c5, h⟩ := xi_if_some h
      refine xr_putI i_X9_blanks_26 xfe_X9_84 c5 (q := 29) rfl ?_
      refine xr_goto i_X9_blanks_29 (q := 0) t_X9_blanks_29 ?_
      exact xi_X_le (xi_le_s (xi_le_s xi_le_z)) (xs_X9_blanks_0 10000 _ _ _ h)
    · replace h := (if_neg c6).symm.trans h
      refine xr_if_icmp_ne_n i_X9_blanks_16 c6 (q := 32) t_X9_blanks_16 (q2 := 19) rfl ?_
      exact xr_return i_X9_blanks_32 rfl h
  · replace h := (if_neg c7).symm.trans h
    refine xr_if_icmp_ne_n i_X9_blanks_6 c7 (q := 32) t_X9_blanks_6 (q2 := 9) rfl ?_
    exact xr_return i_X9_blanks_32 rfl h
set_option maxRecDepth 100000 in
theorem po_X9_blanks {l : Launch} {E : xi_E} {S : xi_S} {D : va_G} {tys : List (ClassId × FieldType)} (hC : xCx E S tys) : xi_Pok l E S D vwCl tys xNs RX9 xTs cX9_blanks 2 1 (P_X9_blanks S) := ⟨xi_dc_ok, by rw [hC.2]; exact xfo_X9, xkio_X9, xklo_X9, xi_calls_ok (ins := .invokestatic) (fun _ h => absurd h List.not_mem_nil), xi_calls_ok (ins := .invokevirtual) (List.forall_mem_cons.mpr ⟨(xc_X9_90 hC.1 (sn_X9_look hC) (by decide)), fun _ h => absurd h List.not_mem_nil⟩)⟩
theorem sn_X9_blanks {l : Launch} {E : xi_E} {S : xi_S} {D : va_G} {tys : List (ClassId × FieldType)} (hC : xCx E S tys) : ∀ As m1 r m2, F_X9_blanks S As m1 = some (r, m2) → xi_Sound l E S D vwCl tys xNs xTs yX9_blanks cX9_blanks 2 none 1 As m1 r m2 := by
  intro As m1 r m2 h
  unfold F_X9_blanks at h
  split at h
  · exact xi_meth (P := P_X9_blanks S) (by decide) hC.1 (po_X9_blanks hC) (Nat.le_of_ble_eq_true rfl) rfl (xe_X9_blanks _ _ _ h)
  · exact xi_no h
theorem i_X9_fails_0 : xi_dc cX9_fails 0 = some (.aload_n 0, 1) := by decide +kernel
theorem i_X9_fails_1 : xi_dc cX9_fails 1 = some (.aload_n 0, 1) := by decide +kernel
theorem i_X9_fails_2 : xi_dc cX9_fails 2 = some (.getfield 87, 3) := by decide +kernel
theorem i_X9_fails_5 : xi_dc cX9_fails 5 = some (.bipush (-9), 2) := by decide +kernel
theorem i_X9_fails_7 : xi_dc cX9_fails 7 = some (.if_icmp .ne 7, 3) := by decide +kernel
theorem t_X9_fails_7 : ((7 : Nat) : Int) + 7 = ((14 : Nat) : Int) := by decide +kernel
theorem i_X9_fails_10 : xi_dc cX9_fails 10 = some (.iload_n 1, 1) := by decide +kernel
theorem i_X9_fails_11 : xi_dc cX9_fails 11 = some (.goto 7, 3) := by decide +kernel
theorem t_X9_fails_11 : ((11 : Nat) : Int) + 7 = ((18 : Nat) : Int) := by decide +kernel
theorem i_X9_fails_14 : xi_dc cX9_fails 14 = some (.aload_n 0, 1) := by decide +kernel
theorem i_X9_fails_15 : xi_dc cX9_fails 15 = some (.getfield 87, 3) := by decide +kernel
theorem i_X9_fails_18 : xi_dc cX9_fails 18 = some (.putfield 87, 3) := by decide +kernel
theorem i_X9_fails_21 : xi_dc cX9_fails 21 = some (.return_, 1) := by decide +kernel
def P_X9_fails (S : xi_S) : xi_P := (xi_dc cX9_fails, xi_tab xfl_X9, xi_tab xki_X9, xi_tab xkl_X9, xi_tab xcs_X9, xi_tab xcv_X9, xi_calls [], xi_calls [], 0)
def E_X9_fails (S : xi_S) (v0 : Nat) (v1 : Int32) (m : xi_M) : Option xi_R :=
  if S.1 v0 = 11 then
    if (m.1 v0 19) = ((Int8.ofInt (-9)).toInt32) then
      if S.1 v0 = 11 then
        some (none, (xi_wI m v0 19 v1))
      else none
    else
      if S.1 v0 = 11 then
        if S.1 v0 = 11 then
          some (none, (xi_wI m v0 19 (m.1 v0 19)))
        else none
      else none
  else none
def F_X9_fails (S : xi_S) : xi_F := fun As m => match As with
  | [.ref v0, .int v1] => E_X9_fails S v0 v1 m
  | _ => none
set_option maxRecDepth 100000 in
set_option maxHeartbeats 4000000 in
theorem xe_X9_fails {S : xi_S} {res : xi_R} (v0 : Nat) (v1 : Int32) (m : xi_M) (h : E_X9_fails S v0 v1 m = some res) : xi_X S (P_X9_fails S) (0, [some (.ref v0), some (.int v1)], [], m) res := by
  unfold E_X9_fails at h
  refine xr_aload_n i_X9_fails_0 rfl (q := 1) rfl ?_
  refine xr_aload_n i_X9_fails_1 rfl (q := 2) rfl ?_
  obtain ⟨c1, h⟩ := xi_if_some h
  refine xr_getI i_X9_fails_2 xfe_X9_87 c1 (q := 5) rfl ?_
  refine xr_bipush i_X9_fails_5 (q := 7) rfl ?_
  by_cases c5 : (m.1 v0 19) = ((Int8.ofInt (-9)).toInt32)
  · replace h := (if_pos c5).symm.trans h
    refine xr_if_icmp_ne_p i_X9_fails_7 c5 (q := 14) t_X9_fails_7 (q2 := 10) rfl ?_
    refine xr_iload_n i_X9_fails_10 rfl (q := 11) rfl ?_
    refine xr_goto i_X9_fails_11 (q := 18) t_X9_fails_11 ?_
    obtain ⟨c4, h⟩ := xi_if_some h
    refine xr_putI i_X9_fails_18 xfe_X9_87 c4 (q := 21) rfl ?_
    exact xr_return i_X9_fails_21 rfl h
  · replace h := (if_neg c5).symm.trans h
    refine xr_if_icmp_ne_n i_X9_fails_7 c5 (q := 14) t_X9_fails_7 (q2 := 10) rfl ?_
    refine xr_aload_n i_X9_fails_14 rfl (q := 15) rfl ?_
    obtain ⟨c2, h⟩ := xi_if_some h
    refine xr_getI i_X9_fails_15 xfe_X9_87 c2 (q := 18) rfl ?_
    obtain ⟨c3, h⟩ := xi_if_some h
    refine xr_putI i_X9_fails_18 xfe_X9_87 c3 (q := 21) rfl ?_
    exact xr_return i_X9_fails_21 rfl h
set_option maxRecDepth 100000 in
theorem po_X9_fails {l : Launch} {E : xi_E} {S : xi_S} {D : va_G} {tys : List (ClassId × FieldType)} (hC : xCx E S tys) : xi_Pok l E S D vwCl tys xNs RX9 xTs cX9_fails 2 0 (P_X9_fails S) := ⟨xi_dc_ok, by rw [hC.2]; exact xfo_X9, xkio_X9, xklo_X9, xi_calls_ok (ins := .invokestatic) (fun _ h => absurd h List.not_mem_nil), xi_calls_ok (ins := .invokevirtual) (fun _ h => absurd h List.not_mem_nil)⟩
theorem sn_X9_fails {l : Launch} {E : xi_E} {S : xi_S} {D : va_G} {tys : List (ClassId × FieldType)} (hC : xCx E S tys) : ∀ As m1 r m2, F_X9_fails S As m1 = some (r, m2) → xi_Sound l E S D vwCl tys xNs xTs yX9_fails cX9_fails 2 none 0 As m1 r m2 := by
  intro As m1 r m2 h
  unfold F_X9_fails at h
  split at h
  · exact xi_meth (P := P_X9_fails S) (by decide) hC.1 (po_X9_fails hC) (Nat.le_of_ble_eq_true rfl) rfl (xe_X9_fails _ _ _ h)
  · exact xi_no h
theorem i_X9_letter_0 : xi_dc cX9_letter 0 = some (.aload_n 0, 1) := by decide +kernel
theorem i_X9_letter_1 : xi_dc cX9_letter 1 = some (.getfield 87, 3) := by decide +kernel
theorem i_X9_letter_4 : xi_dc cX9_letter 4 = some (.bipush (-9), 2) := by decide +kernel
theorem i_X9_letter_6 : xi_dc cX9_letter 6 = some (.if_icmp .ne 20, 3) := by decide +kernel
theorem t_X9_letter_6 : ((6 : Nat) : Int) + 20 = ((26 : Nat) : Int) := by decide +kernel
theorem i_X9_letter_9 : xi_dc cX9_letter 9 = some (.aload_n 0, 1) := by decide +kernel
theorem i_X9_letter_10 : xi_dc cX9_letter 10 = some (.iload_n 1, 1) := by decide +kernel
theorem i_X9_letter_11 : xi_dc cX9_letter 11 = some (.invokevirtual 90, 3) := by decide +kernel
theorem i_X9_letter_14 : xi_dc cX9_letter 14 = some (.iload_n 2, 1) := by decide +kernel
theorem i_X9_letter_15 : xi_dc cX9_letter 15 = some (.if_icmp .eq 11, 3) := by decide +kernel
theorem t_X9_letter_15 : ((15 : Nat) : Int) + 11 = ((26 : Nat) : Int) := by decide +kernel
theorem i_X9_letter_18 : xi_dc cX9_letter 18 = some (.aload_n 0, 1) := by decide +kernel
theorem i_X9_letter_19 : xi_dc cX9_letter 19 = some (.aload_n 0, 1) := by decide +kernel
theorem i_X9_letter_20 : xi_dc cX9_letter 20 = some (.getfield 84, 3) := by decide +kernel
theorem i_X9_letter_23 : xi_dc cX9_letter 23 = some (.invokevirtual 93, 3) := by decide +kernel
theorem i_X9_letter_26 : xi_dc cX9_letter 26 = some (.aload_n 0, 1) := by decide +kernel
theorem i_X9_letter_27 : xi_dc cX9_letter 27 = some (.dup, 1) := by decide +kernel
theorem i_X9_letter_28 : xi_dc cX9_letter 28 = some (.getfield 84, 3) := by decide +kernel
theorem i_X9_letter_31 : xi_dc cX9_letter 31 = some (.iconst 1, 1) := by decide +kernel
theorem i_X9_letter_32 : xi_dc cX9_letter 32 = some (.iadd, 1) := by decide +kernel
theorem i_X9_letter_33 : xi_dc cX9_letter 33 = some (.putfield 84, 3) := by decide +kernel
theorem i_X9_letter_36 : xi_dc cX9_letter 36 = some (.return_, 1) := by decide +kernel
def P_X9_letter (S : xi_S) : xi_P := (xi_dc cX9_letter, xi_tab xfl_X9, xi_tab xki_X9, xi_tab xkl_X9, xi_tab xcs_X9, xi_tab xcv_X9, xi_calls [], xi_calls [(90, xi_wV S 11 1 (F_X9_look S)), (93, xi_wV S 11 1 (F_X9_fails S))], 0)
theorem cc_X9_letter_90 (S : xi_S) (a0 : Nat) (a1 : Int32) (m : xi_M) : (P_X9_letter S).2.2.2.2.2.2.2.1 90 [.ref a0, .int a1] m = (if S.1 a0 = 11 then E_X9_look S a0 a1 m else none) := by
  show xi_calls [(90, xi_wV S 11 1 (F_X9_look S)), (93, xi_wV S 11 1 (F_X9_fails S))] 90 [.ref a0, .int a1] m = _
  refine Eq.trans (b := xi_wV S 11 1 (F_X9_look S) [.ref a0, .int a1] m) (xi_calls_hit rfl) ?_
  exact xi_wV_eq rfl
theorem cc_X9_letter_93 (S : xi_S) (a0 : Nat) (a1 : Int32) (m : xi_M) : (P_X9_letter S).2.2.2.2.2.2.2.1 93 [.ref a0, .int a1] m = (if S.1 a0 = 11 then E_X9_fails S a0 a1 m else none) := by
  show xi_calls [(90, xi_wV S 11 1 (F_X9_look S)), (93, xi_wV S 11 1 (F_X9_fails S))] 93 [.ref a0, .int a1] m = _
  refine Eq.trans (b := xi_calls [(93, xi_wV S 11 1 (F_X9_fails S))] 93 [.ref a0, .int a1] m) (xi_calls_miss rfl) ?_
  refine Eq.trans (b := xi_wV S 11 1 (F_X9_fails S) [.ref a0, .int a1] m) (xi_calls_hit rfl) ?_
  exact xi_wV_eq rfl
def E_X9_letter (S : xi_S) (v0 : Nat) (v1 : Int32) (v2 : Int32) (m : xi_M) : Option xi_R :=
  if S.1 v0 = 11 then
    if (m.1 v0 19) = ((Int8.ofInt (-9)).toInt32) then
      xi_bI (if S.1 v0 = 11 then E_X9_look S v0 v1 m else none) fun x5 m4 =>
      if x5 = v2 then
        if S.1 v0 = 11 then
          if S.1 v0 = 11 then
            some (none, (xi_wI m4 v0 18 ((m4.1 v0 18) + (Int32.ofInt 1))))
          else none
        else none
      else
        if S.1 v0 = 11 then
          xi_bV (if S.1 v0 = 11 then E_X9_fails S v0 (m4.1 v0 18) m4 else none) fun m9 =>
          if S.1 v0 = 11 then
            if S.1 v0 = 11 then
              some (none, (xi_wI m9 v0 18 ((m9.1 v0 18) + (Int32.ofInt 1))))
            else none
          else none
        else none
    else
      if S.1 v0 = 11 then
        if S.1 v0 = 11 then
          some (none, (xi_wI m v0 18 ((m.1 v0 18) + (Int32.ofInt 1))))
        else none
      else none
  else none
def F_X9_letter (S : xi_S) : xi_F := fun As m => match As with
  | [.ref v0, .int v1, .int v2] => E_X9_letter S v0 v1 v2 m
  | _ => none
set_option maxRecDepth 100000 in
set_option maxHeartbeats 4000000 in
theorem xe_X9_letter {S : xi_S} {res : xi_R} (v0 : Nat) (v1 : Int32) (v2 : Int32) (m : xi_M) (h : E_X9_letter S v0 v1 v2 m = some res) : xi_X S (P_X9_letter S) (0, [some (.ref v0), some (.int v1), some (.int v2)], [], m) res := by
  unfold E_X9_letter at h
  refine xr_aload_n i_X9_letter_0 rfl (q := 1) rfl ?_
  obtain ⟨c1, h⟩ := xi_if_some h
  refine xr_getI i_X9_letter_1 xfe_X9_87 c1 (q := 4) rfl ?_
  refine xr_bipush i_X9_letter_4 (q := 6) rfl ?_
  by_cases c13 : (m.1 v0 19) = ((Int8.ofInt (-9)).toInt32)
  · replace h := (if_pos c13).symm.trans h
    refine xr_if_icmp_ne_p i_X9_letter_6 c13 (q := 26) t_X9_letter_6 (q2 := 9) rfl ?_
    refine xr_aload_n i_X9_letter_9 rfl (q := 10) rfl ?_
    refine xr_iload_n i_X9_letter_10 rfl (q := 11) rfl ?_
    obtain ⟨x5, m4, em4, h⟩ := xi_bI_some h
    refine xr_VI i_X9_letter_11 xcve_X9_90 rfl (As := [.ref v0, .int v1]) rfl (rest := []) rfl ((cc_X9_letter_90 S _ _ _).trans em4) (q := 14) rfl ?_
    refine xr_iload_n i_X9_letter_14 rfl (q := 15) rfl ?_
    by_cases c12 : x5 = v2
    · replace h := (if_pos c12).symm.trans h
      refine xr_if_icmp_eq_p i_X9_letter_15 c12 (q := 26) t_X9_letter_15 (q2 := 18) rfl ?_
      refine xr_aload_n i_X9_letter_26 rfl (q := 27) rfl ?_
      refine xr_dup_r i_X9_letter_27 (q := 28) rfl ?_
      obtain ⟨c6, h⟩ := xi_if_some h
      refine xr_getI i_X9_letter_28 xfe_X9_84 c6 (q := 31) rfl ?_
      refine xr_iconst i_X9_letter_31 (q := 32) rfl ?_
      refine xr_iadd i_X9_letter_32 (q := 33) rfl ?_
      obtain ⟨c7, h⟩ := xi_if_some h
      refine xr_putI i_X9_letter_33 xfe_X9_84 c7 (q := 36) rfl ?_
      exact xr_return i_X9_letter_36 rfl h
    · replace h := (if_neg c12).symm.trans h
      refine xr_if_icmp_eq_n i_X9_letter_15 c12 (q := 26) t_X9_letter_15 (q2 := 18) rfl ?_
      refine xr_aload_n i_X9_letter_18 rfl (q := 19) rfl ?_
      refine xr_aload_n i_X9_letter_19 rfl (q := 20) rfl ?_
      obtain ⟨c8, h⟩ := xi_if_some h
      refine xr_getI i_X9_letter_20 xfe_X9_84 c8 (q := 23) rfl ?_
      obtain ⟨m9, em9, h⟩ := xi_bV_some h
      refine xr_VV i_X9_letter_23 xcve_X9_93 rfl (As := [.ref v0, .int (m4.1 v0 18)]) rfl (rest := []) rfl ((cc_X9_letter_93 S _ _ _).trans em9) (q := 26) rfl ?_
      refine xr_aload_n i_X9_letter_26 rfl (q := 27) rfl ?_
      refine xr_dup_r i_X9_letter_27 (q := 28) rfl ?_
      obtain ⟨c10, h⟩ := xi_if_some h
      refine xr_getI i_X9_letter_28 xfe_X9_84 c10 (q := 31) rfl ?_
      refine xr_iconst i_X9_letter_31 (q := 32) rfl ?_
      refine xr_iadd i_X9_letter_32 (q := 33) rfl ?_
      obtain ⟨c11, h⟩ := xi_if_some h
      refine xr_putI i_X9_letter_33 xfe_X9_84 c11 (q := 36) rfl ?_
      exact xr_return i_X9_letter_36 rfl h
  · replace h := (if_neg c13).symm.trans h
    refine xr_if_icmp_ne_n i_X9_letter_6 c13 (q := 26) t_X9_letter_6 (q2 := 9) rfl ?_
    refine xr_aload_n i_X9_letter_26 rfl (q := 27) rfl ?_
    refine xr_dup_r i_X9_letter_27 (q := 28) rfl ?_
    obtain ⟨c2, h⟩ := xi_if_some h
    refine xr_getI i_X9_letter_28 xfe_X9_84 c2 (q := 31) rfl ?_
    refine xr_iconst i_X9_letter_31 (q := 32) rfl ?_
    refine xr_iadd i_X9_letter_32 (q := 33) rfl ?_
    obtain ⟨c3, h⟩ := xi_if_some h
    refine xr_putI i_X9_letter_33 xfe_X9_84 c3 (q := 36) rfl ?_
    exact xr_return i_X9_letter_36 rfl h
set_option maxRecDepth 100000 in
theorem po_X9_letter {l : Launch} {E : xi_E} {S : xi_S} {D : va_G} {tys : List (ClassId × FieldType)} (hC : xCx E S tys) : xi_Pok l E S D vwCl tys xNs RX9 xTs cX9_letter 3 1 (P_X9_letter S) := ⟨xi_dc_ok, by rw [hC.2]; exact xfo_X9, xkio_X9, xklo_X9, xi_calls_ok (ins := .invokestatic) (fun _ h => absurd h List.not_mem_nil), xi_calls_ok (ins := .invokevirtual) (List.forall_mem_cons.mpr ⟨(xc_X9_90 hC.1 (sn_X9_look hC) (by decide)), List.forall_mem_cons.mpr ⟨(xc_X9_93 hC.1 (sn_X9_fails hC) (by decide)), fun _ h => absurd h List.not_mem_nil⟩⟩)⟩
theorem sn_X9_letter {l : Launch} {E : xi_E} {S : xi_S} {D : va_G} {tys : List (ClassId × FieldType)} (hC : xCx E S tys) : ∀ As m1 r m2, F_X9_letter S As m1 = some (r, m2) → xi_Sound l E S D vwCl tys xNs xTs yX9_letter cX9_letter 3 none 1 As m1 r m2 := by
  intro As m1 r m2 h
  unfold F_X9_letter at h
  split at h
  · exact xi_meth (P := P_X9_letter S) (by decide) hC.1 (po_X9_letter hC) (Nat.le_of_ble_eq_true rfl) rfl (xe_X9_letter _ _ _ _ h)
  · exact xi_no h
theorem i_X9_figure_0 : xi_dc cX9_figure 0 = some (.aload_n 0, 1) := by decide +kernel
theorem i_X9_figure_1 : xi_dc cX9_figure 1 = some (.iload_n 1, 1) := by decide +kernel
theorem i_X9_figure_2 : xi_dc cX9_figure 2 = some (.invokevirtual 90, 3) := by decide +kernel
theorem i_X9_figure_5 : xi_dc cX9_figure 5 = some (.bipush 48, 2) := by decide +kernel
theorem i_X9_figure_7 : xi_dc cX9_figure 7 = some (.isub, 1) := by decide +kernel
theorem i_X9_figure_8 : xi_dc cX9_figure 8 = some (.istore 4, 2) := by decide +kernel
theorem i_X9_figure_10 : xi_dc cX9_figure 10 = some (.iload 4, 2) := by decide +kernel
theorem i_X9_figure_12 : xi_dc cX9_figure 12 = some (.iload_n 2, 1) := by decide +kernel
theorem i_X9_figure_13 : xi_dc cX9_figure 13 = some (.iload_n 3, 1) := by decide +kernel
theorem i_X9_figure_14 : xi_dc cX9_figure 14 = some (.invokestatic 63, 3) := by decide +kernel
theorem i_X9_figure_17 : xi_dc cX9_figure 17 = some (.ifCond .ne 11, 3) := by decide +kernel
theorem t_X9_figure_17 : ((17 : Nat) : Int) + 11 = ((28 : Nat) : Int) := by decide +kernel
theorem i_X9_figure_20 : xi_dc cX9_figure 20 = some (.aload_n 0, 1) := by decide +kernel
theorem i_X9_figure_21 : xi_dc cX9_figure 21 = some (.aload_n 0, 1) := by decide +kernel
theorem i_X9_figure_22 : xi_dc cX9_figure 22 = some (.getfield 84, 3) := by decide +kernel
theorem i_X9_figure_25 : xi_dc cX9_figure 25 = some (.invokevirtual 93, 3) := by decide +kernel
theorem i_X9_figure_28 : xi_dc cX9_figure 28 = some (.aload_n 0, 1) := by decide +kernel
theorem i_X9_figure_29 : xi_dc cX9_figure 29 = some (.dup, 1) := by decide +kernel
theorem i_X9_figure_30 : xi_dc cX9_figure 30 = some (.getfield 84, 3) := by decide +kernel
theorem i_X9_figure_33 : xi_dc cX9_figure 33 = some (.iconst 1, 1) := by decide +kernel
theorem i_X9_figure_34 : xi_dc cX9_figure 34 = some (.iadd, 1) := by decide +kernel
theorem i_X9_figure_35 : xi_dc cX9_figure 35 = some (.putfield 84, 3) := by decide +kernel
theorem i_X9_figure_38 : xi_dc cX9_figure 38 = some (.aload_n 0, 1) := by decide +kernel
theorem i_X9_figure_39 : xi_dc cX9_figure 39 = some (.getfield 87, 3) := by decide +kernel
theorem i_X9_figure_42 : xi_dc cX9_figure 42 = some (.bipush (-9), 2) := by decide +kernel
theorem i_X9_figure_44 : xi_dc cX9_figure 44 = some (.if_icmp .ne 8, 3) := by decide +kernel
theorem t_X9_figure_44 : ((44 : Nat) : Int) + 8 = ((52 : Nat) : Int) := by decide +kernel
theorem i_X9_figure_47 : xi_dc cX9_figure 47 = some (.iload 4, 2) := by decide +kernel
theorem i_X9_figure_49 : xi_dc cX9_figure 49 = some (.goto 4, 3) := by decide +kernel
theorem t_X9_figure_49 : ((49 : Nat) : Int) + 4 = ((53 : Nat) : Int) := by decide +kernel
theorem i_X9_figure_52 : xi_dc cX9_figure 52 = some (.iconst 0, 1) := by decide +kernel
theorem i_X9_figure_53 : xi_dc cX9_figure 53 = some (.ireturn, 1) := by decide +kernel
def P_X9_figure (S : xi_S) : xi_P := (xi_dc cX9_figure, xi_tab xfl_X9, xi_tab xki_X9, xi_tab xkl_X9, xi_tab xcs_X9, xi_tab xcv_X9, xi_calls [(63, xi_wS 3 (F_X9_in0 S))], xi_calls [(90, xi_wV S 11 1 (F_X9_look S)), (93, xi_wV S 11 1 (F_X9_fails S))], 1)
theorem cc_X9_figure_63 (S : xi_S) (a0 : Int32) (a1 : Int32) (a2 : Int32) (m : xi_M) : (P_X9_figure S).2.2.2.2.2.2.1 63 [.int a0, .int a1, .int a2] m = (E_X9_in0 S a0 a1 a2 m) := by
  show xi_calls [(63, xi_wS 3 (F_X9_in0 S))] 63 [.int a0, .int a1, .int a2] m = _
  refine Eq.trans (b := xi_wS 3 (F_X9_in0 S) [.int a0, .int a1, .int a2] m) (xi_calls_hit rfl) ?_
  exact xi_wS_eq rfl
theorem cc_X9_figure_90 (S : xi_S) (a0 : Nat) (a1 : Int32) (m : xi_M) : (P_X9_figure S).2.2.2.2.2.2.2.1 90 [.ref a0, .int a1] m = (if S.1 a0 = 11 then E_X9_look S a0 a1 m else none) := by
  show xi_calls [(90, xi_wV S 11 1 (F_X9_look S)), (93, xi_wV S 11 1 (F_X9_fails S))] 90 [.ref a0, .int a1] m = _
  refine Eq.trans (b := xi_wV S 11 1 (F_X9_look S) [.ref a0, .int a1] m) (xi_calls_hit rfl) ?_
  exact xi_wV_eq rfl
theorem cc_X9_figure_93 (S : xi_S) (a0 : Nat) (a1 : Int32) (m : xi_M) : (P_X9_figure S).2.2.2.2.2.2.2.1 93 [.ref a0, .int a1] m = (if S.1 a0 = 11 then E_X9_fails S a0 a1 m else none) := by
  show xi_calls [(90, xi_wV S 11 1 (F_X9_look S)), (93, xi_wV S 11 1 (F_X9_fails S))] 93 [.ref a0, .int a1] m = _
  refine Eq.trans (b := xi_calls [(93, xi_wV S 11 1 (F_X9_fails S))] 93 [.ref a0, .int a1] m) (xi_calls_miss rfl) ?_
  refine Eq.trans (b := xi_wV S 11 1 (F_X9_fails S) [.ref a0, .int a1] m) (xi_calls_hit rfl) ?_
  exact xi_wV_eq rfl
def E_X9_figure (S : xi_S) (v0 : Nat) (v1 : Int32) (v2 : Int32) (v3 : Int32) (m : xi_M) : Option xi_R :=
  xi_bI (if S.1 v0 = 11 then E_X9_look S v0 v1 m else none) fun x2 m1 =>
  xi_bI (E_X9_in0 S (x2 - ((Int8.ofInt 48).toInt32)) v2 v3 m1) fun x4 m3 =>
  if x4 = 0 then
    if S.1 v0 = 11 then
      xi_bV (if S.1 v0 = 11 then E_X9_fails S v0 (m3.1 v0 18) m3 else none) fun m10 =>
      if S.1 v0 = 11 then
        if S.1 v0 = 11 then
          if S.1 v0 = 11 then
            if ((xi_wI m10 v0 18 ((m10.1 v0 18) + (Int32.ofInt 1))).1 v0 19) = ((Int8.ofInt (-9)).toInt32) then
              some (some (.int (x2 - ((Int8.ofInt 48).toInt32))), (xi_wI m10 v0 18 ((m10.1 v0 18) + (Int32.ofInt 1))))
            else
              some (some (.int (Int32.ofInt 0)), (xi_wI m10 v0 18 ((m10.1 v0 18) + (Int32.ofInt 1))))
          else none
        else none
      else none
    else none
  else
    if S.1 v0 = 11 then
      if S.1 v0 = 11 then
        if S.1 v0 = 11 then
          if ((xi_wI m3 v0 18 ((m3.1 v0 18) + (Int32.ofInt 1))).1 v0 19) = ((Int8.ofInt (-9)).toInt32) then
            some (some (.int (x2 - ((Int8.ofInt 48).toInt32))), (xi_wI m3 v0 18 ((m3.1 v0 18) + (Int32.ofInt 1))))
          else
            some (some (.int (Int32.ofInt 0)), (xi_wI m3 v0 18 ((m3.1 v0 18) + (Int32.ofInt 1))))
        else none
      else none
    else none
def F_X9_figure (S : xi_S) : xi_F := fun As m => match As with
  | [.ref v0, .int v1, .int v2, .int v3] => E_X9_figure S v0 v1 v2 v3 m
  | _ => none
set_option maxRecDepth 100000 in
set_option maxHeartbeats 4000000 in
theorem xe_X9_figure {S : xi_S} {res : xi_R} (v0 : Nat) (v1 : Int32) (v2 : Int32) (v3 : Int32) (m : xi_M) (h : E_X9_figure S v0 v1 v2 v3 m = some res) : xi_X S (P_X9_figure S) (0, [some (.ref v0), some (.int v1), some (.int v2), some (.int v3), none], [], m) res := by
  unfold E_X9_figure at h
  refine xr_aload_n i_X9_figure_0 rfl (q := 1) rfl ?_
  refine xr_iload_n i_X9_figure_1 rfl (q := 2) rfl ?_
  obtain ⟨x2, m1, em1, h⟩ := xi_bI_some h
  refine xr_VI i_X9_figure_2 xcve_X9_90 rfl (As := [.ref v0, .int v1]) rfl (rest := []) rfl ((cc_X9_figure_90 S _ _ _).trans em1) (q := 5) rfl ?_
  refine xr_bipush i_X9_figure_5 (q := 7) rfl ?_
  refine xr_isub i_X9_figure_7 (q := 8) rfl ?_
  refine xr_istore i_X9_figure_8 rfl (L2 := [some (.ref v0), some (.int v1), some (.int v2), some (.int v3), some (.int (x2 - ((Int8.ofInt 48).toInt32)))]) rfl (q := 10) rfl ?_
  refine xr_iload i_X9_figure_10 rfl (q := 12) rfl ?_
  refine xr_iload_n i_X9_figure_12 rfl (q := 13) rfl ?_
  refine xr_iload_n i_X9_figure_13 rfl (q := 14) rfl ?_
  obtain ⟨x4, m3, em3, h⟩ := xi_bI_some h
  refine xr_SI i_X9_figure_14 xcse_X9_63 rfl (As := [.int (x2 - ((Int8.ofInt 48).toInt32)), .int v2, .int v3]) rfl (rest := []) rfl ((cc_X9_figure_63 S _ _ _ _).trans em3) (q := 17) rfl ?_
  by_cases c15 : x4 = 0
  · replace h := (if_pos c15).symm.trans h
    refine xr_ifCond_ne_p i_X9_figure_17 c15 (q := 28) t_X9_figure_17 (q2 := 20) rfl ?_
    refine xr_aload_n i_X9_figure_20 rfl (q := 21) rfl ?_
    refine xr_aload_n i_X9_figure_21 rfl (q := 22) rfl ?_
    obtain ⟨c9, h⟩ := xi_if_some h
    refine xr_getI i_X9_figure_22 xfe_X9_84 c9 (q := 25) rfl ?_
    obtain ⟨m10, em10, h⟩ := xi_bV_some h
    refine xr_VV i_X9_figure_25 xcve_X9_93 rfl (As := [.ref v0, .int (m3.1 v0 18)]) rfl (rest := []) rfl ((cc_X9_figure_93 S _ _ _).trans em10) (q := 28) rfl ?_
    refine xr_aload_n i_X9_figure_28 rfl (q := 29) rfl ?_
    refine xr_dup_r i_X9_figure_29 (q := 30) rfl ?_
    obtain ⟨c11, h⟩ := xi_if_some h
    refine xr_getI i_X9_figure_30 xfe_X9_84 c11 (q := 33) rfl ?_
    refine xr_iconst i_X9_figure_33 (q := 34) rfl ?_
    refine xr_iadd i_X9_figure_34 (q := 35) rfl ?_
    obtain ⟨c12, h⟩ := xi_if_some h
    refine xr_putI i_X9_figure_35 xfe_X9_84 c12 (q := 38) rfl ?_
    refine xr_aload_n i_X9_figure_38 rfl (q := 39) rfl ?_
    obtain ⟨c13, h⟩ := xi_if_some h
    refine xr_getI i_X9_figure_39 xfe_X9_87 c13 (q := 42) rfl ?_
    refine xr_bipush i_X9_figure_42 (q := 44) rfl ?_
    by_cases c14 : ((xi_wI m10 v0 18 ((m10.1 v0 18) + (Int32.ofInt 1))).1 v0 19) = ((Int8.ofInt (-9)).toInt32)
    · replace h := (if_pos c14).symm.trans h
      refine xr_if_icmp_ne_p i_X9_figure_44 c14 (q := 52) t_X9_figure_44 (q2 := 47) rfl ?_
      refine xr_iload i_X9_figure_47 rfl (q := 49) rfl ?_
      refine xr_goto i_X9_figure_49 (q := 53) t_X9_figure_49 ?_
      exact xr_ireturn i_X9_figure_53 rfl h
    · replace h := (if_neg c14).symm.trans h
      refine xr_if_icmp_ne_n i_X9_figure_44 c14 (q := 52) t_X9_figure_44 (q2 := 47) rfl ?_
      refine xr_iconst i_X9_figure_52 (q := 53) rfl ?_
      exact xr_ireturn i_X9_figure_53 rfl h
  · replace h := (if_neg c15).symm.trans h
    refine xr_ifCond_ne_n i_X9_figure_17 c15 (q := 28) t_X9_figure_17 (q2 := 20) rfl ?_
    refine xr_aload_n i_X9_figure_28 rfl (q := 29) rfl ?_
    refine xr_dup_r i_X9_figure_29 (q := 30) rfl ?_
    obtain ⟨c5, h⟩ := xi_if_some h
    refine xr_getI i_X9_figure_30 xfe_X9_84 c5 (q := 33) rfl ?_
    refine xr_iconst i_X9_figure_33 (q := 34) rfl ?_
    refine xr_iadd i_X9_figure_34 (q := 35) rfl ?_
    obtain ⟨c6, h⟩ := xi_if_some h
    refine xr_putI i_X9_figure_35 xfe_X9_84 c6 (q := 38) rfl ?_
    refine xr_aload_n i_X9_figure_38 rfl (q := 39) rfl ?_
    obtain ⟨c7, h⟩ := xi_if_some h
    refine xr_getI i_X9_figure_39 xfe_X9_87 c7 (q := 42) rfl ?_
    refine xr_bipush i_X9_figure_42 (q := 44) rfl ?_
    by_cases c8 : ((xi_wI m3 v0 18 ((m3.1 v0 18) + (Int32.ofInt 1))).1 v0 19) = ((Int8.ofInt (-9)).toInt32)
    · replace h := (if_pos c8).symm.trans h
      refine xr_if_icmp_ne_p i_X9_figure_44 c8 (q := 52) t_X9_figure_44 (q2 := 47) rfl ?_
      refine xr_iload i_X9_figure_47 rfl (q := 49) rfl ?_
      refine xr_goto i_X9_figure_49 (q := 53) t_X9_figure_49 ?_
      exact xr_ireturn i_X9_figure_53 rfl h
    · replace h := (if_neg c8).symm.trans h
      refine xr_if_icmp_ne_n i_X9_figure_44 c8 (q := 52) t_X9_figure_44 (q2 := 47) rfl ?_
      refine xr_iconst i_X9_figure_52 (q := 53) rfl ?_
      exact xr_ireturn i_X9_figure_53 rfl h
set_option maxRecDepth 100000 in
theorem po_X9_figure {l : Launch} {E : xi_E} {S : xi_S} {D : va_G} {tys : List (ClassId × FieldType)} (hC : xCx E S tys) : xi_Pok l E S D vwCl tys xNs RX9 xTs cX9_figure 5 1 (P_X9_figure S) := ⟨xi_dc_ok, by rw [hC.2]; exact xfo_X9, xkio_X9, xklo_X9, xi_calls_ok (ins := .invokestatic) (List.forall_mem_cons.mpr ⟨(xc_X9_63 (sn_X9_in0 hC) (by decide)), fun _ h => absurd h List.not_mem_nil⟩), xi_calls_ok (ins := .invokevirtual) (List.forall_mem_cons.mpr ⟨(xc_X9_90 hC.1 (sn_X9_look hC) (by decide)), List.forall_mem_cons.mpr ⟨(xc_X9_93 hC.1 (sn_X9_fails hC) (by decide)), fun _ h => absurd h List.not_mem_nil⟩⟩)⟩
theorem sn_X9_figure {l : Launch} {E : xi_E} {S : xi_S} {D : va_G} {tys : List (ClassId × FieldType)} (hC : xCx E S tys) : ∀ As m1 r m2, F_X9_figure S As m1 = some (r, m2) → xi_Sound l E S D vwCl tys xNs xTs yX9_figure cX9_figure 5 (some .int) 1 As m1 r m2 := by
  intro As m1 r m2 h
  unfold F_X9_figure at h
  split at h
  · exact xi_meth (P := P_X9_figure S) (by decide) hC.1 (po_X9_figure hC) (Nat.le_of_ble_eq_true rfl) rfl (xe_X9_figure _ _ _ _ _ h)
  · exact xi_no h
theorem i_X9_place_0 : xi_dc cX9_place 0 = some (.aload_n 0, 1) := by decide +kernel
theorem i_X9_place_1 : xi_dc cX9_place 1 = some (.getfield 84, 3) := by decide +kernel
theorem i_X9_place_4 : xi_dc cX9_place 4 = some (.istore_n 3, 1) := by decide +kernel
theorem i_X9_place_5 : xi_dc cX9_place 5 = some (.bipush 10, 2) := by decide +kernel
theorem i_X9_place_7 : xi_dc cX9_place 7 = some (.aload_n 0, 1) := by decide +kernel
theorem i_X9_place_8 : xi_dc cX9_place 8 = some (.iload_n 1, 1) := by decide +kernel
theorem i_X9_place_9 : xi_dc cX9_place 9 = some (.iconst 0, 1) := by decide +kernel
theorem i_X9_place_10 : xi_dc cX9_place 10 = some (.bipush 9, 2) := by decide +kernel
theorem i_X9_place_12 : xi_dc cX9_place 12 = some (.invokevirtual 97, 3) := by decide +kernel
theorem i_X9_place_15 : xi_dc cX9_place 15 = some (.imul, 1) := by decide +kernel
theorem i_X9_place_16 : xi_dc cX9_place 16 = some (.istore 4, 2) := by decide +kernel
theorem i_X9_place_18 : xi_dc cX9_place 18 = some (.iload 4, 2) := by decide +kernel
theorem i_X9_place_20 : xi_dc cX9_place 20 = some (.aload_n 0, 1) := by decide +kernel
theorem i_X9_place_21 : xi_dc cX9_place 21 = some (.iload_n 1, 1) := by decide +kernel
theorem i_X9_place_22 : xi_dc cX9_place 22 = some (.iconst 0, 1) := by decide +kernel
theorem i_X9_place_23 : xi_dc cX9_place 23 = some (.bipush 9, 2) := by decide +kernel
theorem i_X9_place_25 : xi_dc cX9_place 25 = some (.invokevirtual 97, 3) := by decide +kernel
theorem i_X9_place_28 : xi_dc cX9_place 28 = some (.iadd, 1) := by decide +kernel
theorem i_X9_place_29 : xi_dc cX9_place 29 = some (.istore 4, 2) := by decide +kernel
theorem i_X9_place_31 : xi_dc cX9_place 31 = some (.aload_n 0, 1) := by decide +kernel
theorem i_X9_place_32 : xi_dc cX9_place 32 = some (.getfield 87, 3) := by decide +kernel
theorem i_X9_place_35 : xi_dc cX9_place 35 = some (.bipush (-9), 2) := by decide +kernel
theorem i_X9_place_37 : xi_dc cX9_place 37 = some (.if_icmp .ne 19, 3) := by decide +kernel
theorem t_X9_place_37 : ((37 : Nat) : Int) + 19 = ((56 : Nat) : Int) := by decide +kernel
theorem i_X9_place_40 : xi_dc cX9_place 40 = some (.iload 4, 2) := by decide +kernel
theorem i_X9_place_42 : xi_dc cX9_place 42 = some (.iload_n 2, 1) := by decide +kernel
theorem i_X9_place_43 : xi_dc cX9_place 43 = some (.bipush 20, 2) := by decide +kernel
theorem i_X9_place_45 : xi_dc cX9_place 45 = some (.invokestatic 63, 3) := by decide +kernel
theorem i_X9_place_48 : xi_dc cX9_place 48 = some (.ifCond .ne 8, 3) := by decide +kernel
theorem t_X9_place_48 : ((48 : Nat) : Int) + 8 = ((56 : Nat) : Int) := by decide +kernel
theorem i_X9_place_51 : xi_dc cX9_place 51 = some (.aload_n 0, 1) := by decide +kernel
theorem i_X9_place_52 : xi_dc cX9_place 52 = some (.iload_n 3, 1) := by decide +kernel
theorem i_X9_place_53 : xi_dc cX9_place 53 = some (.invokevirtual 93, 3) := by decide +kernel
theorem i_X9_place_56 : xi_dc cX9_place 56 = some (.iload 4, 2) := by decide +kernel
theorem i_X9_place_58 : xi_dc cX9_place 58 = some (.ireturn, 1) := by decide +kernel
def P_X9_place (S : xi_S) : xi_P := (xi_dc cX9_place, xi_tab xfl_X9, xi_tab xki_X9, xi_tab xkl_X9, xi_tab xcs_X9, xi_tab xcv_X9, xi_calls [(63, xi_wS 3 (F_X9_in0 S))], xi_calls [(93, xi_wV S 11 1 (F_X9_fails S)), (97, xi_wV S 11 3 (F_X9_figure S))], 1)
theorem cc_X9_place_63 (S : xi_S) (a0 : Int32) (a1 : Int32) (a2 : Int32) (m : xi_M) : (P_X9_place S).2.2.2.2.2.2.1 63 [.int a0, .int a1, .int a2] m = (E_X9_in0 S a0 a1 a2 m) := by
  show xi_calls [(63, xi_wS 3 (F_X9_in0 S))] 63 [.int a0, .int a1, .int a2] m = _
  refine Eq.trans (b := xi_wS 3 (F_X9_in0 S) [.int a0, .int a1, .int a2] m) (xi_calls_hit rfl) ?_
  exact xi_wS_eq rfl
theorem cc_X9_place_93 (S : xi_S) (a0 : Nat) (a1 : Int32) (m : xi_M) : (P_X9_place S).2.2.2.2.2.2.2.1 93 [.ref a0, .int a1] m = (if S.1 a0 = 11 then E_X9_fails S a0 a1 m else none) := by
  show xi_calls [(93, xi_wV S 11 1 (F_X9_fails S)), (97, xi_wV S 11 3 (F_X9_figure S))] 93 [.ref a0, .int a1] m = _
  refine Eq.trans (b := xi_wV S 11 1 (F_X9_fails S) [.ref a0, .int a1] m) (xi_calls_hit rfl) ?_
  exact xi_wV_eq rfl
theorem cc_X9_place_97 (S : xi_S) (a0 : Nat) (a1 : Int32) (a2 : Int32) (a3 : Int32) (m : xi_M) : (P_X9_place S).2.2.2.2.2.2.2.1 97 [.ref a0, .int a1, .int a2, .int a3] m = (if S.1 a0 = 11 then E_X9_figure S a0 a1 a2 a3 m else none) := by
  show xi_calls [(93, xi_wV S 11 1 (F_X9_fails S)), (97, xi_wV S 11 3 (F_X9_figure S))] 97 [.ref a0, .int a1, .int a2, .int a3] m = _
  refine Eq.trans (b := xi_calls [(97, xi_wV S 11 3 (F_X9_figure S))] 97 [.ref a0, .int a1, .int a2, .int a3] m) (xi_calls_miss rfl) ?_
  refine Eq.trans (b := xi_wV S 11 3 (F_X9_figure S) [.ref a0, .int a1, .int a2, .int a3] m) (xi_calls_hit rfl) ?_
  exact xi_wV_eq rfl
def E_X9_place (S : xi_S) (v0 : Nat) (v1 : Int32) (v2 : Int32) (m : xi_M) : Option xi_R :=
  if S.1 v0 = 11 then
    xi_bI (if S.1 v0 = 11 then E_X9_figure S v0 v1 (Int32.ofInt 0) ((Int8.ofInt 9).toInt32) m else none) fun x3 m2 =>
    xi_bI (if S.1 v0 = 11 then E_X9_figure S v0 v1 (Int32.ofInt 0) ((Int8.ofInt 9).toInt32) m2 else none) fun x5 m4 =>
    if S.1 v0 = 11 then
      if (m4.1 v0 19) = ((Int8.ofInt (-9)).toInt32) then
        xi_bI (E_X9_in0 S ((((Int8.ofInt 10).toInt32) * x3) + x5) v2 ((Int8.ofInt 20).toInt32) m4) fun x8 m7 =>
        if x8 = 0 then
          xi_bV (if S.1 v0 = 11 then E_X9_fails S v0 (m.1 v0 18) m7 else none) fun m9 =>
          some (some (.int ((((Int8.ofInt 10).toInt32) * x3) + x5)), m9)
        else
          some (some (.int ((((Int8.ofInt 10).toInt32) * x3) + x5)), m7)
      else
        some (some (.int ((((Int8.ofInt 10).toInt32) * x3) + x5)), m4)
    else none
  else none
def F_X9_place (S : xi_S) : xi_F := fun As m => match As with
  | [.ref v0, .int v1, .int v2] => E_X9_place S v0 v1 v2 m
  | _ => none
set_option maxRecDepth 100000 in
set_option maxHeartbeats 4000000 in
theorem xe_X9_place {S : xi_S} {res : xi_R} (v0 : Nat) (v1 : Int32) (v2 : Int32) (m : xi_M) (h : E_X9_place S v0 v1 v2 m = some res) : xi_X S (P_X9_place S) (0, [some (.ref v0), some (.int v1), some (.int v2), none, none], [], m) res := by
  unfold E_X9_place at h
  refine xr_aload_n i_X9_place_0 rfl (q := 1) rfl ?_
  obtain ⟨c1, h⟩ := xi_if_some h
  refine xr_getI i_X9_place_1 xfe_X9_84 c1 (q := 4) rfl ?_
  refine xr_istore_n i_X9_place_4 rfl (L2 := [some (.ref v0), some (.int v1), some (.int v2), some (.int (m.1 v0 18)), none]) rfl (q := 5) rfl ?_
  refine xr_bipush i_X9_place_5 (q := 7) rfl ?_
  refine xr_aload_n i_X9_place_7 rfl (q := 8) rfl ?_
  refine xr_iload_n i_X9_place_8 rfl (q := 9) rfl ?_
  refine xr_iconst i_X9_place_9 (q := 10) rfl ?_
  refine xr_bipush i_X9_place_10 (q := 12) rfl ?_
  obtain ⟨x3, m2, em2, h⟩ := xi_bI_some h
  refine xr_VI i_X9_place_12 xcve_X9_97 rfl (As := [.ref v0, .int v1, .int (Int32.ofInt 0), .int ((Int8.ofInt 9).toInt32)]) rfl (rest := [.int ((Int8.ofInt 10).toInt32)]) rfl ((cc_X9_place_97 S _ _ _ _ _).trans em2) (q := 15) rfl ?_
  refine xr_imul i_X9_place_15 (q := 16) rfl ?_
  refine xr_istore i_X9_place_16 rfl (L2 := [some (.ref v0), some (.int v1), some (.int v2), some (.int (m.1 v0 18)), some (.int (((Int8.ofInt 10).toInt32) * x3))]) rfl (q := 18) rfl ?_
  refine xr_iload i_X9_place_18 rfl (q := 20) rfl ?_
  refine xr_aload_n i_X9_place_20 rfl (q := 21) rfl ?_
  refine xr_iload_n i_X9_place_21 rfl (q := 22) rfl ?_
  refine xr_iconst i_X9_place_22 (q := 23) rfl ?_
  refine xr_bipush i_X9_place_23 (q := 25) rfl ?_
  obtain ⟨x5, m4, em4, h⟩ := xi_bI_some h
  refine xr_VI i_X9_place_25 xcve_X9_97 rfl (As := [.ref v0, .int v1, .int (Int32.ofInt 0), .int ((Int8.ofInt 9).toInt32)]) rfl (rest := [.int (((Int8.ofInt 10).toInt32) * x3)]) rfl ((cc_X9_place_97 S _ _ _ _ _).trans em4) (q := 28) rfl ?_
  refine xr_iadd i_X9_place_28 (q := 29) rfl ?_
  refine xr_istore i_X9_place_29 rfl (L2 := [some (.ref v0), some (.int v1), some (.int v2), some (.int (m.1 v0 18)), some (.int ((((Int8.ofInt 10).toInt32) * x3) + x5))]) rfl (q := 31) rfl ?_
  refine xr_aload_n i_X9_place_31 rfl (q := 32) rfl ?_
  obtain ⟨c6, h⟩ := xi_if_some h
  refine xr_getI i_X9_place_32 xfe_X9_87 c6 (q := 35) rfl ?_
  refine xr_bipush i_X9_place_35 (q := 37) rfl ?_
  by_cases c11 : (m4.1 v0 19) = ((Int8.ofInt (-9)).toInt32)
  · replace h := (if_pos c11).symm.trans h
    refine xr_if_icmp_ne_p i_X9_place_37 c11 (q := 56) t_X9_place_37 (q2 := 40) rfl ?_
    refine xr_iload i_X9_place_40 rfl (q := 42) rfl ?_
    refine xr_iload_n i_X9_place_42 rfl (q := 43) rfl ?_
    refine xr_bipush i_X9_place_43 (q := 45) rfl ?_
    obtain ⟨x8, m7, em7, h⟩ := xi_bI_some h
    refine xr_SI i_X9_place_45 xcse_X9_63 rfl (As := [.int ((((Int8.ofInt 10).toInt32) * x3) + x5), .int v2, .int ((Int8.ofInt 20).toInt32)]) rfl (rest := []) rfl ((cc_X9_place_63 S _ _ _ _).trans em7) (q := 48) rfl ?_
    by_cases c10 : x8 = 0
    · replace h := (if_pos c10).symm.trans h
      refine xr_ifCond_ne_p i_X9_place_48 c10 (q := 56) t_X9_place_48 (q2 := 51) rfl ?_
      refine xr_aload_n i_X9_place_51 rfl (q := 52) rfl ?_
      refine xr_iload_n i_X9_place_52 rfl (q := 53) rfl ?_
      obtain ⟨m9, em9, h⟩ := xi_bV_some h
      refine xr_VV i_X9_place_53 xcve_X9_93 rfl (As := [.ref v0, .int (m.1 v0 18)]) rfl (rest := []) rfl ((cc_X9_place_93 S _ _ _).trans em9) (q := 56) rfl ?_
      refine xr_iload i_X9_place_56 rfl (q := 58) rfl ?_
      exact xr_ireturn i_X9_place_58 rfl h
    · replace h := (if_neg c10).symm.trans h
      refine xr_ifCond_ne_n i_X9_place_48 c10 (q := 56) t_X9_place_48 (q2 := 51) rfl ?_
      refine xr_iload i_X9_place_56 rfl (q := 58) rfl ?_
      exact xr_ireturn i_X9_place_58 rfl h
  · replace h := (if_neg c11).symm.trans h
    refine xr_if_icmp_ne_n i_X9_place_37 c11 (q := 56) t_X9_place_37 (q2 := 40) rfl ?_
    refine xr_iload i_X9_place_56 rfl (q := 58) rfl ?_
    exact xr_ireturn i_X9_place_58 rfl h
set_option maxRecDepth 100000 in
theorem po_X9_place {l : Launch} {E : xi_E} {S : xi_S} {D : va_G} {tys : List (ClassId × FieldType)} (hC : xCx E S tys) : xi_Pok l E S D vwCl tys xNs RX9 xTs cX9_place 5 2 (P_X9_place S) := ⟨xi_dc_ok, by rw [hC.2]; exact xfo_X9, xkio_X9, xklo_X9, xi_calls_ok (ins := .invokestatic) (List.forall_mem_cons.mpr ⟨(xc_X9_63 (sn_X9_in0 hC) (by decide)), fun _ h => absurd h List.not_mem_nil⟩), xi_calls_ok (ins := .invokevirtual) (List.forall_mem_cons.mpr ⟨(xc_X9_93 hC.1 (sn_X9_fails hC) (by decide)), List.forall_mem_cons.mpr ⟨(xc_X9_97 hC.1 (sn_X9_figure hC) (by decide)), fun _ h => absurd h List.not_mem_nil⟩⟩)⟩
theorem sn_X9_place {l : Launch} {E : xi_E} {S : xi_S} {D : va_G} {tys : List (ClassId × FieldType)} (hC : xCx E S tys) : ∀ As m1 r m2, F_X9_place S As m1 = some (r, m2) → xi_Sound l E S D vwCl tys xNs xTs yX9_place cX9_place 5 (some .int) 2 As m1 r m2 := by
  intro As m1 r m2 h
  unfold F_X9_place at h
  split at h
  · exact xi_meth (P := P_X9_place S) (by decide) hC.1 (po_X9_place hC) (Nat.le_of_ble_eq_true rfl) rfl (xe_X9_place _ _ _ _ h)
  · exact xi_no h
theorem i_X9_kindOf_0 : xi_dc cX9_kindOf 0 = some (.iload_n 0, 1) := by decide +kernel
theorem i_X9_kindOf_1 : xi_dc cX9_kindOf 1 = some (.bipush 112, 2) := by decide +kernel
theorem i_X9_kindOf_3 : xi_dc cX9_kindOf 3 = some (.if_icmp .ne 7, 3) := by decide +kernel
theorem t_X9_kindOf_3 : ((3 : Nat) : Int) + 7 = ((10 : Nat) : Int) := by decide +kernel
theorem i_X9_kindOf_6 : xi_dc cX9_kindOf 6 = some (.iconst 0, 1) := by decide +kernel
theorem i_X9_kindOf_7 : xi_dc cX9_kindOf 7 = some (.goto 55, 3) := by decide +kernel
theorem t_X9_kindOf_7 : ((7 : Nat) : Int) + 55 = ((62 : Nat) : Int) := by decide +kernel
theorem i_X9_kindOf_10 : xi_dc cX9_kindOf 10 = some (.iload_n 0, 1) := by decide +kernel
theorem i_X9_kindOf_11 : xi_dc cX9_kindOf 11 = some (.bipush 119, 2) := by decide +kernel
theorem i_X9_kindOf_13 : xi_dc cX9_kindOf 13 = some (.if_icmp .ne 7, 3) := by decide +kernel
theorem t_X9_kindOf_13 : ((13 : Nat) : Int) + 7 = ((20 : Nat) : Int) := by decide +kernel
theorem i_X9_kindOf_16 : xi_dc cX9_kindOf 16 = some (.iconst 1, 1) := by decide +kernel
theorem i_X9_kindOf_17 : xi_dc cX9_kindOf 17 = some (.goto 45, 3) := by decide +kernel
theorem t_X9_kindOf_17 : ((17 : Nat) : Int) + 45 = ((62 : Nat) : Int) := by decide +kernel
theorem i_X9_kindOf_20 : xi_dc cX9_kindOf 20 = some (.iload_n 0, 1) := by decide +kernel
theorem i_X9_kindOf_21 : xi_dc cX9_kindOf 21 = some (.bipush 107, 2) := by decide +kernel
theorem i_X9_kindOf_23 : xi_dc cX9_kindOf 23 = some (.if_icmp .ne 7, 3) := by decide +kernel
theorem t_X9_kindOf_23 : ((23 : Nat) : Int) + 7 = ((30 : Nat) : Int) := by decide +kernel
theorem i_X9_kindOf_26 : xi_dc cX9_kindOf 26 = some (.iconst 2, 1) := by decide +kernel
theorem i_X9_kindOf_27 : xi_dc cX9_kindOf 27 = some (.goto 35, 3) := by decide +kernel
theorem t_X9_kindOf_27 : ((27 : Nat) : Int) + 35 = ((62 : Nat) : Int) := by decide +kernel
theorem i_X9_kindOf_30 : xi_dc cX9_kindOf 30 = some (.iload_n 0, 1) := by decide +kernel
theorem i_X9_kindOf_31 : xi_dc cX9_kindOf 31 = some (.bipush 104, 2) := by decide +kernel
theorem i_X9_kindOf_33 : xi_dc cX9_kindOf 33 = some (.if_icmp .ne 7, 3) := by decide +kernel
theorem t_X9_kindOf_33 : ((33 : Nat) : Int) + 7 = ((40 : Nat) : Int) := by decide +kernel
theorem i_X9_kindOf_36 : xi_dc cX9_kindOf 36 = some (.iconst 3, 1) := by decide +kernel
theorem i_X9_kindOf_37 : xi_dc cX9_kindOf 37 = some (.goto 25, 3) := by decide +kernel
theorem t_X9_kindOf_37 : ((37 : Nat) : Int) + 25 = ((62 : Nat) : Int) := by decide +kernel
theorem i_X9_kindOf_40 : xi_dc cX9_kindOf 40 = some (.iload_n 0, 1) := by decide +kernel
theorem i_X9_kindOf_41 : xi_dc cX9_kindOf 41 = some (.bipush 116, 2) := by decide +kernel
theorem i_X9_kindOf_43 : xi_dc cX9_kindOf 43 = some (.if_icmp .ne 7, 3) := by decide +kernel
theorem t_X9_kindOf_43 : ((43 : Nat) : Int) + 7 = ((50 : Nat) : Int) := by decide +kernel
theorem i_X9_kindOf_46 : xi_dc cX9_kindOf 46 = some (.iconst 4, 1) := by decide +kernel
theorem i_X9_kindOf_47 : xi_dc cX9_kindOf 47 = some (.goto 15, 3) := by decide +kernel
theorem t_X9_kindOf_47 : ((47 : Nat) : Int) + 15 = ((62 : Nat) : Int) := by decide +kernel
theorem i_X9_kindOf_50 : xi_dc cX9_kindOf 50 = some (.iload_n 0, 1) := by decide +kernel
theorem i_X9_kindOf_51 : xi_dc cX9_kindOf 51 = some (.bipush 98, 2) := by decide +kernel
theorem i_X9_kindOf_53 : xi_dc cX9_kindOf 53 = some (.if_icmp .ne 7, 3) := by decide +kernel
theorem t_X9_kindOf_53 : ((53 : Nat) : Int) + 7 = ((60 : Nat) : Int) := by decide +kernel
theorem i_X9_kindOf_56 : xi_dc cX9_kindOf 56 = some (.iconst 5, 1) := by decide +kernel
theorem i_X9_kindOf_57 : xi_dc cX9_kindOf 57 = some (.goto 5, 3) := by decide +kernel
theorem t_X9_kindOf_57 : ((57 : Nat) : Int) + 5 = ((62 : Nat) : Int) := by decide +kernel
theorem i_X9_kindOf_60 : xi_dc cX9_kindOf 60 = some (.bipush (-9), 2) := by decide +kernel
theorem i_X9_kindOf_62 : xi_dc cX9_kindOf 62 = some (.ireturn, 1) := by decide +kernel
def P_X9_kindOf (S : xi_S) : xi_P := (xi_dc cX9_kindOf, xi_tab xfl_X9, xi_tab xki_X9, xi_tab xkl_X9, xi_tab xcs_X9, xi_tab xcv_X9, xi_calls [], xi_calls [], 1)
def E_X9_kindOf (S : xi_S) (v0 : Int32) (m : xi_M) : Option xi_R :=
  if v0 = ((Int8.ofInt 112).toInt32) then
    some (some (.int (Int32.ofInt 0)), m)
  else
    if v0 = ((Int8.ofInt 119).toInt32) then
      some (some (.int (Int32.ofInt 1)), m)
    else
      if v0 = ((Int8.ofInt 107).toInt32) then
        some (some (.int (Int32.ofInt 2)), m)
      else
        if v0 = ((Int8.ofInt 104).toInt32) then
          some (some (.int (Int32.ofInt 3)), m)
        else
          if v0 = ((Int8.ofInt 116).toInt32) then
            some (some (.int (Int32.ofInt 4)), m)
          else
            if v0 = ((Int8.ofInt 98).toInt32) then
              some (some (.int (Int32.ofInt 5)), m)
            else
              some (some (.int ((Int8.ofInt (-9)).toInt32)), m)
def F_X9_kindOf (S : xi_S) : xi_F := fun As m => match As with
  | [.int v0] => E_X9_kindOf S v0 m
  | _ => none
set_option maxRecDepth 100000 in
set_option maxHeartbeats 4000000 in
theorem xe_X9_kindOf {S : xi_S} {res : xi_R} (v0 : Int32) (m : xi_M) (h : E_X9_kindOf S v0 m = some res) : xi_X S (P_X9_kindOf S) (0, [some (.int v0)], [], m) res := by
  unfold E_X9_kindOf at h
  refine xr_iload_n i_X9_kindOf_0 rfl (q := 1) rfl ?_
  refine xr_bipush i_X9_kindOf_1 (q := 3) rfl ?_
  by_cases c6 : v0 = ((Int8.ofInt 112).toInt32)
  · replace h := (if_pos c6).symm.trans h
    refine xr_if_icmp_ne_p i_X9_kindOf_3 c6 (q := 10) t_X9_kindOf_3 (q2 := 6) rfl ?_
    refine xr_iconst i_X9_kindOf_6 (q := 7) rfl ?_
    refine xr_goto i_X9_kindOf_7 (q := 62) t_X9_kindOf_7 ?_
    exact xr_ireturn i_X9_kindOf_62 rfl h
  · replace h := (if_neg c6).symm.trans h
    refine xr_if_icmp_ne_n i_X9_kindOf_3 c6 (q := 10) t_X9_kindOf_3 (q2 := 6) rfl ?_
    refine xr_iload_n i_X9_kindOf_10 rfl (q := 11) rfl ?_
    refine xr_bipush i_X9_kindOf_11 (q := 13) rfl ?_
    by_cases c5 : v0 = ((Int8.ofInt 119).toInt32)
    · replace h := (if_pos c5).symm.trans h
      refine xr_if_icmp_ne_p i_X9_kindOf_13 c5 (q := 20) t_X9_kindOf_13 (q2 := 16) rfl ?_
      refine xr_iconst i_X9_kindOf_16 (q := 17) rfl ?_
      refine xr_goto i_X9_kindOf_17 (q := 62) t_X9_kindOf_17 ?_
      exact xr_ireturn i_X9_kindOf_62 rfl h
    · replace h := (if_neg c5).symm.trans h
      refine xr_if_icmp_ne_n i_X9_kindOf_13 c5 (q := 20) t_X9_kindOf_13 (q2 := 16) rfl ?_
      refine xr_iload_n i_X9_kindOf_20 rfl (q := 21) rfl ?_
      refine xr_bipush i_X9_kindOf_21 (q := 23) rfl ?_
      by_cases c4 : v0 = ((Int8.ofInt 107).toInt32)
      · replace h := (if_pos c4).symm.trans h
        refine xr_if_icmp_ne_p i_X9_kindOf_23 c4 (q := 30) t_X9_kindOf_23 (q2 := 26) rfl ?_
        refine xr_iconst i_X9_kindOf_26 (q := 27) rfl ?_
        refine xr_goto i_X9_kindOf_27 (q := 62) t_X9_kindOf_27 ?_
        exact xr_ireturn i_X9_kindOf_62 rfl h
      · replace h := (if_neg c4).symm.trans h
        refine xr_if_icmp_ne_n i_X9_kindOf_23 c4 (q := 30) t_X9_kindOf_23 (q2 := 26) rfl ?_
        refine xr_iload_n i_X9_kindOf_30 rfl (q := 31) rfl ?_
        refine xr_bipush i_X9_kindOf_31 (q := 33) rfl ?_
        by_cases c3 : v0 = ((Int8.ofInt 104).toInt32)
        · replace h := (if_pos c3).symm.trans h
          refine xr_if_icmp_ne_p i_X9_kindOf_33 c3 (q := 40) t_X9_kindOf_33 (q2 := 36) rfl ?_
          refine xr_iconst i_X9_kindOf_36 (q := 37) rfl ?_
          refine xr_goto i_X9_kindOf_37 (q := 62) t_X9_kindOf_37 ?_
          exact xr_ireturn i_X9_kindOf_62 rfl h
        · replace h := (if_neg c3).symm.trans h
          refine xr_if_icmp_ne_n i_X9_kindOf_33 c3 (q := 40) t_X9_kindOf_33 (q2 := 36) rfl ?_
          refine xr_iload_n i_X9_kindOf_40 rfl (q := 41) rfl ?_
          refine xr_bipush i_X9_kindOf_41 (q := 43) rfl ?_
          by_cases c2 : v0 = ((Int8.ofInt 116).toInt32)
          · replace h := (if_pos c2).symm.trans h
            refine xr_if_icmp_ne_p i_X9_kindOf_43 c2 (q := 50) t_X9_kindOf_43 (q2 := 46) rfl ?_
            refine xr_iconst i_X9_kindOf_46 (q := 47) rfl ?_
            refine xr_goto i_X9_kindOf_47 (q := 62) t_X9_kindOf_47 ?_
            exact xr_ireturn i_X9_kindOf_62 rfl h
          · replace h := (if_neg c2).symm.trans h
            refine xr_if_icmp_ne_n i_X9_kindOf_43 c2 (q := 50) t_X9_kindOf_43 (q2 := 46) rfl ?_
            refine xr_iload_n i_X9_kindOf_50 rfl (q := 51) rfl ?_
            refine xr_bipush i_X9_kindOf_51 (q := 53) rfl ?_
            by_cases c1 : v0 = ((Int8.ofInt 98).toInt32)
            · replace h := (if_pos c1).symm.trans h
              refine xr_if_icmp_ne_p i_X9_kindOf_53 c1 (q := 60) t_X9_kindOf_53 (q2 := 56) rfl ?_
              refine xr_iconst i_X9_kindOf_56 (q := 57) rfl ?_
              refine xr_goto i_X9_kindOf_57 (q := 62) t_X9_kindOf_57 ?_
              exact xr_ireturn i_X9_kindOf_62 rfl h
            · replace h := (if_neg c1).symm.trans h
              refine xr_if_icmp_ne_n i_X9_kindOf_53 c1 (q := 60) t_X9_kindOf_53 (q2 := 56) rfl ?_
              refine xr_bipush i_X9_kindOf_60 (q := 62) rfl ?_
              exact xr_ireturn i_X9_kindOf_62 rfl h
set_option maxRecDepth 100000 in
theorem po_X9_kindOf {l : Launch} {E : xi_E} {S : xi_S} {D : va_G} {tys : List (ClassId × FieldType)} (hC : xCx E S tys) : xi_Pok l E S D vwCl tys xNs RX9 xTs cX9_kindOf 1 0 (P_X9_kindOf S) := ⟨xi_dc_ok, by rw [hC.2]; exact xfo_X9, xkio_X9, xklo_X9, xi_calls_ok (ins := .invokestatic) (fun _ h => absurd h List.not_mem_nil), xi_calls_ok (ins := .invokevirtual) (fun _ h => absurd h List.not_mem_nil)⟩
theorem sn_X9_kindOf {l : Launch} {E : xi_E} {S : xi_S} {D : va_G} {tys : List (ClassId × FieldType)} (hC : xCx E S tys) : ∀ As m1 r m2, F_X9_kindOf S As m1 = some (r, m2) → xi_Sound l E S D vwCl tys xNs xTs yX9_kindOf cX9_kindOf 1 (some .int) 0 As m1 r m2 := by
  intro As m1 r m2 h
  unfold F_X9_kindOf at h
  split at h
  · exact xi_meth (P := P_X9_kindOf S) (by decide) hC.1 (po_X9_kindOf hC) (Nat.le_of_ble_eq_true rfl) rfl (xe_X9_kindOf _ _ h)
  · exact xi_no h
theorem i_X9_readsPlayer_0 : xi_dc cX9_readsPlayer 0 = some (.aload_n 0, 1) := by decide +kernel
theorem i_X9_readsPlayer_1 : xi_dc cX9_readsPlayer 1 = some (.iload_n 1, 1) := by decide +kernel
theorem i_X9_readsPlayer_2 : xi_dc cX9_readsPlayer 2 = some (.invokevirtual 90, 3) := by decide +kernel
theorem i_X9_readsPlayer_5 : xi_dc cX9_readsPlayer 5 = some (.invokestatic 101, 3) := by decide +kernel
theorem i_X9_readsPlayer_8 : xi_dc cX9_readsPlayer 8 = some (.istore_n 2, 1) := by decide +kernel
theorem i_X9_readsPlayer_9 : xi_dc cX9_readsPlayer 9 = some (.bipush 10, 2) := by decide +kernel
theorem i_X9_readsPlayer_11 : xi_dc cX9_readsPlayer 11 = some (.iconst 4, 1) := by decide +kernel
theorem i_X9_readsPlayer_12 : xi_dc cX9_readsPlayer 12 = some (.aload_n 0, 1) := by decide +kernel
theorem i_X9_readsPlayer_13 : xi_dc cX9_readsPlayer 13 = some (.getfield 28, 3) := by decide +kernel
theorem i_X9_readsPlayer_16 : xi_dc cX9_readsPlayer 16 = some (.iconst 1, 1) := by decide +kernel
theorem i_X9_readsPlayer_17 : xi_dc cX9_readsPlayer 17 = some (.iaload, 1) := by decide +kernel
theorem i_X9_readsPlayer_18 : xi_dc cX9_readsPlayer 18 = some (.bipush 6, 2) := by decide +kernel
theorem i_X9_readsPlayer_20 : xi_dc cX9_readsPlayer 20 = some (.if_icmp .ge 12, 3) := by decide +kernel
theorem t_X9_readsPlayer_20 : ((20 : Nat) : Int) + 12 = ((32 : Nat) : Int) := by decide +kernel
theorem i_X9_readsPlayer_23 : xi_dc cX9_readsPlayer 23 = some (.aload_n 0, 1) := by decide +kernel
theorem i_X9_readsPlayer_24 : xi_dc cX9_readsPlayer 24 = some (.getfield 28, 3) := by decide +kernel
theorem i_X9_readsPlayer_27 : xi_dc cX9_readsPlayer 27 = some (.iconst 1, 1) := by decide +kernel
theorem i_X9_readsPlayer_28 : xi_dc cX9_readsPlayer 28 = some (.iaload, 1) := by decide +kernel
theorem i_X9_readsPlayer_29 : xi_dc cX9_readsPlayer 29 = some (.goto 4, 3) := by decide +kernel
theorem t_X9_readsPlayer_29 : ((29 : Nat) : Int) + 4 = ((33 : Nat) : Int) := by decide +kernel
theorem i_X9_readsPlayer_32 : xi_dc cX9_readsPlayer 32 = some (.iconst 0, 1) := by decide +kernel
theorem i_X9_readsPlayer_33 : xi_dc cX9_readsPlayer 33 = some (.imul, 1) := by decide +kernel
theorem i_X9_readsPlayer_34 : xi_dc cX9_readsPlayer 34 = some (.iadd, 1) := by decide +kernel
theorem i_X9_readsPlayer_35 : xi_dc cX9_readsPlayer 35 = some (.istore_n 3, 1) := by decide +kernel
theorem i_X9_readsPlayer_36 : xi_dc cX9_readsPlayer 36 = some (.iload_n 2, 1) := by decide +kernel
theorem i_X9_readsPlayer_37 : xi_dc cX9_readsPlayer 37 = some (.bipush (-9), 2) := by decide +kernel
theorem i_X9_readsPlayer_39 : xi_dc cX9_readsPlayer 39 = some (.if_icmp .eq 14, 3) := by decide +kernel
theorem t_X9_readsPlayer_39 : ((39 : Nat) : Int) + 14 = ((53 : Nat) : Int) := by decide +kernel
theorem i_X9_readsPlayer_42 : xi_dc cX9_readsPlayer 42 = some (.aload_n 0, 1) := by decide +kernel
theorem i_X9_readsPlayer_43 : xi_dc cX9_readsPlayer 43 = some (.getfield 28, 3) := by decide +kernel
theorem i_X9_readsPlayer_46 : xi_dc cX9_readsPlayer 46 = some (.iconst 1, 1) := by decide +kernel
theorem i_X9_readsPlayer_47 : xi_dc cX9_readsPlayer 47 = some (.iaload, 1) := by decide +kernel
theorem i_X9_readsPlayer_48 : xi_dc cX9_readsPlayer 48 = some (.bipush 6, 2) := by decide +kernel
theorem i_X9_readsPlayer_50 : xi_dc cX9_readsPlayer 50 = some (.if_icmp .ne 11, 3) := by decide +kernel
theorem t_X9_readsPlayer_50 : ((50 : Nat) : Int) + 11 = ((61 : Nat) : Int) := by decide +kernel
theorem i_X9_readsPlayer_53 : xi_dc cX9_readsPlayer 53 = some (.aload_n 0, 1) := by decide +kernel
theorem i_X9_readsPlayer_54 : xi_dc cX9_readsPlayer 54 = some (.aload_n 0, 1) := by decide +kernel
theorem i_X9_readsPlayer_55 : xi_dc cX9_readsPlayer 55 = some (.getfield 84, 3) := by decide +kernel
theorem i_X9_readsPlayer_58 : xi_dc cX9_readsPlayer 58 = some (.invokevirtual 93, 3) := by decide +kernel
theorem i_X9_readsPlayer_61 : xi_dc cX9_readsPlayer 61 = some (.aload_n 0, 1) := by decide +kernel
theorem i_X9_readsPlayer_62 : xi_dc cX9_readsPlayer 62 = some (.dup, 1) := by decide +kernel
theorem i_X9_readsPlayer_63 : xi_dc cX9_readsPlayer 63 = some (.getfield 84, 3) := by decide +kernel
theorem i_X9_readsPlayer_66 : xi_dc cX9_readsPlayer 66 = some (.iconst 1, 1) := by decide +kernel
theorem i_X9_readsPlayer_67 : xi_dc cX9_readsPlayer 67 = some (.iadd, 1) := by decide +kernel
theorem i_X9_readsPlayer_68 : xi_dc cX9_readsPlayer 68 = some (.putfield 84, 3) := by decide +kernel
theorem i_X9_readsPlayer_71 : xi_dc cX9_readsPlayer 71 = some (.aload_n 0, 1) := by decide +kernel
theorem i_X9_readsPlayer_72 : xi_dc cX9_readsPlayer 72 = some (.iload_n 1, 1) := by decide +kernel
theorem i_X9_readsPlayer_73 : xi_dc cX9_readsPlayer 73 = some (.iconst 0, 1) := by decide +kernel
theorem i_X9_readsPlayer_74 : xi_dc cX9_readsPlayer 74 = some (.iconst 1, 1) := by decide +kernel
theorem i_X9_readsPlayer_75 : xi_dc cX9_readsPlayer 75 = some (.invokevirtual 97, 3) := by decide +kernel
theorem i_X9_readsPlayer_78 : xi_dc cX9_readsPlayer 78 = some (.istore 4, 2) := by decide +kernel
theorem i_X9_readsPlayer_80 : xi_dc cX9_readsPlayer 80 = some (.aload_n 0, 1) := by decide +kernel
theorem i_X9_readsPlayer_81 : xi_dc cX9_readsPlayer 81 = some (.iload_n 1, 1) := by decide +kernel
theorem i_X9_readsPlayer_82 : xi_dc cX9_readsPlayer 82 = some (.iconst 0, 1) := by decide +kernel
theorem i_X9_readsPlayer_83 : xi_dc cX9_readsPlayer 83 = some (.invokevirtual 104, 3) := by decide +kernel
theorem i_X9_readsPlayer_86 : xi_dc cX9_readsPlayer 86 = some (.istore 5, 2) := by decide +kernel
theorem i_X9_readsPlayer_88 : xi_dc cX9_readsPlayer 88 = some (.aload_n 0, 1) := by decide +kernel
theorem i_X9_readsPlayer_89 : xi_dc cX9_readsPlayer 89 = some (.iload_n 1, 1) := by decide +kernel
theorem i_X9_readsPlayer_90 : xi_dc cX9_readsPlayer 90 = some (.iconst 1, 1) := by decide +kernel
theorem i_X9_readsPlayer_91 : xi_dc cX9_readsPlayer 91 = some (.bipush 9, 2) := by decide +kernel
theorem i_X9_readsPlayer_93 : xi_dc cX9_readsPlayer 93 = some (.invokevirtual 97, 3) := by decide +kernel
theorem i_X9_readsPlayer_96 : xi_dc cX9_readsPlayer 96 = some (.istore 6, 2) := by decide +kernel
theorem i_X9_readsPlayer_98 : xi_dc cX9_readsPlayer 98 = some (.aload_n 0, 1) := by decide +kernel
theorem i_X9_readsPlayer_99 : xi_dc cX9_readsPlayer 99 = some (.getfield 87, 3) := by decide +kernel
theorem i_X9_readsPlayer_102 : xi_dc cX9_readsPlayer 102 = some (.bipush (-9), 2) := by decide +kernel
theorem i_X9_readsPlayer_104 : xi_dc cX9_readsPlayer 104 = some (.if_icmp .ne 50, 3) := by decide +kernel
theorem t_X9_readsPlayer_104 : ((104 : Nat) : Int) + 50 = ((154 : Nat) : Int) := by decide +kernel
theorem i_X9_readsPlayer_107 : xi_dc cX9_readsPlayer 107 = some (.aload_n 0, 1) := by decide +kernel
theorem i_X9_readsPlayer_108 : xi_dc cX9_readsPlayer 108 = some (.getfield 28, 3) := by decide +kernel
theorem i_X9_readsPlayer_111 : xi_dc cX9_readsPlayer 111 = some (.iload_n 3, 1) := by decide +kernel
theorem i_X9_readsPlayer_112 : xi_dc cX9_readsPlayer 112 = some (.iload_n 2, 1) := by decide +kernel
theorem i_X9_readsPlayer_113 : xi_dc cX9_readsPlayer 113 = some (.iastore, 1) := by decide +kernel
theorem i_X9_readsPlayer_114 : xi_dc cX9_readsPlayer 114 = some (.aload_n 0, 1) := by decide +kernel
theorem i_X9_readsPlayer_115 : xi_dc cX9_readsPlayer 115 = some (.getfield 28, 3) := by decide +kernel
theorem i_X9_readsPlayer_118 : xi_dc cX9_readsPlayer 118 = some (.iload_n 3, 1) := by decide +kernel
theorem i_X9_readsPlayer_119 : xi_dc cX9_readsPlayer 119 = some (.iconst 1, 1) := by decide +kernel
theorem i_X9_readsPlayer_120 : xi_dc cX9_readsPlayer 120 = some (.iadd, 1) := by decide +kernel
theorem i_X9_readsPlayer_121 : xi_dc cX9_readsPlayer 121 = some (.iload 4, 2) := by decide +kernel
theorem i_X9_readsPlayer_123 : xi_dc cX9_readsPlayer 123 = some (.iastore, 1) := by decide +kernel
theorem i_X9_readsPlayer_124 : xi_dc cX9_readsPlayer 124 = some (.aload_n 0, 1) := by decide +kernel
theorem i_X9_readsPlayer_125 : xi_dc cX9_readsPlayer 125 = some (.getfield 28, 3) := by decide +kernel
theorem i_X9_readsPlayer_128 : xi_dc cX9_readsPlayer 128 = some (.iload_n 3, 1) := by decide +kernel
theorem i_X9_readsPlayer_129 : xi_dc cX9_readsPlayer 129 = some (.iconst 2, 1) := by decide +kernel
theorem i_X9_readsPlayer_130 : xi_dc cX9_readsPlayer 130 = some (.iadd, 1) := by decide +kernel
theorem i_X9_readsPlayer_131 : xi_dc cX9_readsPlayer 131 = some (.iload 5, 2) := by decide +kernel
theorem i_X9_readsPlayer_133 : xi_dc cX9_readsPlayer 133 = some (.iastore, 1) := by decide +kernel
theorem i_X9_readsPlayer_134 : xi_dc cX9_readsPlayer 134 = some (.aload_n 0, 1) := by decide +kernel
theorem i_X9_readsPlayer_135 : xi_dc cX9_readsPlayer 135 = some (.getfield 28, 3) := by decide +kernel
theorem i_X9_readsPlayer_138 : xi_dc cX9_readsPlayer 138 = some (.iload_n 3, 1) := by decide +kernel
theorem i_X9_readsPlayer_139 : xi_dc cX9_readsPlayer 139 = some (.iconst 3, 1) := by decide +kernel
theorem i_X9_readsPlayer_140 : xi_dc cX9_readsPlayer 140 = some (.iadd, 1) := by decide +kernel
theorem i_X9_readsPlayer_141 : xi_dc cX9_readsPlayer 141 = some (.iload 6, 2) := by decide +kernel
theorem i_X9_readsPlayer_143 : xi_dc cX9_readsPlayer 143 = some (.iastore, 1) := by decide +kernel
theorem i_X9_readsPlayer_144 : xi_dc cX9_readsPlayer 144 = some (.aload_n 0, 1) := by decide +kernel
theorem i_X9_readsPlayer_145 : xi_dc cX9_readsPlayer 145 = some (.getfield 28, 3) := by decide +kernel
theorem i_X9_readsPlayer_148 : xi_dc cX9_readsPlayer 148 = some (.iconst 1, 1) := by decide +kernel
theorem i_X9_readsPlayer_149 : xi_dc cX9_readsPlayer 149 = some (.dup2, 1) := by decide +kernel
theorem i_X9_readsPlayer_150 : xi_dc cX9_readsPlayer 150 = some (.iaload, 1) := by decide +kernel
theorem i_X9_readsPlayer_151 : xi_dc cX9_readsPlayer 151 = some (.iconst 1, 1) := by decide +kernel
theorem i_X9_readsPlayer_152 : xi_dc cX9_readsPlayer 152 = some (.iadd, 1) := by decide +kernel
theorem i_X9_readsPlayer_153 : xi_dc cX9_readsPlayer 153 = some (.iastore, 1) := by decide +kernel
theorem i_X9_readsPlayer_154 : xi_dc cX9_readsPlayer 154 = some (.return_, 1) := by decide +kernel
def P_X9_readsPlayer (S : xi_S) : xi_P := (xi_dc cX9_readsPlayer, xi_tab xfl_X9, xi_tab xki_X9, xi_tab xkl_X9, xi_tab xcs_X9, xi_tab xcv_X9, xi_calls [(101, xi_wS 1 (F_X9_kindOf S))], xi_calls [(90, xi_wV S 11 1 (F_X9_look S)), (93, xi_wV S 11 1 (F_X9_fails S)), (97, xi_wV S 11 3 (F_X9_figure S)), (104, xi_wV S 11 2 (F_X9_place S))], 0)
theorem cc_X9_readsPlayer_101 (S : xi_S) (a0 : Int32) (m : xi_M) : (P_X9_readsPlayer S).2.2.2.2.2.2.1 101 [.int a0] m = (E_X9_kindOf S a0 m) := by
  show xi_calls [(101, xi_wS 1 (F_X9_kindOf S))] 101 [.int a0] m = _
  refine Eq.trans (b := xi_wS 1 (F_X9_kindOf S) [.int a0] m) (xi_calls_hit rfl) ?_
  exact xi_wS_eq rfl
theorem cc_X9_readsPlayer_90 (S : xi_S) (a0 : Nat) (a1 : Int32) (m : xi_M) : (P_X9_readsPlayer S).2.2.2.2.2.2.2.1 90 [.ref a0, .int a1] m = (if S.1 a0 = 11 then E_X9_look S a0 a1 m else none) := by
  show xi_calls [(90, xi_wV S 11 1 (F_X9_look S)), (93, xi_wV S 11 1 (F_X9_fails S)), (97, xi_wV S 11 3 (F_X9_figure S)), (104, xi_wV S 11 2 (F_X9_place S))] 90 [.ref a0, .int a1] m = _
  refine Eq.trans (b := xi_wV S 11 1 (F_X9_look S) [.ref a0, .int a1] m) (xi_calls_hit rfl) ?_
  exact xi_wV_eq rfl
theorem cc_X9_readsPlayer_93 (S : xi_S) (a0 : Nat) (a1 : Int32) (m : xi_M) : (P_X9_readsPlayer S).2.2.2.2.2.2.2.1 93 [.ref a0, .int a1] m = (if S.1 a0 = 11 then E_X9_fails S a0 a1 m else none) := by
  show xi_calls [(90, xi_wV S 11 1 (F_X9_look S)), (93, xi_wV S 11 1 (F_X9_fails S)), (97, xi_wV S 11 3 (F_X9_figure S)), (104, xi_wV S 11 2 (F_X9_place S))] 93 [.ref a0, .int a1] m = _
  refine Eq.trans (b := xi_calls [(93, xi_wV S 11 1 (F_X9_fails S)), (97, xi_wV S 11 3 (F_X9_figure S)), (104, xi_wV S 11 2 (F_X9_place S))] 93 [.ref a0, .int a1] m) (xi_calls_miss rfl) ?_
  refine Eq.trans (b := xi_wV S 11 1 (F_X9_fails S) [.ref a0, .int a1] m) (xi_calls_hit rfl) ?_
  exact xi_wV_eq rfl
theorem cc_X9_readsPlayer_97 (S : xi_S) (a0 : Nat) (a1 : Int32) (a2 : Int32) (a3 : Int32) (m : xi_M) : (P_X9_readsPlayer S).2.2.2.2.2.2.2.1 97 [.ref a0, .int a1, .int a2, .int a3] m = (if S.1 a0 = 11 then E_X9_figure S a0 a1 a2 a3 m else none) := by
  show xi_calls [(90, xi_wV S 11 1 (F_X9_look S)), (93, xi_wV S 11 1 (F_X9_fails S)), (97, xi_wV S 11 3 (F_X9_figure S)), (104, xi_wV S 11 2 (F_X9_place S))] 97 [.ref a0, .int a1, .int a2, .int a3] m = _
  refine Eq.trans (b := xi_calls [(93, xi_wV S 11 1 (F_X9_fails S)), (97, xi_wV S 11 3 (F_X9_figure S)), (104, xi_wV S 11 2 (F_X9_place S))] 97 [.ref a0, .int a1, .int a2, .int a3] m) (xi_calls_miss rfl) ?_
  refine Eq.trans (b := xi_calls [(97, xi_wV S 11 3 (F_X9_figure S)), (104, xi_wV S 11 2 (F_X9_place S))] 97 [.ref a0, .int a1, .int a2, .int a3] m) (xi_calls_miss rfl) ?_
  refine Eq.trans (b := xi_wV S 11 3 (F_X9_figure S) [.ref a0, .int a1, .int a2, .int a3] m) (xi_calls_hit rfl) ?_
  exact xi_wV_eq rfl
theorem cc_X9_readsPlayer_104 (S : xi_S) (a0 : Nat) (a1 : Int32) (a2 : Int32) (m : xi_M) : (P_X9_readsPlayer S).2.2.2.2.2.2.2.1 104 [.ref a0, .int a1, .int a2] m = (if S.1 a0 = 11 then E_X9_place S a0 a1 a2 m else none) := by
  show xi_calls [(90, xi_wV S 11 1 (F_X9_look S)), (93, xi_wV S 11 1 (F_X9_fails S)), (97, xi_wV S 11 3 (F_X9_figure S)), (104, xi_wV S 11 2 (F_X9_place S))] 104 [.ref a0, .int a1, .int a2] m = _
  refine Eq.trans (b := xi_calls [(93, xi_wV S 11 1 (F_X9_fails S)), (97, xi_wV S 11 3 (F_X9_figure S)), (104, xi_wV S 11 2 (F_X9_place S))] 104 [.ref a0, .int a1, .int a2] m) (xi_calls_miss rfl) ?_
  refine Eq.trans (b := xi_calls [(97, xi_wV S 11 3 (F_X9_figure S)), (104, xi_wV S 11 2 (F_X9_place S))] 104 [.ref a0, .int a1, .int a2] m) (xi_calls_miss rfl) ?_
  refine Eq.trans (b := xi_calls [(104, xi_wV S 11 2 (F_X9_place S))] 104 [.ref a0, .int a1, .int a2] m) (xi_calls_miss rfl) ?_
  refine Eq.trans (b := xi_wV S 11 2 (F_X9_place S) [.ref a0, .int a1, .int a2] m) (xi_calls_hit rfl) ?_
  exact xi_wV_eq rfl
def E_X9_readsPlayer (S : xi_S) (v0 : Nat) (v1 : Int32) (m : xi_M) : Option xi_R :=
  xi_bI (if S.1 v0 = 11 then E_X9_look S v0 v1 m else none) fun x2 m1 =>
  xi_bI (E_X9_kindOf S x2 m1) fun x4 m3 =>
  if S.1 v0 = 11 then (S.2.2 v0 6).bind fun b6 =>
    if S.1 b6 = 0 ∧ ¬ ((Int32.ofInt 1) < 0 ∨ S.2.1 b6 ≤ Int32.toNatClampNeg (Int32.ofInt 1)) then
      if ((Int8.ofInt 6).toInt32) ≤ (m3.1 b6 (Int32.toNatClampNeg (Int32.ofInt 1))) then
        if x4 = ((Int8.ofInt (-9)).toInt32) then
          if S.1 v0 = 11 then
            xi_bV (if S.1 v0 = 11 then E_X9_fails S v0 (m3.1 v0 18) m3 else none) fun m9 =>
            if S.1 v0 = 11 then
              if S.1 v0 = 11 then
                xi_bI (if S.1 v0 = 11 then E_X9_figure S v0 v1 (Int32.ofInt 0) (Int32.ofInt 1) (xi_wI m9 v0 18 ((m9.1 v0 18) + (Int32.ofInt 1))) else none) fun x13 m12 =>
                xi_bI (if S.1 v0 = 11 then E_X9_place S v0 v1 (Int32.ofInt 0) m12 else none) fun x15 m14 =>
                xi_bI (if S.1 v0 = 11 then E_X9_figure S v0 v1 (Int32.ofInt 1) ((Int8.ofInt 9).toInt32) m14 else none) fun x17 m16 =>
                if S.1 v0 = 11 then
                  if (m16.1 v0 19) = ((Int8.ofInt (-9)).toInt32) then
                    if S.1 v0 = 11 then (S.2.2 v0 6).bind fun b20 =>
                      if S.1 b20 = 0 ∧ ¬ ((((Int8.ofInt 10).toInt32) + ((Int32.ofInt 4) * (Int32.ofInt 0))) < 0 ∨ S.2.1 b20 ≤ Int32.toNatClampNeg (((Int8.ofInt 10).toInt32) + ((Int32.ofInt 4) * (Int32.ofInt 0)))) then
                        if S.1 v0 = 11 then (S.2.2 v0 6).bind fun b23 =>
                          if S.1 b23 = 0 ∧ ¬ (((((Int8.ofInt 10).toInt32) + ((Int32.ofInt 4) * (Int32.ofInt 0))) + (Int32.ofInt 1)) < 0 ∨ S.2.1 b23 ≤ Int32.toNatClampNeg ((((Int8.ofInt 10).toInt32) + ((Int32.ofInt 4) * (Int32.ofInt 0))) + (Int32.ofInt 1))) then
                            if S.1 v0 = 11 then (S.2.2 v0 6).bind fun b26 =>
                              if S.1 b26 = 0 ∧ ¬ (((((Int8.ofInt 10).toInt32) + ((Int32.ofInt 4) * (Int32.ofInt 0))) + (Int32.ofInt 2)) < 0 ∨ S.2.1 b26 ≤ Int32.toNatClampNeg ((((Int8.ofInt 10).toInt32) + ((Int32.ofInt 4) * (Int32.ofInt 0))) + (Int32.ofInt 2))) then
                                if S.1 v0 = 11 then (S.2.2 v0 6).bind fun b29 =>
                                  if S.1 b29 = 0 ∧ ¬ (((((Int8.ofInt 10).toInt32) + ((Int32.ofInt 4) * (Int32.ofInt 0))) + (Int32.ofInt 3)) < 0 ∨ S.2.1 b29 ≤ Int32.toNatClampNeg ((((Int8.ofInt 10).toInt32) + ((Int32.ofInt 4) * (Int32.ofInt 0))) + (Int32.ofInt 3))) then
                                    if S.1 v0 = 11 then (S.2.2 v0 6).bind fun b32 =>
                                      if S.1 b32 = 0 ∧ ¬ ((Int32.ofInt 1) < 0 ∨ S.2.1 b32 ≤ Int32.toNatClampNeg (Int32.ofInt 1)) then
                                        if S.1 b32 = 0 ∧ ¬ ((Int32.ofInt 1) < 0 ∨ S.2.1 b32 ≤ Int32.toNatClampNeg (Int32.ofInt 1)) then
                                          some (none, (xi_wI (xi_wI (xi_wI (xi_wI (xi_wI m16 b20 (Int32.toNatClampNeg (((Int8.ofInt 10).toInt32) + ((Int32.ofInt 4) * (Int32.ofInt 0)))) x4) b23 (Int32.toNatClampNeg ((((Int8.ofInt 10).toInt32) + ((Int32.ofInt 4) * (Int32.ofInt 0))) + (Int32.ofInt 1))) x13) b26 (Int32.toNatClampNeg ((((Int8.ofInt 10).toInt32) + ((Int32.ofInt 4) * (Int32.ofInt 0))) + (Int32.ofInt 2))) x15) b29 (Int32.toNatClampNeg ((((Int8.ofInt 10).toInt32) + ((Int32.ofInt 4) * (Int32.ofInt 0))) + (Int32.ofInt 3))) x17) b32 (Int32.toNatClampNeg (Int32.ofInt 1)) (((xi_wI (xi_wI (xi_wI (xi_wI m16 b20 (Int32.toNatClampNeg (((Int8.ofInt 10).toInt32) + ((Int32.ofInt 4) * (Int32.ofInt 0)))) x4) b23 (Int32.toNatClampNeg ((((Int8.ofInt 10).toInt32) + ((Int32.ofInt 4) * (Int32.ofInt 0))) + (Int32.ofInt 1))) x13) b26 (Int32.toNatClampNeg ((((Int8.ofInt 10).toInt32) + ((Int32.ofInt 4) * (Int32.ofInt 0))) + (Int32.ofInt 2))) x15) b29 (Int32.toNatClampNeg ((((Int8.ofInt 10).toInt32) + ((Int32.ofInt 4) * (Int32.ofInt 0))) + (Int32.ofInt 3))) x17).1 b32 (Int32.toNatClampNeg (Int32.ofInt 1))) + (Int32.ofInt 1))))
                                        else none
                                      else none
                                    else none
                                  else none
                                else none
                              else none
                            else none
                          else none
                        else none
                      else none
                    else none
                  else
                    some (none, m16)
                else none
              else none
            else none
          else none
        else
          if S.1 v0 = 11 then (S.2.2 v0 6).bind fun b37 =>
            if S.1 b37 = 0 ∧ ¬ ((Int32.ofInt 1) < 0 ∨ S.2.1 b37 ≤ Int32.toNatClampNeg (Int32.ofInt 1)) then
              if (m3.1 b37 (Int32.toNatClampNeg (Int32.ofInt 1))) = ((Int8.ofInt 6).toInt32) then
                if S.1 v0 = 11 then
                  xi_bV (if S.1 v0 = 11 then E_X9_fails S v0 (m3.1 v0 18) m3 else none) fun m66 =>
                  if S.1 v0 = 11 then
                    if S.1 v0 = 11 then
                      xi_bI (if S.1 v0 = 11 then E_X9_figure S v0 v1 (Int32.ofInt 0) (Int32.ofInt 1) (xi_wI m66 v0 18 ((m66.1 v0 18) + (Int32.ofInt 1))) else none) fun x70 m69 =>
                      xi_bI (if S.1 v0 = 11 then E_X9_place S v0 v1 (Int32.ofInt 0) m69 else none) fun x72 m71 =>
                      xi_bI (if S.1 v0 = 11 then E_X9_figure S v0 v1 (Int32.ofInt 1) ((Int8.ofInt 9).toInt32) m71 else none) fun x74 m73 =>
                      if S.1 v0 = 11 then
                        if (m73.1 v0 19) = ((Int8.ofInt (-9)).toInt32) then
                          if S.1 v0 = 11 then (S.2.2 v0 6).bind fun b77 =>
                            if S.1 b77 = 0 ∧ ¬ ((((Int8.ofInt 10).toInt32) + ((Int32.ofInt 4) * (Int32.ofInt 0))) < 0 ∨ S.2.1 b77 ≤ Int32.toNatClampNeg (((Int8.ofInt 10).toInt32) + ((Int32.ofInt 4) * (Int32.ofInt 0)))) then
                              if S.1 v0 = 11 then (S.2.2 v0 6).bind fun b80 =>
                                if S.1 b80 = 0 ∧ ¬ (((((Int8.ofInt 10).toInt32) + ((Int32.ofInt 4) * (Int32.ofInt 0))) + (Int32.ofInt 1)) < 0 ∨ S.2.1 b80 ≤ Int32.toNatClampNeg ((((Int8.ofInt 10).toInt32) + ((Int32.ofInt 4) * (Int32.ofInt 0))) + (Int32.ofInt 1))) then
                                  if S.1 v0 = 11 then (S.2.2 v0 6).bind fun b83 =>
                                    if S.1 b83 = 0 ∧ ¬ (((((Int8.ofInt 10).toInt32) + ((Int32.ofInt 4) * (Int32.ofInt 0))) + (Int32.ofInt 2)) < 0 ∨ S.2.1 b83 ≤ Int32.toNatClampNeg ((((Int8.ofInt 10).toInt32) + ((Int32.ofInt 4) * (Int32.ofInt 0))) + (Int32.ofInt 2))) then
                                      if S.1 v0 = 11 then (S.2.2 v0 6).bind fun b86 =>
                                        if S.1 b86 = 0 ∧ ¬ (((((Int8.ofInt 10).toInt32) + ((Int32.ofInt 4) * (Int32.ofInt 0))) + (Int32.ofInt 3)) < 0 ∨ S.2.1 b86 ≤ Int32.toNatClampNeg ((((Int8.ofInt 10).toInt32) + ((Int32.ofInt 4) * (Int32.ofInt 0))) + (Int32.ofInt 3))) then
                                          if S.1 v0 = 11 then (S.2.2 v0 6).bind fun b89 =>
                                            if S.1 b89 = 0 ∧ ¬ ((Int32.ofInt 1) < 0 ∨ S.2.1 b89 ≤ Int32.toNatClampNeg (Int32.ofInt 1)) then
                                              if S.1 b89 = 0 ∧ ¬ ((Int32.ofInt 1) < 0 ∨ S.2.1 b89 ≤ Int32.toNatClampNeg (Int32.ofInt 1)) then
                                                some (none, (xi_wI (xi_wI (xi_wI (xi_wI (xi_wI m73 b77 (Int32.toNatClampNeg (((Int8.ofInt 10).toInt32) + ((Int32.ofInt 4) * (Int32.ofInt 0)))) x4) b80 (Int32.toNatClampNeg ((((Int8.ofInt 10).toInt32) + ((Int32.ofInt 4) * (Int32.ofInt 0))) + (Int32.ofInt 1))) x70) b83 (Int32.toNatClampNeg ((((Int8.ofInt 10).toInt32) + ((Int32.ofInt 4) * (Int32.ofInt 0))) + (Int32.ofInt 2))) x72) b86 (Int32.toNatClampNeg ((((Int8.ofInt 10).toInt32) + ((Int32.ofInt 4) * (Int32.ofInt 0))) + (Int32.ofInt 3))) x74) b89 (Int32.toNatClampNeg (Int32.ofInt 1)) (((xi_wI (xi_wI (xi_wI (xi_wI m73 b77 (Int32.toNatClampNeg (((Int8.ofInt 10).toInt32) + ((Int32.ofInt 4) * (Int32.ofInt 0)))) x4) b80 (Int32.toNatClampNeg ((((Int8.ofInt 10).toInt32) + ((Int32.ofInt 4) * (Int32.ofInt 0))) + (Int32.ofInt 1))) x70) b83 (Int32.toNatClampNeg ((((Int8.ofInt 10).toInt32) + ((Int32.ofInt 4) * (Int32.ofInt 0))) + (Int32.ofInt 2))) x72) b86 (Int32.toNatClampNeg ((((Int8.ofInt 10).toInt32) + ((Int32.ofInt 4) * (Int32.ofInt 0))) + (Int32.ofInt 3))) x74).1 b89 (Int32.toNatClampNeg (Int32.ofInt 1))) + (Int32.ofInt 1))))
                                              else none
                                            else none
                                          else none
                                        else none
                                      else none
                                    else none
                                  else none
                                else none
                              else none
                            else none
                          else none
                        else
                          some (none, m73)
                      else none
                    else none
                  else none
                else none
              else
                if S.1 v0 = 11 then
                  if S.1 v0 = 11 then
                    xi_bI (if S.1 v0 = 11 then E_X9_figure S v0 v1 (Int32.ofInt 0) (Int32.ofInt 1) (xi_wI m3 v0 18 ((m3.1 v0 18) + (Int32.ofInt 1))) else none) fun x42 m41 =>
                    xi_bI (if S.1 v0 = 11 then E_X9_place S v0 v1 (Int32.ofInt 0) m41 else none) fun x44 m43 =>
                    xi_bI (if S.1 v0 = 11 then E_X9_figure S v0 v1 (Int32.ofInt 1) ((Int8.ofInt 9).toInt32) m43 else none) fun x46 m45 =>
                    if S.1 v0 = 11 then
                      if (m45.1 v0 19) = ((Int8.ofInt (-9)).toInt32) then
                        if S.1 v0 = 11 then (S.2.2 v0 6).bind fun b49 =>
                          if S.1 b49 = 0 ∧ ¬ ((((Int8.ofInt 10).toInt32) + ((Int32.ofInt 4) * (Int32.ofInt 0))) < 0 ∨ S.2.1 b49 ≤ Int32.toNatClampNeg (((Int8.ofInt 10).toInt32) + ((Int32.ofInt 4) * (Int32.ofInt 0)))) then
                            if S.1 v0 = 11 then (S.2.2 v0 6).bind fun b52 =>
                              if S.1 b52 = 0 ∧ ¬ (((((Int8.ofInt 10).toInt32) + ((Int32.ofInt 4) * (Int32.ofInt 0))) + (Int32.ofInt 1)) < 0 ∨ S.2.1 b52 ≤ Int32.toNatClampNeg ((((Int8.ofInt 10).toInt32) + ((Int32.ofInt 4) * (Int32.ofInt 0))) + (Int32.ofInt 1))) then
                                if S.1 v0 = 11 then (S.2.2 v0 6).bind fun b55 =>
                                  if S.1 b55 = 0 ∧ ¬ (((((Int8.ofInt 10).toInt32) + ((Int32.ofInt 4) * (Int32.ofInt 0))) + (Int32.ofInt 2)) < 0 ∨ S.2.1 b55 ≤ Int32.toNatClampNeg ((((Int8.ofInt 10).toInt32) + ((Int32.ofInt 4) * (Int32.ofInt 0))) + (Int32.ofInt 2))) then
                                    if S.1 v0 = 11 then (S.2.2 v0 6).bind fun b58 =>
                                      if S.1 b58 = 0 ∧ ¬ (((((Int8.ofInt 10).toInt32) + ((Int32.ofInt 4) * (Int32.ofInt 0))) + (Int32.ofInt 3)) < 0 ∨ S.2.1 b58 ≤ Int32.toNatClampNeg ((((Int8.ofInt 10).toInt32) + ((Int32.ofInt 4) * (Int32.ofInt 0))) + (Int32.ofInt 3))) then
                                        if S.1 v0 = 11 then (S.2.2 v0 6).bind fun b61 =>
                                          if S.1 b61 = 0 ∧ ¬ ((Int32.ofInt 1) < 0 ∨ S.2.1 b61 ≤ Int32.toNatClampNeg (Int32.ofInt 1)) then
                                            if S.1 b61 = 0 ∧ ¬ ((Int32.ofInt 1) < 0 ∨ S.2.1 b61 ≤ Int32.toNatClampNeg (Int32.ofInt 1)) then
                                              some (none, (xi_wI (xi_wI (xi_wI (xi_wI (xi_wI m45 b49 (Int32.toNatClampNeg (((Int8.ofInt 10).toInt32) + ((Int32.ofInt 4) * (Int32.ofInt 0)))) x4) b52 (Int32.toNatClampNeg ((((Int8.ofInt 10).toInt32) + ((Int32.ofInt 4) * (Int32.ofInt 0))) + (Int32.ofInt 1))) x42) b55 (Int32.toNatClampNeg ((((Int8.ofInt 10).toInt32) + ((Int32.ofInt 4) * (Int32.ofInt 0))) + (Int32.ofInt 2))) x44) b58 (Int32.toNatClampNeg ((((Int8.ofInt 10).toInt32) + ((Int32.ofInt 4) * (Int32.ofInt 0))) + (Int32.ofInt 3))) x46) b61 (Int32.toNatClampNeg (Int32.ofInt 1)) (((xi_wI (xi_wI (xi_wI (xi_wI m45 b49 (Int32.toNatClampNeg (((Int8.ofInt 10).toInt32) + ((Int32.ofInt 4) * (Int32.ofInt 0)))) x4) b52 (Int32.toNatClampNeg ((((Int8.ofInt 10).toInt32) + ((Int32.ofInt 4) * (Int32.ofInt 0))) + (Int32.ofInt 1))) x42) b55 (Int32.toNatClampNeg ((((Int8.ofInt 10).toInt32) + ((Int32.ofInt 4) * (Int32.ofInt 0))) + (Int32.ofInt 2))) x44) b58 (Int32.toNatClampNeg ((((Int8.ofInt 10).toInt32) + ((Int32.ofInt 4) * (Int32.ofInt 0))) + (Int32.ofInt 3))) x46).1 b61 (Int32.toNatClampNeg (Int32.ofInt 1))) + (Int32.ofInt 1))))
                                            else none
                                          else none
                                        else none
                                      else none
                                    else none
                                  else none
                                else none
                              else none
                            else none
                          else none
                        else none
                      else
                        some (none, m45)
                    else none
                  else none
                else none
            else none
          else none
      else
        if S.1 v0 = 11 then (S.2.2 v0 6).bind fun b96 =>
          if S.1 b96 = 0 ∧ ¬ ((Int32.ofInt 1) < 0 ∨ S.2.1 b96 ≤ Int32.toNatClampNeg (Int32.ofInt 1)) then
            if x4 = ((Int8.ofInt (-9)).toInt32) then
              if S.1 v0 = 11 then
                xi_bV (if S.1 v0 = 11 then E_X9_fails S v0 (m3.1 v0 18) m3 else none) fun m99 =>
                if S.1 v0 = 11 then
                  if S.1 v0 = 11 then
                    xi_bI (if S.1 v0 = 11 then E_X9_figure S v0 v1 (Int32.ofInt 0) (Int32.ofInt 1) (xi_wI m99 v0 18 ((m99.1 v0 18) + (Int32.ofInt 1))) else none) fun x103 m102 =>
                    xi_bI (if S.1 v0 = 11 then E_X9_place S v0 v1 (Int32.ofInt 0) m102 else none) fun x105 m104 =>
                    xi_bI (if S.1 v0 = 11 then E_X9_figure S v0 v1 (Int32.ofInt 1) ((Int8.ofInt 9).toInt32) m104 else none) fun x107 m106 =>
                    if S.1 v0 = 11 then
                      if (m106.1 v0 19) = ((Int8.ofInt (-9)).toInt32) then
                        if S.1 v0 = 11 then (S.2.2 v0 6).bind fun b110 =>
                          if S.1 b110 = 0 ∧ ¬ ((((Int8.ofInt 10).toInt32) + ((Int32.ofInt 4) * (m3.1 b96 (Int32.toNatClampNeg (Int32.ofInt 1))))) < 0 ∨ S.2.1 b110 ≤ Int32.toNatClampNeg (((Int8.ofInt 10).toInt32) + ((Int32.ofInt 4) * (m3.1 b96 (Int32.toNatClampNeg (Int32.ofInt 1)))))) then
                            if S.1 v0 = 11 then (S.2.2 v0 6).bind fun b113 =>
                              if S.1 b113 = 0 ∧ ¬ (((((Int8.ofInt 10).toInt32) + ((Int32.ofInt 4) * (m3.1 b96 (Int32.toNatClampNeg (Int32.ofInt 1))))) + (Int32.ofInt 1)) < 0 ∨ S.2.1 b113 ≤ Int32.toNatClampNeg ((((Int8.ofInt 10).toInt32) + ((Int32.ofInt 4) * (m3.1 b96 (Int32.toNatClampNeg (Int32.ofInt 1))))) + (Int32.ofInt 1))) then
                                if S.1 v0 = 11 then (S.2.2 v0 6).bind fun b116 =>
                                  if S.1 b116 = 0 ∧ ¬ (((((Int8.ofInt 10).toInt32) + ((Int32.ofInt 4) * (m3.1 b96 (Int32.toNatClampNeg (Int32.ofInt 1))))) + (Int32.ofInt 2)) < 0 ∨ S.2.1 b116 ≤ Int32.toNatClampNeg ((((Int8.ofInt 10).toInt32) + ((Int32.ofInt 4) * (m3.1 b96 (Int32.toNatClampNeg (Int32.ofInt 1))))) + (Int32.ofInt 2))) then
                                    if S.1 v0 = 11 then (S.2.2 v0 6).bind fun b119 =>
                                      if S.1 b119 = 0 ∧ ¬ (((((Int8.ofInt 10).toInt32) + ((Int32.ofInt 4) * (m3.1 b96 (Int32.toNatClampNeg (Int32.ofInt 1))))) + (Int32.ofInt 3)) < 0 ∨ S.2.1 b119 ≤ Int32.toNatClampNeg ((((Int8.ofInt 10).toInt32) + ((Int32.ofInt 4) * (m3.1 b96 (Int32.toNatClampNeg (Int32.ofInt 1))))) + (Int32.ofInt 3))) then
                                        if S.1 v0 = 11 then (S.2.2 v0 6).bind fun b122 =>
                                          if S.1 b122 = 0 ∧ ¬ ((Int32.ofInt 1) < 0 ∨ S.2.1 b122 ≤ Int32.toNatClampNeg (Int32.ofInt 1)) then
                                            if S.1 b122 = 0 ∧ ¬ ((Int32.ofInt 1) < 0 ∨ S.2.1 b122 ≤ Int32.toNatClampNeg (Int32.ofInt 1)) then
                                              some (none, (xi_wI (xi_wI (xi_wI (xi_wI (xi_wI m106 b110 (Int32.toNatClampNeg (((Int8.ofInt 10).toInt32) + ((Int32.ofInt 4) * (m3.1 b96 (Int32.toNatClampNeg (Int32.ofInt 1)))))) x4) b113 (Int32.toNatClampNeg ((((Int8.ofInt 10).toInt32) + ((Int32.ofInt 4) * (m3.1 b96 (Int32.toNatClampNeg (Int32.ofInt 1))))) + (Int32.ofInt 1))) x103) b116 (Int32.toNatClampNeg ((((Int8.ofInt 10).toInt32) + ((Int32.ofInt 4) * (m3.1 b96 (Int32.toNatClampNeg (Int32.ofInt 1))))) + (Int32.ofInt 2))) x105) b119 (Int32.toNatClampNeg ((((Int8.ofInt 10).toInt32) + ((Int32.ofInt 4) * (m3.1 b96 (Int32.toNatClampNeg (Int32.ofInt 1))))) + (Int32.ofInt 3))) x107) b122 (Int32.toNatClampNeg (Int32.ofInt 1)) (((xi_wI (xi_wI (xi_wI (xi_wI m106 b110 (Int32.toNatClampNeg (((Int8.ofInt 10).toInt32) + ((Int32.ofInt 4) * (m3.1 b96 (Int32.toNatClampNeg (Int32.ofInt 1)))))) x4) b113 (Int32.toNatClampNeg ((((Int8.ofInt 10).toInt32) + ((Int32.ofInt 4) * (m3.1 b96 (Int32.toNatClampNeg (Int32.ofInt 1))))) + (Int32.ofInt 1))) x103) b116 (Int32.toNatClampNeg ((((Int8.ofInt 10).toInt32) + ((Int32.ofInt 4) * (m3.1 b96 (Int32.toNatClampNeg (Int32.ofInt 1))))) + (Int32.ofInt 2))) x105) b119 (Int32.toNatClampNeg ((((Int8.ofInt 10).toInt32) + ((Int32.ofInt 4) * (m3.1 b96 (Int32.toNatClampNeg (Int32.ofInt 1))))) + (Int32.ofInt 3))) x107).1 b122 (Int32.toNatClampNeg (Int32.ofInt 1))) + (Int32.ofInt 1))))
                                            else none
                                          else none
                                        else none
                                      else none
                                    else none
                                  else none
                                else none
                              else none
                            else none
                          else none
                        else none
                      else
                        some (none, m106)
                    else none
                  else none
                else none
              else none
            else
              if S.1 v0 = 11 then (S.2.2 v0 6).bind fun b127 =>
                if S.1 b127 = 0 ∧ ¬ ((Int32.ofInt 1) < 0 ∨ S.2.1 b127 ≤ Int32.toNatClampNeg (Int32.ofInt 1)) then
                  if (m3.1 b127 (Int32.toNatClampNeg (Int32.ofInt 1))) = ((Int8.ofInt 6).toInt32) then
                    if S.1 v0 = 11 then
                      xi_bV (if S.1 v0 = 11 then E_X9_fails S v0 (m3.1 v0 18) m3 else none) fun m156 =>
                      if S.1 v0 = 11 then
                        if S.1 v0 = 11 then
                          xi_bI (if S.1 v0 = 11 then E_X9_figure S v0 v1 (Int32.ofInt 0) (Int32.ofInt 1) (xi_wI m156 v0 18 ((m156.1 v0 18) + (Int32.ofInt 1))) else none) fun x160 m159 =>
                          xi_bI (if S.1 v0 = 11 then E_X9_place S v0 v1 (Int32.ofInt 0) m159 else none) fun x162 m161 =>
                          xi_bI (if S.1 v0 = 11 then E_X9_figure S v0 v1 (Int32.ofInt 1) ((Int8.ofInt 9).toInt32) m161 else none) fun x164 m163 =>
                          if S.1 v0 = 11 then
                            if (m163.1 v0 19) = ((Int8.ofInt (-9)).toInt32) then
                              if S.1 v0 = 11 then (S.2.2 v0 6).bind fun b167 =>
                                if S.1 b167 = 0 ∧ ¬ ((((Int8.ofInt 10).toInt32) + ((Int32.ofInt 4) * (m3.1 b96 (Int32.toNatClampNeg (Int32.ofInt 1))))) < 0 ∨ S.2.1 b167 ≤ Int32.toNatClampNeg (((Int8.ofInt 10).toInt32) + ((Int32.ofInt 4) * (m3.1 b96 (Int32.toNatClampNeg (Int32.ofInt 1)))))) then
                                  if S.1 v0 = 11 then (S.2.2 v0 6).bind fun b170 =>
                                    if S.1 b170 = 0 ∧ ¬ (((((Int8.ofInt 10).toInt32) + ((Int32.ofInt 4) * (m3.1 b96 (Int32.toNatClampNeg (Int32.ofInt 1))))) + (Int32.ofInt 1)) < 0 ∨ S.2.1 b170 ≤ Int32.toNatClampNeg ((((Int8.ofInt 10).toInt32) + ((Int32.ofInt 4) * (m3.1 b96 (Int32.toNatClampNeg (Int32.ofInt 1))))) + (Int32.ofInt 1))) then
                                      if S.1 v0 = 11 then (S.2.2 v0 6).bind fun b173 =>
                                        if S.1 b173 = 0 ∧ ¬ (((((Int8.ofInt 10).toInt32) + ((Int32.ofInt 4) * (m3.1 b96 (Int32.toNatClampNeg (Int32.ofInt 1))))) + (Int32.ofInt 2)) < 0 ∨ S.2.1 b173 ≤ Int32.toNatClampNeg ((((Int8.ofInt 10).toInt32) + ((Int32.ofInt 4) * (m3.1 b96 (Int32.toNatClampNeg (Int32.ofInt 1))))) + (Int32.ofInt 2))) then
                                          if S.1 v0 = 11 then (S.2.2 v0 6).bind fun b176 =>
                                            if S.1 b176 = 0 ∧ ¬ (((((Int8.ofInt 10).toInt32) + ((Int32.ofInt 4) * (m3.1 b96 (Int32.toNatClampNeg (Int32.ofInt 1))))) + (Int32.ofInt 3)) < 0 ∨ S.2.1 b176 ≤ Int32.toNatClampNeg ((((Int8.ofInt 10).toInt32) + ((Int32.ofInt 4) * (m3.1 b96 (Int32.toNatClampNeg (Int32.ofInt 1))))) + (Int32.ofInt 3))) then
                                              if S.1 v0 = 11 then (S.2.2 v0 6).bind fun b179 =>
                                                if S.1 b179 = 0 ∧ ¬ ((Int32.ofInt 1) < 0 ∨ S.2.1 b179 ≤ Int32.toNatClampNeg (Int32.ofInt 1)) then
                                                  if S.1 b179 = 0 ∧ ¬ ((Int32.ofInt 1) < 0 ∨ S.2.1 b179 ≤ Int32.toNatClampNeg (Int32.ofInt 1)) then
                                                    some (none, (xi_wI (xi_wI (xi_wI (xi_wI (xi_wI m163 b167 (Int32.toNatClampNeg (((Int8.ofInt 10).toInt32) + ((Int32.ofInt 4) * (m3.1 b96 (Int32.toNatClampNeg (Int32.ofInt 1)))))) x4) b170 (Int32.toNatClampNeg ((((Int8.ofInt 10).toInt32) + ((Int32.ofInt 4) * (m3.1 b96 (Int32.toNatClampNeg (Int32.ofInt 1))))) + (Int32.ofInt 1))) x160) b173 (Int32.toNatClampNeg ((((Int8.ofInt 10).toInt32) + ((Int32.ofInt 4) * (m3.1 b96 (Int32.toNatClampNeg (Int32.ofInt 1))))) + (Int32.ofInt 2))) x162) b176 (Int32.toNatClampNeg ((((Int8.ofInt 10).toInt32) + ((Int32.ofInt 4) * (m3.1 b96 (Int32.toNatClampNeg (Int32.ofInt 1))))) + (Int32.ofInt 3))) x164) b179 (Int32.toNatClampNeg (Int32.ofInt 1)) (((xi_wI (xi_wI (xi_wI (xi_wI m163 b167 (Int32.toNatClampNeg (((Int8.ofInt 10).toInt32) + ((Int32.ofInt 4) * (m3.1 b96 (Int32.toNatClampNeg (Int32.ofInt 1)))))) x4) b170 (Int32.toNatClampNeg ((((Int8.ofInt 10).toInt32) + ((Int32.ofInt 4) * (m3.1 b96 (Int32.toNatClampNeg (Int32.ofInt 1))))) + (Int32.ofInt 1))) x160) b173 (Int32.toNatClampNeg ((((Int8.ofInt 10).toInt32) + ((Int32.ofInt 4) * (m3.1 b96 (Int32.toNatClampNeg (Int32.ofInt 1))))) + (Int32.ofInt 2))) x162) b176 (Int32.toNatClampNeg ((((Int8.ofInt 10).toInt32) + ((Int32.ofInt 4) * (m3.1 b96 (Int32.toNatClampNeg (Int32.ofInt 1))))) + (Int32.ofInt 3))) x164).1 b179 (Int32.toNatClampNeg (Int32.ofInt 1))) + (Int32.ofInt 1))))
                                                  else none
                                                else none
                                              else none
                                            else none
                                          else none
                                        else none
                                      else none
                                    else none
                                  else none
                                else none
                              else none
                            else
                              some (none, m163)
                          else none
                        else none
                      else none
                    else none
                  else
                    if S.1 v0 = 11 then
                      if S.1 v0 = 11 then
                        xi_bI (if S.1 v0 = 11 then E_X9_figure S v0 v1 (Int32.ofInt 0) (Int32.ofInt 1) (xi_wI m3 v0 18 ((m3.1 v0 18) + (Int32.ofInt 1))) else none) fun x132 m131 =>
                        xi_bI (if S.1 v0 = 11 then E_X9_place S v0 v1 (Int32.ofInt 0) m131 else none) fun x134 m133 =>
                        xi_bI (if S.1 v0 = 11 then E_X9_figure S v0 v1 (Int32.ofInt 1) ((Int8.ofInt 9).toInt32) m133 else none) fun x136 m135 =>
                        if S.1 v0 = 11 then
                          if (m135.1 v0 19) = ((Int8.ofInt (-9)).toInt32) then
                            if S.1 v0 = 11 then (S.2.2 v0 6).bind fun b139 =>
                              if S.1 b139 = 0 ∧ ¬ ((((Int8.ofInt 10).toInt32) + ((Int32.ofInt 4) * (m3.1 b96 (Int32.toNatClampNeg (Int32.ofInt 1))))) < 0 ∨ S.2.1 b139 ≤ Int32.toNatClampNeg (((Int8.ofInt 10).toInt32) + ((Int32.ofInt 4) * (m3.1 b96 (Int32.toNatClampNeg (Int32.ofInt 1)))))) then
                                if S.1 v0 = 11 then (S.2.2 v0 6).bind fun b142 =>
                                  if S.1 b142 = 0 ∧ ¬ (((((Int8.ofInt 10).toInt32) + ((Int32.ofInt 4) * (m3.1 b96 (Int32.toNatClampNeg (Int32.ofInt 1))))) + (Int32.ofInt 1)) < 0 ∨ S.2.1 b142 ≤ Int32.toNatClampNeg ((((Int8.ofInt 10).toInt32) + ((Int32.ofInt 4) * (m3.1 b96 (Int32.toNatClampNeg (Int32.ofInt 1))))) + (Int32.ofInt 1))) then
                                    if S.1 v0 = 11 then (S.2.2 v0 6).bind fun b145 =>
                                      if S.1 b145 = 0 ∧ ¬ (((((Int8.ofInt 10).toInt32) + ((Int32.ofInt 4) * (m3.1 b96 (Int32.toNatClampNeg (Int32.ofInt 1))))) + (Int32.ofInt 2)) < 0 ∨ S.2.1 b145 ≤ Int32.toNatClampNeg ((((Int8.ofInt 10).toInt32) + ((Int32.ofInt 4) * (m3.1 b96 (Int32.toNatClampNeg (Int32.ofInt 1))))) + (Int32.ofInt 2))) then
                                        if S.1 v0 = 11 then (S.2.2 v0 6).bind fun b148 =>
                                          if S.1 b148 = 0 ∧ ¬ (((((Int8.ofInt 10).toInt32) + ((Int32.ofInt 4) * (m3.1 b96 (Int32.toNatClampNeg (Int32.ofInt 1))))) + (Int32.ofInt 3)) < 0 ∨ S.2.1 b148 ≤ Int32.toNatClampNeg ((((Int8.ofInt 10).toInt32) + ((Int32.ofInt 4) * (m3.1 b96 (Int32.toNatClampNeg (Int32.ofInt 1))))) + (Int32.ofInt 3))) then
                                            if S.1 v0 = 11 then (S.2.2 v0 6).bind fun b151 =>
                                              if S.1 b151 = 0 ∧ ¬ ((Int32.ofInt 1) < 0 ∨ S.2.1 b151 ≤ Int32.toNatClampNeg (Int32.ofInt 1)) then
                                                if S.1 b151 = 0 ∧ ¬ ((Int32.ofInt 1) < 0 ∨ S.2.1 b151 ≤ Int32.toNatClampNeg (Int32.ofInt 1)) then
                                                  some (none, (xi_wI (xi_wI (xi_wI (xi_wI (xi_wI m135 b139 (Int32.toNatClampNeg (((Int8.ofInt 10).toInt32) + ((Int32.ofInt 4) * (m3.1 b96 (Int32.toNatClampNeg (Int32.ofInt 1)))))) x4) b142 (Int32.toNatClampNeg ((((Int8.ofInt 10).toInt32) + ((Int32.ofInt 4) * (m3.1 b96 (Int32.toNatClampNeg (Int32.ofInt 1))))) + (Int32.ofInt 1))) x132) b145 (Int32.toNatClampNeg ((((Int8.ofInt 10).toInt32) + ((Int32.ofInt 4) * (m3.1 b96 (Int32.toNatClampNeg (Int32.ofInt 1))))) + (Int32.ofInt 2))) x134) b148 (Int32.toNatClampNeg ((((Int8.ofInt 10).toInt32) + ((Int32.ofInt 4) * (m3.1 b96 (Int32.toNatClampNeg (Int32.ofInt 1))))) + (Int32.ofInt 3))) x136) b151 (Int32.toNatClampNeg (Int32.ofInt 1)) (((xi_wI (xi_wI (xi_wI (xi_wI m135 b139 (Int32.toNatClampNeg (((Int8.ofInt 10).toInt32) + ((Int32.ofInt 4) * (m3.1 b96 (Int32.toNatClampNeg (Int32.ofInt 1)))))) x4) b142 (Int32.toNatClampNeg ((((Int8.ofInt 10).toInt32) + ((Int32.ofInt 4) * (m3.1 b96 (Int32.toNatClampNeg (Int32.ofInt 1))))) + (Int32.ofInt 1))) x132) b145 (Int32.toNatClampNeg ((((Int8.ofInt 10).toInt32) + ((Int32.ofInt 4) * (m3.1 b96 (Int32.toNatClampNeg (Int32.ofInt 1))))) + (Int32.ofInt 2))) x134) b148 (Int32.toNatClampNeg ((((Int8.ofInt 10).toInt32) + ((Int32.ofInt 4) * (m3.1 b96 (Int32.toNatClampNeg (Int32.ofInt 1))))) + (Int32.ofInt 3))) x136).1 b151 (Int32.toNatClampNeg (Int32.ofInt 1))) + (Int32.ofInt 1))))
                                                else none
                                              else none
                                            else none
                                          else none
                                        else none
                                      else none
                                    else none
                                  else none
                                else none
                              else none
                            else none
                          else
                            some (none, m135)
                        else none
                      else none
                    else none
                else none
              else none
          else none
        else none
    else none
  else none
def F_X9_readsPlayer (S : xi_S) : xi_F := fun As m => match As with
  | [.ref v0, .int v1] => E_X9_readsPlayer S v0 v1 m
  | _ => none
set_option maxRecDepth 100000 in
set_option maxHeartbeats 4000000 in
theorem xe_X9_readsPlayer {S : xi_S} {res : xi_R} (v0 : Nat) (v1 : Int32) (m : xi_M) (h : E_X9_readsPlayer S v0 v1 m = some res) : xi_X S (P_X9_readsPlayer S) (0, [some (.ref v0), some (.int v1), none, none, none, none, none], [], m) res := by
  unfold E_X9_readsPlayer at h
  refine xr_aload_n i_X9_readsPlayer_0 rfl (q := 1) rfl ?_
  refine xr_iload_n i_X9_readsPlayer_1 rfl (q := 2) rfl ?_
  obtain ⟨x2, m1, em1, h⟩ := xi_bI_some h
  refine xr_VI i_X9_readsPlayer_2 xcve_X9_90 rfl (As := [.ref v0, .int v1]) rfl (rest := []) rfl ((cc_X9_readsPlayer_90 S _ _ _).trans em1) (q := 5) rfl ?_
  obtain ⟨x4, m3, em3, h⟩ := xi_bI_some h
  refine xr_SI i_X9_readsPlayer_5 xcse_X9_101 rfl (As := [.int x2]) rfl (rest := []) rfl ((cc_X9_readsPlayer_101 S _ _).trans em3) (q := 8) rfl ?_
  refine xr_istore_n i_X9_readsPlayer_8 rfl (L2 := [some (.ref v0), some (.int v1), some (.int x4), none, none, none, none]) rfl (q := 9) rfl ?_
  refine xr_bipush i_X9_readsPlayer_9 (q := 11) rfl ?_
  refine xr_iconst i_X9_readsPlayer_11 (q := 12) rfl ?_
  refine xr_aload_n i_X9_readsPlayer_12 rfl (q := 13) rfl ?_
  obtain ⟨c5, h⟩ := xi_if_some h
  obtain ⟨b6, eb6, h⟩ := xi_bind_some h
  refine xr_getR i_X9_readsPlayer_13 xfe_X9_28 c5 eb6 (q := 16) rfl ?_
  refine xr_iconst i_X9_readsPlayer_16 (q := 17) rfl ?_
  obtain ⟨c7, h⟩ := xi_if_some h
  refine xr_iaload i_X9_readsPlayer_17 c7 (q := 18) rfl ?_
  refine xr_bipush i_X9_readsPlayer_18 (q := 20) rfl ?_
  by_cases c185 : ((Int8.ofInt 6).toInt32) ≤ (m3.1 b6 (Int32.toNatClampNeg (Int32.ofInt 1)))
  · replace h := (if_pos c185).symm.trans h
    refine xr_if_icmp_ge_p i_X9_readsPlayer_20 c185 (q := 32) t_X9_readsPlayer_20 (q2 := 23) rfl ?_
    refine xr_iconst i_X9_readsPlayer_32 (q := 33) rfl ?_
    refine xr_imul i_X9_readsPlayer_33 (q := 34) rfl ?_
    refine xr_iadd i_X9_readsPlayer_34 (q := 35) rfl ?_
    refine xr_istore_n i_X9_readsPlayer_35 rfl (L2 := [some (.ref v0), some (.int v1), some (.int x4), some (.int (((Int8.ofInt 10).toInt32) + ((Int32.ofInt 4) * (Int32.ofInt 0)))), none, none, none]) rfl (q := 36) rfl ?_
    refine xr_iload_n i_X9_readsPlayer_36 rfl (q := 37) rfl ?_
    refine xr_bipush i_X9_readsPlayer_37 (q := 39) rfl ?_
    by_cases c94 : x4 = ((Int8.ofInt (-9)).toInt32)
    · replace h := (if_pos c94).symm.trans h
      refine xr_if_icmp_eq_p i_X9_readsPlayer_39 c94 (q := 53) t_X9_readsPlayer_39 (q2 := 42) rfl ?_
      refine xr_aload_n i_X9_readsPlayer_53 rfl (q := 54) rfl ?_
      refine xr_aload_n i_X9_readsPlayer_54 rfl (q := 55) rfl ?_
      obtain ⟨c8, h⟩ := xi_if_some h
      refine xr_getI i_X9_readsPlayer_55 xfe_X9_84 c8 (q := 58) rfl ?_
      obtain ⟨m9, em9, h⟩ := xi_bV_some h
      refine xr_VV i_X9_readsPlayer_58 xcve_X9_93 rfl (As := [.ref v0, .int (m3.1 v0 18)]) rfl (rest := []) rfl ((cc_X9_readsPlayer_93 S _ _ _).trans em9) (q := 61) rfl ?_
      refine xr_aload_n i_X9_readsPlayer_61 rfl (q := 62) rfl ?_
      refine xr_dup_r i_X9_readsPlayer_62 (q := 63) rfl ?_
      obtain ⟨c10, h⟩ := xi_if_some h
      refine xr_getI i_X9_readsPlayer_63 xfe_X9_84 c10 (q := 66) rfl ?_
      refine xr_iconst i_X9_readsPlayer_66 (q := 67) rfl ?_
      refine xr_iadd i_X9_readsPlayer_67 (q := 68) rfl ?_
      obtain ⟨c11, h⟩ := xi_if_some h
      refine xr_putI i_X9_readsPlayer_68 xfe_X9_84 c11 (q := 71) rfl ?_
      refine xr_aload_n i_X9_readsPlayer_71 rfl (q := 72) rfl ?_
      refine xr_iload_n i_X9_readsPlayer_72 rfl (q := 73) rfl ?_
      refine xr_iconst i_X9_readsPlayer_73 (q := 74) rfl ?_
      refine xr_iconst i_X9_readsPlayer_74 (q := 75) rfl ?_
      obtain ⟨x13, m12, em12, h⟩ := xi_bI_some h
      refine xr_VI i_X9_readsPlayer_75 xcve_X9_97 rfl (As := [.ref v0, .int v1, .int (Int32.ofInt 0), .int (Int32.ofInt 1)]) rfl (rest := []) rfl ((cc_X9_readsPlayer_97 S _ _ _ _ _).trans em12) (q := 78) rfl ?_
      refine xr_istore i_X9_readsPlayer_78 rfl (L2 := [some (.ref v0), some (.int v1), some (.int x4), some (.int (((Int8.ofInt 10).toInt32) + ((Int32.ofInt 4) * (Int32.ofInt 0)))), some (.int x13), none, none]) rfl (q := 80) rfl ?_
      refine xr_aload_n i_X9_readsPlayer_80 rfl (q := 81) rfl ?_
      refine xr_iload_n i_X9_readsPlayer_81 rfl (q := 82) rfl ?_
      refine xr_iconst i_X9_readsPlayer_82 (q := 83) rfl ?_
      obtain ⟨x15, m14, em14, h⟩ := xi_bI_some h
      refine xr_VI i_X9_readsPlayer_83 xcve_X9_104 rfl (As := [.ref v0, .int v1, .int (Int32.ofInt 0)]) rfl (rest := []) rfl ((cc_X9_readsPlayer_104 S _ _ _ _).trans em14) (q := 86) rfl ?_
      refine xr_istore i_X9_readsPlayer_86 rfl (L2 := [some (.ref v0), some (.int v1), some (.int x4), some (.int (((Int8.ofInt 10).toInt32) + ((Int32.ofInt 4) * (Int32.ofInt 0)))), some (.int x13), some (.int x15), none]) rfl (q := 88) rfl ?_
      refine xr_aload_n i_X9_readsPlayer_88 rfl (q := 89) rfl ?_
      refine xr_iload_n i_X9_readsPlayer_89 rfl (q := 90) rfl ?_
      refine xr_iconst i_X9_readsPlayer_90 (q := 91) rfl ?_
      refine xr_bipush i_X9_readsPlayer_91 (q := 93) rfl ?_
      obtain ⟨x17, m16, em16, h⟩ := xi_bI_some h
      refine xr_VI i_X9_readsPlayer_93 xcve_X9_97 rfl (As := [.ref v0, .int v1, .int (Int32.ofInt 1), .int ((Int8.ofInt 9).toInt32)]) rfl (rest := []) rfl ((cc_X9_readsPlayer_97 S _ _ _ _ _).trans em16) (q := 96) rfl ?_
      refine xr_istore i_X9_readsPlayer_96 rfl (L2 := [some (.ref v0), some (.int v1), some (.int x4), some (.int (((Int8.ofInt 10).toInt32) + ((Int32.ofInt 4) * (Int32.ofInt 0)))), some (.int x13), some (.int x15), some (.int x17)]) rfl (q := 98) rfl ?_
      refine xr_aload_n i_X9_readsPlayer_98 rfl (q := 99) rfl ?_
      obtain ⟨c18, h⟩ := xi_if_some h
      refine xr_getI i_X9_readsPlayer_99 xfe_X9_87 c18 (q := 102) rfl ?_
      refine xr_bipush i_X9_readsPlayer_102 (q := 104) rfl ?_
      by_cases c35 : (m16.1 v0 19) = ((Int8.ofInt (-9)).toInt32)
      · replace h := (if_pos c35).symm.trans h
        refine xr_if_icmp_ne_p i_X9_readsPlayer_104 c35 (q := 154) t_X9_readsPlayer_104 (q2 := 107) rfl ?_
        refine xr_aload_n i_X9_readsPlayer_107 rfl (q := 108) rfl ?_
        obtain ⟨c19, h⟩ := xi_if_some h
        obtain ⟨b20, eb20, h⟩ := xi_bind_some h
        refine xr_getR i_X9_readsPlayer_108 xfe_X9_28 c19 eb20 (q := 111) rfl ?_
        refine xr_iload_n i_X9_readsPlayer_111 rfl (q := 112) rfl ?_
        refine xr_iload_n i_X9_readsPlayer_112 rfl (q := 113) rfl ?_
        obtain ⟨c21, h⟩ := xi_if_some h
        refine xr_iastore i_X9_readsPlayer_113 c21 (q := 114) rfl ?_
        refine xr_aload_n i_X9_readsPlayer_114 rfl (q := 115) rfl ?_
        obtain ⟨c22, h⟩ := xi_if_some h
        obtain ⟨b23, eb23, h⟩ := xi_bind_some h
        refine xr_getR i_X9_readsPlayer_115 xfe_X9_28 c22 eb23 (q := 118) rfl ?_
        refine xr_iload_n i_X9_readsPlayer_118 rfl (q := 119) rfl ?_
        refine xr_iconst i_X9_readsPlayer_119 (q := 120) rfl ?_
        refine xr_iadd i_X9_readsPlayer_120 (q := 121) rfl ?_
        refine xr_iload i_X9_readsPlayer_121 rfl (q := 123) rfl ?_
        obtain ⟨c24, h⟩ := xi_if_some h
        refine xr_iastore i_X9_readsPlayer_123 c24 (q := 124) rfl ?_
        refine xr_aload_n i_X9_readsPlayer_124 rfl (q := 125) rfl ?_
        obtain ⟨c25, h⟩ := xi_if_some h
        obtain ⟨b26, eb26, h⟩ := xi_bind_some h
        refine xr_getR i_X9_readsPlayer_125 xfe_X9_28 c25 eb26 (q := 128) rfl ?_
        refine xr_iload_n i_X9_readsPlayer_128 rfl (q := 129) rfl ?_
        refine xr_iconst i_X9_readsPlayer_129 (q := 130) rfl ?_
        refine xr_iadd i_X9_readsPlayer_130 (q := 131) rfl ?_
        refine xr_iload i_X9_readsPlayer_131 rfl (q := 133) rfl ?_
        obtain ⟨c27, h⟩ := xi_if_some h
        refine xr_iastore i_X9_readsPlayer_133 c27 (q := 134) rfl ?_
        refine xr_aload_n i_X9_readsPlayer_134 rfl (q := 135) rfl ?_
        obtain ⟨c28, h⟩ := xi_if_some h
        obtain ⟨b29, eb29, h⟩ := xi_bind_some h
        refine xr_getR i_X9_readsPlayer_135 xfe_X9_28 c28 eb29 (q := 138) rfl ?_
        refine xr_iload_n i_X9_readsPlayer_138 rfl (q := 139) rfl ?_
        refine xr_iconst i_X9_readsPlayer_139 (q := 140) rfl ?_
        refine xr_iadd i_X9_readsPlayer_140 (q := 141) rfl ?_
        refine xr_iload i_X9_readsPlayer_141 rfl (q := 143) rfl ?_
        obtain ⟨c30, h⟩ := xi_if_some h
        refine xr_iastore i_X9_readsPlayer_143 c30 (q := 144) rfl ?_
        refine xr_aload_n i_X9_readsPlayer_144 rfl (q := 145) rfl ?_
        obtain ⟨c31, h⟩ := xi_if_some h
        obtain ⟨b32, eb32, h⟩ := xi_bind_some h
        refine xr_getR i_X9_readsPlayer_145 xfe_X9_28 c31 eb32 (q := 148) rfl ?_
        refine xr_iconst i_X9_readsPlayer_148 (q := 149) rfl ?_
        refine xr_dup2 i_X9_readsPlayer_149 (q := 150) rfl ?_
        obtain ⟨c33, h⟩ := xi_if_some h
        refine xr_iaload i_X9_readsPlayer_150 c33 (q := 151) rfl ?_
        refine xr_iconst i_X9_readsPlayer_151 (q := 152) rfl ?_
        refine xr_iadd i_X9_readsPlayer_152 (q := 153) rfl ?_
        obtain ⟨c34, h⟩ := xi_if_some h
        refine xr_iastore i_X9_readsPlayer_153 c34 (q := 154) rfl ?_
        exact xr_return i_X9_readsPlayer_154 rfl h
      · replace h := (if_neg c35).symm.trans h
        refine xr_if_icmp_ne_n i_X9_readsPlayer_104 c35 (q := 154) t_X9_readsPlayer_104 (q2 := 107) rfl ?_
        exact xr_return i_X9_readsPlayer_154 rfl h
    · replace h := (if_neg c94).symm.trans h
      refine xr_if_icmp_eq_n i_X9_readsPlayer_39 c94 (q := 53) t_X9_readsPlayer_39 (q2 := 42) rfl ?_
      refine xr_aload_n i_X9_readsPlayer_42 rfl (q := 43) rfl ?_
      obtain ⟨c36, h⟩ := xi_if_some h
      obtain ⟨b37, eb37, h⟩ := xi_bind_some h
      refine xr_getR i_X9_readsPlayer_43 xfe_X9_28 c36 eb37 (q := 46) rfl ?_
      refine xr_iconst i_X9_readsPlayer_46 (q := 47) rfl ?_
      obtain ⟨c38, h⟩ := xi_if_some h
      refine xr_iaload i_X9_readsPlayer_47 c38 (q := 48) rfl ?_
      refine xr_bipush i_X9_readsPlayer_48 (q := 50) rfl ?_
      by_cases c93 : (m3.1 b37 (Int32.toNatClampNeg (Int32.ofInt 1))) = ((Int8.ofInt 6).toInt32)
      · replace h := (if_pos c93).symm.trans h
        refine xr_if_icmp_ne_p i_X9_readsPlayer_50 c93 (q := 61) t_X9_readsPlayer_50 (q2 := 53) rfl ?_
        refine xr_aload_n i_X9_readsPlayer_53 rfl (q := 54) rfl ?_
        refine xr_aload_n i_X9_readsPlayer_54 rfl (q := 55) rfl ?_
        obtain ⟨c65, h⟩ := xi_if_some h
        refine xr_getI i_X9_readsPlayer_55 xfe_X9_84 c65 (q := 58) rfl ?_
        obtain ⟨m66, em66, h⟩ := xi_bV_some h
        refine xr_VV i_X9_readsPlayer_58 xcve_X9_93 rfl (As := [.ref v0, .int (m3.1 v0 18)]) rfl (rest := []) rfl ((cc_X9_readsPlayer_93 S _ _ _).trans em66) (q := 61) rfl ?_
        refine xr_aload_n i_X9_readsPlayer_61 rfl (q := 62) rfl ?_
        refine xr_dup_r i_X9_readsPlayer_62 (q := 63) rfl ?_
        obtain ⟨c67, h⟩ := xi_if_some h
        refine xr_getI i_X9_readsPlayer_63 xfe_X9_84 c67 (q := 66) rfl ?_
        refine xr_iconst i_X9_readsPlayer_66 (q := 67) rfl ?_
        refine xr_iadd i_X9_readsPlayer_67 (q := 68) rfl ?_
        obtain ⟨c68, h⟩ := xi_if_some h
        refine xr_putI i_X9_readsPlayer_68 xfe_X9_84 c68 (q := 71) rfl ?_
        refine xr_aload_n i_X9_readsPlayer_71 rfl (q := 72) rfl ?_
        refine xr_iload_n i_X9_readsPlayer_72 rfl (q := 73) rfl ?_
        refine xr_iconst i_X9_readsPlayer_73 (q := 74) rfl ?_
        refine xr_iconst i_X9_readsPlayer_74 (q := 75) rfl ?_
        obtain ⟨x70, m69, em69, h⟩ := xi_bI_some h
        refine xr_VI i_X9_readsPlayer_75 xcve_X9_97 rfl (As := [.ref v0, .int v1, .int (Int32.ofInt 0), .int (Int32.ofInt 1)]) rfl (rest := []) rfl ((cc_X9_readsPlayer_97 S _ _ _ _ _).trans em69) (q := 78) rfl ?_
        refine xr_istore i_X9_readsPlayer_78 rfl (L2 := [some (.ref v0), some (.int v1), some (.int x4), some (.int (((Int8.ofInt 10).toInt32) + ((Int32.ofInt 4) * (Int32.ofInt 0)))), some (.int x70), none, none]) rfl (q := 80) rfl ?_
        refine xr_aload_n i_X9_readsPlayer_80 rfl (q := 81) rfl ?_
        refine xr_iload_n i_X9_readsPlayer_81 rfl (q := 82) rfl ?_
        refine xr_iconst i_X9_readsPlayer_82 (q := 83) rfl ?_
        obtain ⟨x72, m71, em71, h⟩ := xi_bI_some h
        refine xr_VI i_X9_readsPlayer_83 xcve_X9_104 rfl (As := [.ref v0, .int v1, .int (Int32.ofInt 0)]) rfl (rest := []) rfl ((cc_X9_readsPlayer_104 S _ _ _ _).trans em71) (q := 86) rfl ?_
        refine xr_istore i_X9_readsPlayer_86 rfl (L2 := [some (.ref v0), some (.int v1), some (.int x4), some (.int (((Int8.ofInt 10).toInt32) + ((Int32.ofInt 4) * (Int32.ofInt 0)))), some (.int x70), some (.int x72), none]) rfl (q := 88) rfl ?_
        refine xr_aload_n i_X9_readsPlayer_88 rfl (q := 89) rfl ?_
        refine xr_iload_n i_X9_readsPlayer_89 rfl (q := 90) rfl ?_
        refine xr_iconst i_X9_readsPlayer_90 (q := 91) rfl ?_
        refine xr_bipush i_X9_readsPlayer_91 (q := 93) rfl ?_
        obtain ⟨x74, m73, em73, h⟩ := xi_bI_some h
        refine xr_VI i_X9_readsPlayer_93 xcve_X9_97 rfl (As := [.ref v0, .int v1, .int (Int32.ofInt 1), .int ((Int8.ofInt 9).toInt32)]) rfl (rest := []) rfl ((cc_X9_readsPlayer_97 S _ _ _ _ _).trans em73) (q := 96) rfl ?_
        refine xr_istore i_X9_readsPlayer_96 rfl (L2 := [some (.ref v0), some (.int v1), some (.int x4), some (.int (((Int8.ofInt 10).toInt32) + ((Int32.ofInt 4) * (Int32.ofInt 0)))), some (.int x70), some (.int x72), some (.int x74)]) rfl (q := 98) rfl ?_
        refine xr_aload_n i_X9_readsPlayer_98 rfl (q := 99) rfl ?_
        obtain ⟨c75, h⟩ := xi_if_some h
        refine xr_getI i_X9_readsPlayer_99 xfe_X9_87 c75 (q := 102) rfl ?_
        refine xr_bipush i_X9_readsPlayer_102 (q := 104) rfl ?_
        by_cases c92 : (m73.1 v0 19) = ((Int8.ofInt (-9)).toInt32)
        · replace h := (if_pos c92).symm.trans h
          refine xr_if_icmp_ne_p i_X9_readsPlayer_104 c92 (q := 154) t_X9_readsPlayer_104 (q2 := 107) rfl ?_
          refine xr_aload_n i_X9_readsPlayer_107 rfl (q := 108) rfl ?_
          obtain ⟨c76, h⟩ := xi_if_some h
          obtain ⟨b77, eb77, h⟩ := xi_bind_some h
          refine xr_getR i_X9_readsPlayer_108 xfe_X9_28 c76 eb77 (q := 111) rfl ?_
          refine xr_iload_n i_X9_readsPlayer_111 rfl (q := 112) rfl ?_
          refine xr_iload_n i_X9_readsPlayer_112 rfl (q := 113) rfl ?_
          obtain ⟨c78, h⟩ := xi_if_some h
          refine xr_iastore i_X9_readsPlayer_113 c78 (q := 114) rfl ?_
          refine xr_aload_n i_X9_readsPlayer_114 rfl (q := 115) rfl ?_
          obtain ⟨c79, h⟩ := xi_if_some h
          obtain ⟨b80, eb80, h⟩ := xi_bind_some h
          refine xr_getR i_X9_readsPlayer_115 xfe_X9_28 c79 eb80 (q := 118) rfl ?_
          refine xr_iload_n i_X9_readsPlayer_118 rfl (q := 119) rfl ?_
          refine xr_iconst i_X9_readsPlayer_119 (q := 120) rfl ?_
          refine xr_iadd i_X9_readsPlayer_120 (q := 121) rfl ?_
          refine xr_iload i_X9_readsPlayer_121 rfl (q := 123) rfl ?_
          obtain ⟨c81, h⟩ := xi_if_some h
          refine xr_iastore i_X9_readsPlayer_123 c81 (q := 124) rfl ?_
          refine xr_aload_n i_X9_readsPlayer_124 rfl (q := 125) rfl ?_
          obtain ⟨c82, h⟩ := xi_if_some h
          obtain ⟨b83, eb83, h⟩ := xi_bind_some h
          refine xr_getR i_X9_readsPlayer_125 xfe_X9_28 c82 eb83 (q := 128) rfl ?_
          refine xr_iload_n i_X9_readsPlayer_128 rfl (q := 129) rfl ?_
          refine xr_iconst i_X9_readsPlayer_129 (q := 130) rfl ?_
          refine xr_iadd i_X9_readsPlayer_130 (q := 131) rfl ?_
          refine xr_iload i_X9_readsPlayer_131 rfl (q := 133) rfl ?_
          obtain ⟨c84, h⟩ := xi_if_some h
          refine xr_iastore i_X9_readsPlayer_133 c84 (q := 134) rfl ?_
          refine xr_aload_n i_X9_readsPlayer_134 rfl (q := 135) rfl ?_
          obtain ⟨c85, h⟩ := xi_if_some h
          obtain ⟨b86, eb86, h⟩ := xi_bind_some h
          refine xr_getR i_X9_readsPlayer_135 xfe_X9_28 c85 eb86 (q := 138) rfl ?_
          refine xr_iload_n i_X9_readsPlayer_138 rfl (q := 139) rfl ?_
          refine xr_iconst i_X9_readsPlayer_139 (q := 140) rfl ?_
          refine xr_iadd i_X9_readsPlayer_140 (q := 141) rfl ?_
          refine xr_iload i_X9_readsPlayer_141 rfl (q := 143) rfl ?_
          obtain ⟨c87, h⟩ := xi_if_some h
          refine xr_iastore i_X9_readsPlayer_143 c87 (q := 144) rfl ?_
          refine xr_aload_n i_X9_readsPlayer_144 rfl (q := 145) rfl ?_
          obtain ⟨c88, h⟩ := xi_if_some h
          obtain ⟨b89, eb89, h⟩ := xi_bind_some h
          refine xr_getR i_X9_readsPlayer_145 xfe_X9_28 c88 eb89 (q := 148) rfl ?_
          refine xr_iconst i_X9_readsPlayer_148 (q := 149) rfl ?_
          refine xr_dup2 i_X9_readsPlayer_149 (q := 150) rfl ?_
          obtain ⟨c90, h⟩ := xi_if_some h
          refine xr_iaload i_X9_readsPlayer_150 c90 (q := 151) rfl ?_
          refine xr_iconst i_X9_readsPlayer_151 (q := 152) rfl ?_
          refine xr_iadd i_X9_readsPlayer_152 (q := 153) rfl ?_
          obtain ⟨c91, h⟩ := xi_if_some h
          refine xr_iastore i_X9_readsPlayer_153 c91 (q := 154) rfl ?_
          exact xr_return i_X9_readsPlayer_154 rfl h
        · replace h := (if_neg c92).symm.trans h
          refine xr_if_icmp_ne_n i_X9_readsPlayer_104 c92 (q := 154) t_X9_readsPlayer_104 (q2 := 107) rfl ?_
          exact xr_return i_X9_readsPlayer_154 rfl h
      · replace h := (if_neg c93).symm.trans h
        refine xr_if_icmp_ne_n i_X9_readsPlayer_50 c93 (q := 61) t_X9_readsPlayer_50 (q2 := 53) rfl ?_
        refine xr_aload_n i_X9_readsPlayer_61 rfl (q := 62) rfl ?_
        refine xr_dup_r i_X9_readsPlayer_62 (q := 63) rfl ?_
        obtain ⟨c39, h⟩ := xi_if_some h
        refine xr_getI i_X9_readsPlayer_63 xfe_X9_84 c39 (q := 66) rfl ?_
        refine xr_iconst i_X9_readsPlayer_66 (q := 67) rfl ?_
        refine xr_iadd i_X9_readsPlayer_67 (q := 68) rfl ?_
        obtain ⟨c40, h⟩ := xi_if_some h
        refine xr_putI i_X9_readsPlayer_68 xfe_X9_84 c40 (q := 71) rfl ?_
        refine xr_aload_n i_X9_readsPlayer_71 rfl (q := 72) rfl ?_
        refine xr_iload_n i_X9_readsPlayer_72 rfl (q := 73) rfl ?_
        refine xr_iconst i_X9_readsPlayer_73 (q := 74) rfl ?_
        refine xr_iconst i_X9_readsPlayer_74 (q := 75) rfl ?_
        obtain ⟨x42, m41, em41, h⟩ := xi_bI_some h
        refine xr_VI i_X9_readsPlayer_75 xcve_X9_97 rfl (As := [.ref v0, .int v1, .int (Int32.ofInt 0), .int (Int32.ofInt 1)]) rfl (rest := []) rfl ((cc_X9_readsPlayer_97 S _ _ _ _ _).trans em41) (q := 78) rfl ?_
        refine xr_istore i_X9_readsPlayer_78 rfl (L2 := [some (.ref v0), some (.int v1), some (.int x4), some (.int (((Int8.ofInt 10).toInt32) + ((Int32.ofInt 4) * (Int32.ofInt 0)))), some (.int x42), none, none]) rfl (q := 80) rfl ?_
        refine xr_aload_n i_X9_readsPlayer_80 rfl (q := 81) rfl ?_
        refine xr_iload_n i_X9_readsPlayer_81 rfl (q := 82) rfl ?_
        refine xr_iconst i_X9_readsPlayer_82 (q := 83) rfl ?_
        obtain ⟨x44, m43, em43, h⟩ := xi_bI_some h
        refine xr_VI i_X9_readsPlayer_83 xcve_X9_104 rfl (As := [.ref v0, .int v1, .int (Int32.ofInt 0)]) rfl (rest := []) rfl ((cc_X9_readsPlayer_104 S _ _ _ _).trans em43) (q := 86) rfl ?_
        refine xr_istore i_X9_readsPlayer_86 rfl (L2 := [some (.ref v0), some (.int v1), some (.int x4), some (.int (((Int8.ofInt 10).toInt32) + ((Int32.ofInt 4) * (Int32.ofInt 0)))), some (.int x42), some (.int x44), none]) rfl (q := 88) rfl ?_
        refine xr_aload_n i_X9_readsPlayer_88 rfl (q := 89) rfl ?_
        refine xr_iload_n i_X9_readsPlayer_89 rfl (q := 90) rfl ?_
        refine xr_iconst i_X9_readsPlayer_90 (q := 91) rfl ?_
        refine xr_bipush i_X9_readsPlayer_91 (q := 93) rfl ?_
        obtain ⟨x46, m45, em45, h⟩ := xi_bI_some h
        refine xr_VI i_X9_readsPlayer_93 xcve_X9_97 rfl (As := [.ref v0, .int v1, .int (Int32.ofInt 1), .int ((Int8.ofInt 9).toInt32)]) rfl (rest := []) rfl ((cc_X9_readsPlayer_97 S _ _ _ _ _).trans em45) (q := 96) rfl ?_
        refine xr_istore i_X9_readsPlayer_96 rfl (L2 := [some (.ref v0), some (.int v1), some (.int x4), some (.int (((Int8.ofInt 10).toInt32) + ((Int32.ofInt 4) * (Int32.ofInt 0)))), some (.int x42), some (.int x44), some (.int x46)]) rfl (q := 98) rfl ?_
        refine xr_aload_n i_X9_readsPlayer_98 rfl (q := 99) rfl ?_
        obtain ⟨c47, h⟩ := xi_if_some h
        refine xr_getI i_X9_readsPlayer_99 xfe_X9_87 c47 (q := 102) rfl ?_
        refine xr_bipush i_X9_readsPlayer_102 (q := 104) rfl ?_
        by_cases c64 : (m45.1 v0 19) = ((Int8.ofInt (-9)).toInt32)
        · replace h := (if_pos c64).symm.trans h
          refine xr_if_icmp_ne_p i_X9_readsPlayer_104 c64 (q := 154) t_X9_readsPlayer_104 (q2 := 107) rfl ?_
          refine xr_aload_n i_X9_readsPlayer_107 rfl (q := 108) rfl ?_
          obtain ⟨c48, h⟩ := xi_if_some h
          obtain ⟨b49, eb49, h⟩ := xi_bind_some h
          refine xr_getR i_X9_readsPlayer_108 xfe_X9_28 c48 eb49 (q := 111) rfl ?_
          refine xr_iload_n i_X9_readsPlayer_111 rfl (q := 112) rfl ?_
          refine xr_iload_n i_X9_readsPlayer_112 rfl (q := 113) rfl ?_
          obtain ⟨c50, h⟩ := xi_if_some h
          refine xr_iastore i_X9_readsPlayer_113 c50 (q := 114) rfl ?_
          refine xr_aload_n i_X9_readsPlayer_114 rfl (q := 115) rfl ?_
          obtain ⟨c51, h⟩ := xi_if_some h
          obtain ⟨b52, eb52, h⟩ := xi_bind_some h
          refine xr_getR i_X9_readsPlayer_115 xfe_X9_28 c51 eb52 (q := 118) rfl ?_
          refine xr_iload_n i_X9_readsPlayer_118 rfl (q := 119) rfl ?_
          refine xr_iconst i_X9_readsPlayer_119 (q := 120) rfl ?_
          refine xr_iadd i_X9_readsPlayer_120 (q := 121) rfl ?_
          refine xr_iload i_X9_readsPlayer_121 rfl (q := 123) rfl ?_
          obtain ⟨c53, h⟩ := xi_if_some h
          refine xr_iastore i_X9_readsPlayer_123 c53 (q := 124) rfl ?_
          refine xr_aload_n i_X9_readsPlayer_124 rfl (q := 125) rfl ?_
          obtain ⟨c54, h⟩ := xi_if_some h
          obtain ⟨b55, eb55, h⟩ := xi_bind_some h
          refine xr_getR i_X9_readsPlayer_125 xfe_X9_28 c54 eb55 (q := 128) rfl ?_
          refine xr_iload_n i_X9_readsPlayer_128 rfl (q := 129) rfl ?_
          refine xr_iconst i_X9_readsPlayer_129 (q := 130) rfl ?_
          refine xr_iadd i_X9_readsPlayer_130 (q := 131) rfl ?_
          refine xr_iload i_X9_readsPlayer_131 rfl (q := 133) rfl ?_
          obtain ⟨c56, h⟩ := xi_if_some h
          refine xr_iastore i_X9_readsPlayer_133 c56 (q := 134) rfl ?_
          refine xr_aload_n i_X9_readsPlayer_134 rfl (q := 135) rfl ?_
          obtain ⟨c57, h⟩ := xi_if_some h
          obtain ⟨b58, eb58, h⟩ := xi_bind_some h
          refine xr_getR i_X9_readsPlayer_135 xfe_X9_28 c57 eb58 (q := 138) rfl ?_
          refine xr_iload_n i_X9_readsPlayer_138 rfl (q := 139) rfl ?_
          refine xr_iconst i_X9_readsPlayer_139 (q := 140) rfl ?_
          refine xr_iadd i_X9_readsPlayer_140 (q := 141) rfl ?_
          refine xr_iload i_X9_readsPlayer_141 rfl (q := 143) rfl ?_
          obtain ⟨c59, h⟩ := xi_if_some h
          refine xr_iastore i_X9_readsPlayer_143 c59 (q := 144) rfl ?_
          refine xr_aload_n i_X9_readsPlayer_144 rfl (q := 145) rfl ?_
          obtain ⟨c60, h⟩ := xi_if_some h
          obtain ⟨b61, eb61, h⟩ := xi_bind_some h
          refine xr_getR i_X9_readsPlayer_145 xfe_X9_28 c60 eb61 (q := 148) rfl ?_
          refine xr_iconst i_X9_readsPlayer_148 (q := 149) rfl ?_
          refine xr_dup2 i_X9_readsPlayer_149 (q := 150) rfl ?_
          obtain ⟨c62, h⟩ := xi_if_some h
          refine xr_iaload i_X9_readsPlayer_150 c62 (q := 151) rfl ?_
          refine xr_iconst i_X9_readsPlayer_151 (q := 152) rfl ?_
          refine xr_iadd i_X9_readsPlayer_152 (q := 153) rfl ?_
          obtain ⟨c63, h⟩ := xi_if_some h
          refine xr_iastore i_X9_readsPlayer_153 c63 (q := 154) rfl ?_
          exact xr_return i_X9_readsPlayer_154 rfl h
        · replace h := (if_neg c64).symm.trans h
          refine xr_if_icmp_ne_n i_X9_readsPlayer_104 c64 (q := 154) t_X9_readsPlayer_104 (q2 := 107) rfl ?_
          exact xr_return i_X9_readsPlayer_154 rfl h
  · replace h := (if_neg c185).symm.trans h
    refine xr_if_icmp_ge_n i_X9_readsPlayer_20 c185 (q := 32) t_X9_readsPlayer_20 (q2 := 23) rfl ?_
    refine xr_aload_n i_X9_readsPlayer_23 rfl (q := 24) rfl ?_
    obtain ⟨c95, h⟩ := xi_if_some h
    obtain ⟨b96, eb96, h⟩ := xi_bind_some h
    refine xr_getR i_X9_readsPlayer_24 xfe_X9_28 c95 eb96 (q := 27) rfl ?_
    refine xr_iconst i_X9_readsPlayer_27 (q := 28) rfl ?_
    obtain ⟨c97, h⟩ := xi_if_some h
    refine xr_iaload i_X9_readsPlayer_28 c97 (q := 29) rfl ?_
    refine xr_goto i_X9_readsPlayer_29 (q := 33) t_X9_readsPlayer_29 ?_
    refine xr_imul i_X9_readsPlayer_33 (q := 34) rfl ?_
    refine xr_iadd i_X9_readsPlayer_34 (q := 35) rfl ?_
    refine xr_istore_n i_X9_readsPlayer_35 rfl (L2 := [some (.ref v0), some (.int v1), some (.int x4), some (.int (((Int8.ofInt 10).toInt32) + ((Int32.ofInt 4) * (m3.1 b96 (Int32.toNatClampNeg (Int32.ofInt 1)))))), none, none, none]) rfl (q := 36) rfl ?_
    refine xr_iload_n i_X9_readsPlayer_36 rfl (q := 37) rfl ?_
    refine xr_bipush i_X9_readsPlayer_37 (q := 39) rfl ?_
    by_cases c184 : x4 = ((Int8.ofInt (-9)).toInt32)
    · replace h := (if_pos c184).symm.trans h
      refine xr_if_icmp_eq_p i_X9_readsPlayer_39 c184 (q := 53) t_X9_readsPlayer_39 (q2 := 42) rfl ?_
      refine xr_aload_n i_X9_readsPlayer_53 rfl (q := 54) rfl ?_
      refine xr_aload_n i_X9_readsPlayer_54 rfl (q := 55) rfl ?_
      obtain ⟨c98, h⟩ := xi_if_some h
      refine xr_getI i_X9_readsPlayer_55 xfe_X9_84 c98 (q := 58) rfl ?_
      obtain ⟨m99, em99, h⟩ := xi_bV_some h
      refine xr_VV i_X9_readsPlayer_58 xcve_X9_93 rfl (As := [.ref v0, .int (m3.1 v0 18)]) rfl (rest := []) rfl ((cc_X9_readsPlayer_93 S _ _ _).trans em99) (q := 61) rfl ?_
      refine xr_aload_n i_X9_readsPlayer_61 rfl (q := 62) rfl ?_
      refine xr_dup_r i_X9_readsPlayer_62 (q := 63) rfl ?_
      obtain ⟨c100, h⟩ := xi_if_some h
      refine xr_getI i_X9_readsPlayer_63 xfe_X9_84 c100 (q := 66) rfl ?_
      refine xr_iconst i_X9_readsPlayer_66 (q := 67) rfl ?_
      refine xr_iadd i_X9_readsPlayer_67 (q := 68) rfl ?_
      obtain ⟨c101, h⟩ := xi_if_some h
      refine xr_putI i_X9_readsPlayer_68 xfe_X9_84 c101 (q := 71) rfl ?_
      refine xr_aload_n i_X9_readsPlayer_71 rfl (q := 72) rfl ?_
      refine xr_iload_n i_X9_readsPlayer_72 rfl (q := 73) rfl ?_
      refine xr_iconst i_X9_readsPlayer_73 (q := 74) rfl ?_
      refine xr_iconst i_X9_readsPlayer_74 (q := 75) rfl ?_
      obtain ⟨x103, m102, em102, h⟩ := xi_bI_some h
      refine xr_VI i_X9_readsPlayer_75 xcve_X9_97 rfl (As := [.ref v0, .int v1, .int (Int32.ofInt 0), .int (Int32.ofInt 1)]) rfl (rest := []) rfl ((cc_X9_readsPlayer_97 S _ _ _ _ _).trans em102) (q := 78) rfl ?_
      refine xr_istore i_X9_readsPlayer_78 rfl (L2 := [some (.ref v0), some (.int v1), some (.int x4), some (.int (((Int8.ofInt 10).toInt32) + ((Int32.ofInt 4) * (m3.1 b96 (Int32.toNatClampNeg (Int32.ofInt 1)))))), some (.int x103), none, none]) rfl (q := 80) rfl ?_
      refine xr_aload_n i_X9_readsPlayer_80 rfl (q := 81) rfl ?_
      refine xr_iload_n i_X9_readsPlayer_81 rfl (q := 82) rfl ?_
      refine xr_iconst i_X9_readsPlayer_82 (q := 83) rfl ?_
      obtain ⟨x105, m104, em104, h⟩ := xi_bI_some h
      refine xr_VI i_X9_readsPlayer_83 xcve_X9_104 rfl (As := [.ref v0, .int v1, .int (Int32.ofInt 0)]) rfl (rest := []) rfl ((cc_X9_readsPlayer_104 S _ _ _ _).trans em104) (q := 86) rfl ?_
      refine xr_istore i_X9_readsPlayer_86 rfl (L2 := [some (.ref v0), some (.int v1), some (.int x4), some (.int (((Int8.ofInt 10).toInt32) + ((Int32.ofInt 4) * (m3.1 b96 (Int32.toNatClampNeg (Int32.ofInt 1)))))), some (.int x103), some (.int x105), none]) rfl (q := 88) rfl ?_
      refine xr_aload_n i_X9_readsPlayer_88 rfl (q := 89) rfl ?_
      refine xr_iload_n i_X9_readsPlayer_89 rfl (q := 90) rfl ?_
      refine xr_iconst i_X9_readsPlayer_90 (q := 91) rfl ?_
      refine xr_bipush i_X9_readsPlayer_91 (q := 93) rfl ?_
      obtain ⟨x107, m106, em106, h⟩ := xi_bI_some h
      refine xr_VI i_X9_readsPlayer_93 xcve_X9_97 rfl (As := [.ref v0, .int v1, .int (Int32.ofInt 1), .int ((Int8.ofInt 9).toInt32)]) rfl (rest := []) rfl ((cc_X9_readsPlayer_97 S _ _ _ _ _).trans em106) (q := 96) rfl ?_
      refine xr_istore i_X9_readsPlayer_96 rfl (L2 := [some (.ref v0), some (.int v1), some (.int x4), some (.int (((Int8.ofInt 10).toInt32) + ((Int32.ofInt 4) * (m3.1 b96 (Int32.toNatClampNeg (Int32.ofInt 1)))))), some (.int x103), some (.int x105), some (.int x107)]) rfl (q := 98) rfl ?_
      refine xr_aload_n i_X9_readsPlayer_98 rfl (q := 99) rfl ?_
      obtain ⟨c108, h⟩ := xi_if_some h
      refine xr_getI i_X9_readsPlayer_99 xfe_X9_87 c108 (q := 102) rfl ?_
      refine xr_bipush i_X9_readsPlayer_102 (q := 104) rfl ?_
      by_cases c125 : (m106.1 v0 19) = ((Int8.ofInt (-9)).toInt32)
      · replace h := (if_pos c125).symm.trans h
        refine xr_if_icmp_ne_p i_X9_readsPlayer_104 c125 (q := 154) t_X9_readsPlayer_104 (q2 := 107) rfl ?_
        refine xr_aload_n i_X9_readsPlayer_107 rfl (q := 108) rfl ?_
        obtain ⟨c109, h⟩ := xi_if_some h
        obtain ⟨b110, eb110, h⟩ := xi_bind_some h
        refine xr_getR i_X9_readsPlayer_108 xfe_X9_28 c109 eb110 (q := 111) rfl ?_
        refine xr_iload_n i_X9_readsPlayer_111 rfl (q := 112) rfl ?_
        refine xr_iload_n i_X9_readsPlayer_112 rfl (q := 113) rfl ?_
        obtain ⟨c111, h⟩ := xi_if_some h
        refine xr_iastore i_X9_readsPlayer_113 c111 (q := 114) rfl ?_
        refine xr_aload_n i_X9_readsPlayer_114 rfl (q := 115) rfl ?_
        obtain ⟨c112, h⟩ := xi_if_some h
        obtain ⟨b113, eb113, h⟩ := xi_bind_some h
        refine xr_getR i_X9_readsPlayer_115 xfe_X9_28 c112 eb113 (q := 118) rfl ?_
        refine xr_iload_n i_X9_readsPlayer_118 rfl (q := 119) rfl ?_
        refine xr_iconst i_X9_readsPlayer_119 (q := 120) rfl ?_
        refine xr_iadd i_X9_readsPlayer_120 (q := 121) rfl ?_
        refine xr_iload i_X9_readsPlayer_121 rfl (q := 123) rfl ?_
        obtain ⟨c114, h⟩ := xi_if_some h
        refine xr_iastore i_X9_readsPlayer_123 c114 (q := 124) rfl ?_
        refine xr_aload_n i_X9_readsPlayer_124 rfl (q := 125) rfl ?_
        obtain ⟨c115, h⟩ := xi_if_some h
        obtain ⟨b116, eb116, h⟩ := xi_bind_some h
        refine xr_getR i_X9_readsPlayer_125 xfe_X9_28 c115 eb116 (q := 128) rfl ?_
        refine xr_iload_n i_X9_readsPlayer_128 rfl (q := 129) rfl ?_
        refine xr_iconst i_X9_readsPlayer_129 (q := 130) rfl ?_
        refine xr_iadd i_X9_readsPlayer_130 (q := 131) rfl ?_
        refine xr_iload i_X9_readsPlayer_131 rfl (q := 133) rfl ?_
        obtain ⟨c117, h⟩ := xi_if_some h
        refine xr_iastore i_X9_readsPlayer_133 c117 (q := 134) rfl ?_
        refine xr_aload_n i_X9_readsPlayer_134 rfl (q := 135) rfl ?_
        obtain ⟨c118, h⟩ := xi_if_some h
        obtain ⟨b119, eb119, h⟩ := xi_bind_some h
        refine xr_getR i_X9_readsPlayer_135 xfe_X9_28 c118 eb119 (q := 138) rfl ?_
        refine xr_iload_n i_X9_readsPlayer_138 rfl (q := 139) rfl ?_
        refine xr_iconst i_X9_readsPlayer_139 (q := 140) rfl ?_
        refine xr_iadd i_X9_readsPlayer_140 (q := 141) rfl ?_
        refine xr_iload i_X9_readsPlayer_141 rfl (q := 143) rfl ?_
        obtain ⟨c120, h⟩ := xi_if_some h
        refine xr_iastore i_X9_readsPlayer_143 c120 (q := 144) rfl ?_
        refine xr_aload_n i_X9_readsPlayer_144 rfl (q := 145) rfl ?_
        obtain ⟨c121, h⟩ := xi_if_some h
        obtain ⟨b122, eb122, h⟩ := xi_bind_some h
        refine xr_getR i_X9_readsPlayer_145 xfe_X9_28 c121 eb122 (q := 148) rfl ?_
        refine xr_iconst i_X9_readsPlayer_148 (q := 149) rfl ?_
        refine xr_dup2 i_X9_readsPlayer_149 (q := 150) rfl ?_
        obtain ⟨c123, h⟩ := xi_if_some h
        refine xr_iaload i_X9_readsPlayer_150 c123 (q := 151) rfl ?_
        refine xr_iconst i_X9_readsPlayer_151 (q := 152) rfl ?_
        refine xr_iadd i_X9_readsPlayer_152 (q := 153) rfl ?_
        obtain ⟨c124, h⟩ := xi_if_some h
        refine xr_iastore i_X9_readsPlayer_153 c124 (q := 154) rfl ?_
        exact xr_return i_X9_readsPlayer_154 rfl h
      · replace h := (if_neg c125).symm.trans h
        refine xr_if_icmp_ne_n i_X9_readsPlayer_104 c125 (q := 154) t_X9_readsPlayer_104 (q2 := 107) rfl ?_
        exact xr_return i_X9_readsPlayer_154 rfl h
    · replace h := (if_neg c184).symm.trans h
      refine xr_if_icmp_eq_n i_X9_readsPlayer_39 c184 (q := 53) t_X9_readsPlayer_39 (q2 := 42) rfl ?_
      refine xr_aload_n i_X9_readsPlayer_42 rfl (q := 43) rfl ?_
      obtain ⟨c126, h⟩ := xi_if_some h
      obtain ⟨b127, eb127, h⟩ := xi_bind_some h
      refine xr_getR i_X9_readsPlayer_43 xfe_X9_28 c126 eb127 (q := 46) rfl ?_
      refine xr_iconst i_X9_readsPlayer_46 (q := 47) rfl ?_
      obtain ⟨c128, h⟩ := xi_if_some h
      refine xr_iaload i_X9_readsPlayer_47 c128 (q := 48) rfl ?_
      refine xr_bipush i_X9_readsPlayer_48 (q := 50) rfl ?_
      by_cases c183 : (m3.1 b127 (Int32.toNatClampNeg (Int32.ofInt 1))) = ((Int8.ofInt 6).toInt32)
      · replace h := (if_pos c183).symm.trans h
        refine xr_if_icmp_ne_p i_X9_readsPlayer_50 c183 (q := 61) t_X9_readsPlayer_50 (q2 := 53) rfl ?_
        refine xr_aload_n i_X9_readsPlayer_53 rfl (q := 54) rfl ?_
        refine xr_aload_n i_X9_readsPlayer_54 rfl (q := 55) rfl ?_
        obtain ⟨c155, h⟩ := xi_if_some h
        refine xr_getI i_X9_readsPlayer_55 xfe_X9_84 c155 (q := 58) rfl ?_
        obtain ⟨m156, em156, h⟩ := xi_bV_some h
        refine xr_VV i_X9_readsPlayer_58 xcve_X9_93 rfl (As := [.ref v0, .int (m3.1 v0 18)]) rfl (rest := []) rfl ((cc_X9_readsPlayer_93 S _ _ _).trans em156) (q := 61) rfl ?_
        refine xr_aload_n i_X9_readsPlayer_61 rfl (q := 62) rfl ?_
        refine xr_dup_r i_X9_readsPlayer_62 (q := 63) rfl ?_
        obtain ⟨c157, h⟩ := xi_if_some h
        refine xr_getI i_X9_readsPlayer_63 xfe_X9_84 c157 (q := 66) rfl ?_
        refine xr_iconst i_X9_readsPlayer_66 (q := 67) rfl ?_
        refine xr_iadd i_X9_readsPlayer_67 (q := 68) rfl ?_
        obtain ⟨c158, h⟩ := xi_if_some h
        refine xr_putI i_X9_readsPlayer_68 xfe_X9_84 c158 (q := 71) rfl ?_
        refine xr_aload_n i_X9_readsPlayer_71 rfl (q := 72) rfl ?_
        refine xr_iload_n i_X9_readsPlayer_72 rfl (q := 73) rfl ?_
        refine xr_iconst i_X9_readsPlayer_73 (q := 74) rfl ?_
        refine xr_iconst i_X9_readsPlayer_74 (q := 75) rfl ?_
        obtain ⟨x160, m159, em159, h⟩ := xi_bI_some h
        refine xr_VI i_X9_readsPlayer_75 xcve_X9_97 rfl (As := [.ref v0, .int v1, .int (Int32.ofInt 0), .int (Int32.ofInt 1)]) rfl (rest := []) rfl ((cc_X9_readsPlayer_97 S _ _ _ _ _).trans em159) (q := 78) rfl ?_
        refine xr_istore i_X9_readsPlayer_78 rfl (L2 := [some (.ref v0), some (.int v1), some (.int x4), some (.int (((Int8.ofInt 10).toInt32) + ((Int32.ofInt 4) * (m3.1 b96 (Int32.toNatClampNeg (Int32.ofInt 1)))))), some (.int x160), none, none]) rfl (q := 80) rfl ?_
        refine xr_aload_n i_X9_readsPlayer_80 rfl (q := 81) rfl ?_
        refine xr_iload_n i_X9_readsPlayer_81 rfl (q := 82) rfl ?_
        refine xr_iconst i_X9_readsPlayer_82 (q := 83) rfl ?_
        obtain ⟨x162, m161, em161, h⟩ := xi_bI_some h
        refine xr_VI i_X9_readsPlayer_83 xcve_X9_104 rfl (As := [.ref v0, .int v1, .int (Int32.ofInt 0)]) rfl (rest := []) rfl ((cc_X9_readsPlayer_104 S _ _ _ _).trans em161) (q := 86) rfl ?_
        refine xr_istore i_X9_readsPlayer_86 rfl (L2 := [some (.ref v0), some (.int v1), some (.int x4), some (.int (((Int8.ofInt 10).toInt32) + ((Int32.ofInt 4) * (m3.1 b96 (Int32.toNatClampNeg (Int32.ofInt 1)))))), some (.int x160), some (.int x162), none]) rfl (q := 88) rfl ?_
        refine xr_aload_n i_X9_readsPlayer_88 rfl (q := 89) rfl ?_
        refine xr_iload_n i_X9_readsPlayer_89 rfl (q := 90) rfl ?_
        refine xr_iconst i_X9_readsPlayer_90 (q := 91) rfl ?_
        refine xr_bipush i_X9_readsPlayer_91 (q := 93) rfl ?_
        obtain ⟨x164, m163, em163, h⟩ := xi_bI_some h
        refine xr_VI i_X9_readsPlayer_93 xcve_X9_97 rfl (As := [.ref v0, .int v1, .int (Int32.ofInt 1), .int ((Int8.ofInt 9).toInt32)]) rfl (rest := []) rfl ((cc_X9_readsPlayer_97 S _ _ _ _ _).trans em163) (q := 96) rfl ?_
        refine xr_istore i_X9_readsPlayer_96 rfl (L2 := [some (.ref v0), some (.int v1), some (.int x4), some (.int (((Int8.ofInt 10).toInt32) + ((Int32.ofInt 4) * (m3.1 b96 (Int32.toNatClampNeg (Int32.ofInt 1)))))), some (.int x160), some (.int x162), some (.int x164)]) rfl (q := 98) rfl ?_
        refine xr_aload_n i_X9_readsPlayer_98 rfl (q := 99) rfl ?_
        obtain ⟨c165, h⟩ := xi_if_some h
        refine xr_getI i_X9_readsPlayer_99 xfe_X9_87 c165 (q := 102) rfl ?_
        refine xr_bipush i_X9_readsPlayer_102 (q := 104) rfl ?_
        by_cases c182 : (m163.1 v0 19) = ((Int8.ofInt (-9)).toInt32)
        · replace h := (if_pos c182).symm.trans h
          refine xr_if_icmp_ne_p i_X9_readsPlayer_104 c182 (q := 154) t_X9_readsPlayer_104 (q2 := 107) rfl ?_
          refine xr_aload_n i_X9_readsPlayer_107 rfl (q := 108) rfl ?_
          obtain ⟨c166, h⟩ := xi_if_some h
          obtain ⟨b167, eb167, h⟩ := xi_bind_some h
          refine xr_getR i_X9_readsPlayer_108 xfe_X9_28 c166 eb167 (q := 111) rfl ?_
          refine xr_iload_n i_X9_readsPlayer_111 rfl (q := 112) rfl ?_
          refine xr_iload_n i_X9_readsPlayer_112 rfl (q := 113) rfl ?_
          obtain ⟨c168, h⟩ := xi_if_some h
          refine xr_iastore i_X9_readsPlayer_113 c168 (q := 114) rfl ?_
          refine xr_aload_n i_X9_readsPlayer_114 rfl (q := 115) rfl ?_
          obtain ⟨c169, h⟩ := xi_if_some h
          obtain ⟨b170, eb170, h⟩ := xi_bind_some h
          refine xr_getR i_X9_readsPlayer_115 xfe_X9_28 c169 eb170 (q := 118) rfl ?_
          refine xr_iload_n i_X9_readsPlayer_118 rfl (q := 119) rfl ?_
          refine xr_iconst i_X9_readsPlayer_119 (q := 120) rfl ?_
          refine xr_iadd i_X9_readsPlayer_120 (q := 121) rfl ?_
          refine xr_iload i_X9_readsPlayer_121 rfl (q := 123) rfl ?_
          obtain ⟨c171, h⟩ := xi_if_some h
          refine xr_iastore i_X9_readsPlayer_123 c171 (q := 124) rfl ?_
          refine xr_aload_n i_X9_readsPlayer_124 rfl (q := 125) rfl ?_
          obtain ⟨c172, h⟩ := xi_if_some h
          obtain ⟨b173, eb173, h⟩ := xi_bind_some h
          refine xr_getR i_X9_readsPlayer_125 xfe_X9_28 c172 eb173 (q := 128) rfl ?_
          refine xr_iload_n i_X9_readsPlayer_128 rfl (q := 129) rfl ?_
          refine xr_iconst i_X9_readsPlayer_129 (q := 130) rfl ?_
          refine xr_iadd i_X9_readsPlayer_130 (q := 131) rfl ?_
          refine xr_iload i_X9_readsPlayer_131 rfl (q := 133) rfl ?_
          obtain ⟨c174, h⟩ := xi_if_some h
          refine xr_iastore i_X9_readsPlayer_133 c174 (q := 134) rfl ?_
          refine xr_aload_n i_X9_readsPlayer_134 rfl (q := 135) rfl ?_
          obtain ⟨c175, h⟩ := xi_if_some h
          obtain ⟨b176, eb176, h⟩ := xi_bind_some h
          refine xr_getR i_X9_readsPlayer_135 xfe_X9_28 c175 eb176 (q := 138) rfl ?_
          refine xr_iload_n i_X9_readsPlayer_138 rfl (q := 139) rfl ?_
          refine xr_iconst i_X9_readsPlayer_139 (q := 140) rfl ?_
          refine xr_iadd i_X9_readsPlayer_140 (q := 141) rfl ?_
          refine xr_iload i_X9_readsPlayer_141 rfl (q := 143) rfl ?_
          obtain ⟨c177, h⟩ := xi_if_some h
          refine xr_iastore i_X9_readsPlayer_143 c177 (q := 144) rfl ?_
          refine xr_aload_n i_X9_readsPlayer_144 rfl (q := 145) rfl ?_
          obtain ⟨c178, h⟩ := xi_if_some h
          obtain ⟨b179, eb179, h⟩ := xi_bind_some h
          refine xr_getR i_X9_readsPlayer_145 xfe_X9_28 c178 eb179 (q := 148) rfl ?_
          refine xr_iconst i_X9_readsPlayer_148 (q := 149) rfl ?_
          refine xr_dup2 i_X9_readsPlayer_149 (q := 150) rfl ?_
          obtain ⟨c180, h⟩ := xi_if_some h
          refine xr_iaload i_X9_readsPlayer_150 c180 (q := 151) rfl ?_
          refine xr_iconst i_X9_readsPlayer_151 (q := 152) rfl ?_
          refine xr_iadd i_X9_readsPlayer_152 (q := 153) rfl ?_
          obtain ⟨c181, h⟩ := xi_if_some h
          refine xr_iastore i_X9_readsPlayer_153 c181 (q := 154) rfl ?_
          exact xr_return i_X9_readsPlayer_154 rfl h
        · replace h := (if_neg c182).symm.trans h
          refine xr_if_icmp_ne_n i_X9_readsPlayer_104 c182 (q := 154) t_X9_readsPlayer_104 (q2 := 107) rfl ?_
          exact xr_return i_X9_readsPlayer_154 rfl h
      · replace h := (if_neg c183).symm.trans h
        refine xr_if_icmp_ne_n i_X9_readsPlayer_50 c183 (q := 61) t_X9_readsPlayer_50 (q2 := 53) rfl ?_
        refine xr_aload_n i_X9_readsPlayer_61 rfl (q := 62) rfl ?_
        refine xr_dup_r i_X9_readsPlayer_62 (q := 63) rfl ?_
        obtain ⟨c129, h⟩ := xi_if_some h
        refine xr_getI i_X9_readsPlayer_63 xfe_X9_84 c129 (q := 66) rfl ?_
        refine xr_iconst i_X9_readsPlayer_66 (q := 67) rfl ?_
        refine xr_iadd i_X9_readsPlayer_67 (q := 68) rfl ?_
        obtain ⟨c130, h⟩ := xi_if_some h
        refine xr_putI i_X9_readsPlayer_68 xfe_X9_84 c130 (q := 71) rfl ?_
        refine xr_aload_n i_X9_readsPlayer_71 rfl (q := 72) rfl ?_
        refine xr_iload_n i_X9_readsPlayer_72 rfl (q := 73) rfl ?_
        refine xr_iconst i_X9_readsPlayer_73 (q := 74) rfl ?_
        refine xr_iconst i_X9_readsPlayer_74 (q := 75) rfl ?_
        obtain ⟨x132, m131, em131, h⟩ := xi_bI_some h
        refine xr_VI i_X9_readsPlayer_75 xcve_X9_97 rfl (As := [.ref v0, .int v1, .int (Int32.ofInt 0), .int (Int32.ofInt 1)]) rfl (rest := []) rfl ((cc_X9_readsPlayer_97 S _ _ _ _ _).trans em131) (q := 78) rfl ?_
        refine xr_istore i_X9_readsPlayer_78 rfl (L2 := [some (.ref v0), some (.int v1), some (.int x4), some (.int (((Int8.ofInt 10).toInt32) + ((Int32.ofInt 4) * (m3.1 b96 (Int32.toNatClampNeg (Int32.ofInt 1)))))), some (.int x132), none, none]) rfl (q := 80) rfl ?_
        refine xr_aload_n i_X9_readsPlayer_80 rfl (q := 81) rfl ?_
        refine xr_iload_n i_X9_readsPlayer_81 rfl (q := 82) rfl ?_
        refine xr_iconst i_X9_readsPlayer_82 (q := 83) rfl ?_
        obtain ⟨x134, m133, em133, h⟩ := xi_bI_some h
        refine xr_VI i_X9_readsPlayer_83 xcve_X9_104 rfl (As := [.ref v0, .int v1, .int (Int32.ofInt 0)]) rfl (rest := []) rfl ((cc_X9_readsPlayer_104 S _ _ _ _).trans em133) (q := 86) rfl ?_
        refine xr_istore i_X9_readsPlayer_86 rfl (L2 := [some (.ref v0), some (.int v1), some (.int x4), some (.int (((Int8.ofInt 10).toInt32) + ((Int32.ofInt 4) * (m3.1 b96 (Int32.toNatClampNeg (Int32.ofInt 1)))))), some (.int x132), some (.int x134), none]) rfl (q := 88) rfl ?_
        refine xr_aload_n i_X9_readsPlayer_88 rfl (q := 89) rfl ?_
        refine xr_iload_n i_X9_readsPlayer_89 rfl (q := 90) rfl ?_
        refine xr_iconst i_X9_readsPlayer_90 (q := 91) rfl ?_
        refine xr_bipush i_X9_readsPlayer_91 (q := 93) rfl ?_
        obtain ⟨x136, m135, em135, h⟩ := xi_bI_some h
        refine xr_VI i_X9_readsPlayer_93 xcve_X9_97 rfl (As := [.ref v0, .int v1, .int (Int32.ofInt 1), .int ((Int8.ofInt 9).toInt32)]) rfl (rest := []) rfl ((cc_X9_readsPlayer_97 S _ _ _ _ _).trans em135) (q := 96) rfl ?_
        refine xr_istore i_X9_readsPlayer_96 rfl (L2 := [some (.ref v0), some (.int v1), some (.int x4), some (.int (((Int8.ofInt 10).toInt32) + ((Int32.ofInt 4) * (m3.1 b96 (Int32.toNatClampNeg (Int32.ofInt 1)))))), some (.int x132), some (.int x134), some (.int x136)]) rfl (q := 98) rfl ?_
        refine xr_aload_n i_X9_readsPlayer_98 rfl (q := 99) rfl ?_
        obtain ⟨c137, h⟩ := xi_if_some h
        refine xr_getI i_X9_readsPlayer_99 xfe_X9_87 c137 (q := 102) rfl ?_
        refine xr_bipush i_X9_readsPlayer_102 (q := 104) rfl ?_
        by_cases c154 : (m135.1 v0 19) = ((Int8.ofInt (-9)).toInt32)
        · replace h := (if_pos c154).symm.trans h
          refine xr_if_icmp_ne_p i_X9_readsPlayer_104 c154 (q := 154) t_X9_readsPlayer_104 (q2 := 107) rfl ?_
          refine xr_aload_n i_X9_readsPlayer_107 rfl (q := 108) rfl ?_
          obtain ⟨c138, h⟩ := xi_if_some h
          obtain ⟨b139, eb139, h⟩ := xi_bind_some h
          refine xr_getR i_X9_readsPlayer_108 xfe_X9_28 c138 eb139 (q := 111) rfl ?_
          refine xr_iload_n i_X9_readsPlayer_111 rfl (q := 112) rfl ?_
          refine xr_iload_n i_X9_readsPlayer_112 rfl (q := 113) rfl ?_
          obtain ⟨c140, h⟩ := xi_if_some h
          refine xr_iastore i_X9_readsPlayer_113 c140 (q := 114) rfl ?_
          refine xr_aload_n i_X9_readsPlayer_114 rfl (q := 115) rfl ?_
          obtain ⟨c141, h⟩ := xi_if_some h
          obtain ⟨b142, eb142, h⟩ := xi_bind_some h
          refine xr_getR i_X9_readsPlayer_115 xfe_X9_28 c141 eb142 (q := 118) rfl ?_
          refine xr_iload_n i_X9_readsPlayer_118 rfl (q := 119) rfl ?_
          refine xr_iconst i_X9_readsPlayer_119 (q := 120) rfl ?_
          refine xr_iadd i_X9_readsPlayer_120 (q := 121) rfl ?_
          refine xr_iload i_X9_readsPlayer_121 rfl (q := 123) rfl ?_
          obtain ⟨c143, h⟩ := xi_if_some h
          refine xr_iastore i_X9_readsPlayer_123 c143 (q := 124) rfl ?_
          refine xr_aload_n i_X9_readsPlayer_124 rfl (q := 125) rfl ?_
          obtain ⟨c144, h⟩ := xi_if_some h
          obtain ⟨b145, eb145, h⟩ := xi_bind_some h
          refine xr_getR i_X9_readsPlayer_125 xfe_X9_28 c144 eb145 (q := 128) rfl ?_
          refine xr_iload_n i_X9_readsPlayer_128 rfl (q := 129) rfl ?_
          refine xr_iconst i_X9_readsPlayer_129 (q := 130) rfl ?_
          refine xr_iadd i_X9_readsPlayer_130 (q := 131) rfl ?_
          refine xr_iload i_X9_readsPlayer_131 rfl (q := 133) rfl ?_
          obtain ⟨c146, h⟩ := xi_if_some h
          refine xr_iastore i_X9_readsPlayer_133 c146 (q := 134) rfl ?_
          refine xr_aload_n i_X9_readsPlayer_134 rfl (q := 135) rfl ?_
          obtain ⟨c147, h⟩ := xi_if_some h
          obtain ⟨b148, eb148, h⟩ := xi_bind_some h
          refine xr_getR i_X9_readsPlayer_135 xfe_X9_28 c147 eb148 (q := 138) rfl ?_
          refine xr_iload_n i_X9_readsPlayer_138 rfl (q := 139) rfl ?_
          refine xr_iconst i_X9_readsPlayer_139 (q := 140) rfl ?_
          refine xr_iadd i_X9_readsPlayer_140 (q := 141) rfl ?_
          refine xr_iload i_X9_readsPlayer_141 rfl (q := 143) rfl ?_
          obtain ⟨c149, h⟩ := xi_if_some h
          refine xr_iastore i_X9_readsPlayer_143 c149 (q := 144) rfl ?_
          refine xr_aload_n i_X9_readsPlayer_144 rfl (q := 145) rfl ?_
          obtain ⟨c150, h⟩ := xi_if_some h
          obtain ⟨b151, eb151, h⟩ := xi_bind_some h
          refine xr_getR i_X9_readsPlayer_145 xfe_X9_28 c150 eb151 (q := 148) rfl ?_
          refine xr_iconst i_X9_readsPlayer_148 (q := 149) rfl ?_
          refine xr_dup2 i_X9_readsPlayer_149 (q := 150) rfl ?_
          obtain ⟨c152, h⟩ := xi_if_some h
          refine xr_iaload i_X9_readsPlayer_150 c152 (q := 151) rfl ?_
          refine xr_iconst i_X9_readsPlayer_151 (q := 152) rfl ?_
          refine xr_iadd i_X9_readsPlayer_152 (q := 153) rfl ?_
          obtain ⟨c153, h⟩ := xi_if_some h
          refine xr_iastore i_X9_readsPlayer_153 c153 (q := 154) rfl ?_
          exact xr_return i_X9_readsPlayer_154 rfl h
        · replace h := (if_neg c154).symm.trans h
          refine xr_if_icmp_ne_n i_X9_readsPlayer_104 c154 (q := 154) t_X9_readsPlayer_104 (q2 := 107) rfl ?_
          exact xr_return i_X9_readsPlayer_154 rfl h
set_option maxRecDepth 100000 in
theorem po_X9_readsPlayer {l : Launch} {E : xi_E} {S : xi_S} {D : va_G} {tys : List (ClassId × FieldType)} (hC : xCx E S tys) : xi_Pok l E S D vwCl tys xNs RX9 xTs cX9_readsPlayer 7 3 (P_X9_readsPlayer S) := ⟨xi_dc_ok, by rw [hC.2]; exact xfo_X9, xkio_X9, xklo_X9, xi_calls_ok (ins := .invokestatic) (List.forall_mem_cons.mpr ⟨(xc_X9_101 (sn_X9_kindOf hC) (by decide)), fun _ h => absurd h List.not_mem_nil⟩), xi_calls_ok (ins := .invokevirtual) (List.forall_mem_cons.mpr ⟨(xc_X9_90 hC.1 (sn_X9_look hC) (by decide)), List.forall_mem_cons.mpr ⟨(xc_X9_93 hC.1 (sn_X9_fails hC) (by decide)), List.forall_mem_cons.mpr ⟨(xc_X9_97 hC.1 (sn_X9_figure hC) (by decide)), List.forall_mem_cons.mpr ⟨(xc_X9_104 hC.1 (sn_X9_place hC) (by decide)), fun _ h => absurd h List.not_mem_nil⟩⟩⟩⟩)⟩
theorem sn_X9_readsPlayer {l : Launch} {E : xi_E} {S : xi_S} {D : va_G} {tys : List (ClassId × FieldType)} (hC : xCx E S tys) : ∀ As m1 r m2, F_X9_readsPlayer S As m1 = some (r, m2) → xi_Sound l E S D vwCl tys xNs xTs yX9_readsPlayer cX9_readsPlayer 7 none 3 As m1 r m2 := by
  intro As m1 r m2 h
  unfold F_X9_readsPlayer at h
  split at h
  · exact xi_meth (P := P_X9_readsPlayer S) (by decide) hC.1 (po_X9_readsPlayer hC) (Nat.le_of_ble_eq_true rfl) rfl (xe_X9_readsPlayer _ _ _ h)
  · exact xi_no h
theorem i_X9_reads_0 : xi_dc cX9_reads 0 = some (.iconst 0, 1) := by decide +kernel
theorem i_X9_reads_1 : xi_dc cX9_reads 1 = some (.istore_n 2, 1) := by decide +kernel
theorem i_X9_reads_2 : xi_dc cX9_reads 2 = some (.iload_n 2, 1) := by decide +kernel
theorem i_X9_reads_3 : xi_dc cX9_reads 3 = some (.bipush 34, 2) := by decide +kernel
theorem i_X9_reads_5 : xi_dc cX9_reads 5 = some (.if_icmp .ge 16, 3) := by decide +kernel
theorem t_X9_reads_5 : ((5 : Nat) : Int) + 16 = ((21 : Nat) : Int) := by decide +kernel
theorem i_X9_reads_8 : xi_dc cX9_reads 8 = some (.aload_n 0, 1) := by decide +kernel
theorem i_X9_reads_9 : xi_dc cX9_reads 9 = some (.getfield 28, 3) := by decide +kernel
theorem i_X9_reads_12 : xi_dc cX9_reads 12 = some (.iload_n 2, 1) := by decide +kernel
theorem i_X9_reads_13 : xi_dc cX9_reads 13 = some (.iconst 0, 1) := by decide +kernel
theorem i_X9_reads_14 : xi_dc cX9_reads 14 = some (.iastore, 1) := by decide +kernel
theorem i_X9_reads_15 : xi_dc cX9_reads 15 = some (.iinc 2 1, 3) := by decide +kernel
theorem i_X9_reads_18 : xi_dc cX9_reads 18 = some (.goto (-16), 3) := by decide +kernel
theorem t_X9_reads_18 : ((18 : Nat) : Int) + (-16) = ((2 : Nat) : Int) := by decide +kernel
theorem i_X9_reads_21 : xi_dc cX9_reads 21 = some (.aload_n 0, 1) := by decide +kernel
theorem i_X9_reads_22 : xi_dc cX9_reads 22 = some (.iconst 0, 1) := by decide +kernel
theorem i_X9_reads_23 : xi_dc cX9_reads 23 = some (.putfield 84, 3) := by decide +kernel
theorem i_X9_reads_26 : xi_dc cX9_reads 26 = some (.aload_n 0, 1) := by decide +kernel
theorem i_X9_reads_27 : xi_dc cX9_reads 27 = some (.bipush (-9), 2) := by decide +kernel
theorem i_X9_reads_29 : xi_dc cX9_reads 29 = some (.putfield 87, 3) := by decide +kernel
theorem i_X9_reads_32 : xi_dc cX9_reads 32 = some (.aload_n 0, 1) := by decide +kernel
theorem i_X9_reads_33 : xi_dc cX9_reads 33 = some (.iload_n 1, 1) := by decide +kernel
theorem i_X9_reads_34 : xi_dc cX9_reads 34 = some (.invokevirtual 108, 3) := by decide +kernel
theorem i_X9_reads_37 : xi_dc cX9_reads 37 = some (.aload_n 0, 1) := by decide +kernel
theorem i_X9_reads_38 : xi_dc cX9_reads 38 = some (.iload_n 1, 1) := by decide +kernel
theorem i_X9_reads_39 : xi_dc cX9_reads 39 = some (.bipush 103, 2) := by decide +kernel
theorem i_X9_reads_41 : xi_dc cX9_reads 41 = some (.invokevirtual 111, 3) := by decide +kernel
theorem i_X9_reads_44 : xi_dc cX9_reads 44 = some (.aload_n 0, 1) := by decide +kernel
theorem i_X9_reads_45 : xi_dc cX9_reads 45 = some (.getfield 28, 3) := by decide +kernel
theorem i_X9_reads_48 : xi_dc cX9_reads 48 = some (.iconst 0, 1) := by decide +kernel
theorem i_X9_reads_49 : xi_dc cX9_reads 49 = some (.aload_n 0, 1) := by decide +kernel
theorem i_X9_reads_50 : xi_dc cX9_reads 50 = some (.iload_n 1, 1) := by decide +kernel
theorem i_X9_reads_51 : xi_dc cX9_reads 51 = some (.iconst 0, 1) := by decide +kernel
theorem i_X9_reads_52 : xi_dc cX9_reads 52 = some (.iconst 1, 1) := by decide +kernel
theorem i_X9_reads_53 : xi_dc cX9_reads 53 = some (.invokevirtual 97, 3) := by decide +kernel
theorem i_X9_reads_56 : xi_dc cX9_reads 56 = some (.iastore, 1) := by decide +kernel
theorem i_X9_reads_57 : xi_dc cX9_reads 57 = some (.iconst 0, 1) := by decide +kernel
theorem i_X9_reads_58 : xi_dc cX9_reads 58 = some (.istore_n 2, 1) := by decide +kernel
theorem i_X9_reads_59 : xi_dc cX9_reads 59 = some (.iload_n 2, 1) := by decide +kernel
theorem i_X9_reads_60 : xi_dc cX9_reads 60 = some (.iconst 4, 1) := by decide +kernel
theorem i_X9_reads_61 : xi_dc cX9_reads 61 = some (.if_icmp .ge 58, 3) := by decide +kernel
theorem t_X9_reads_61 : ((61 : Nat) : Int) + 58 = ((119 : Nat) : Int) := by decide +kernel
theorem i_X9_reads_64 : xi_dc cX9_reads 64 = some (.aload_n 0, 1) := by decide +kernel
theorem i_X9_reads_65 : xi_dc cX9_reads 65 = some (.iload_n 1, 1) := by decide +kernel
theorem i_X9_reads_66 : xi_dc cX9_reads 66 = some (.invokevirtual 108, 3) := by decide +kernel
theorem i_X9_reads_69 : xi_dc cX9_reads 69 = some (.aload_n 0, 1) := by decide +kernel
theorem i_X9_reads_70 : xi_dc cX9_reads 70 = some (.iload_n 1, 1) := by decide +kernel
theorem i_X9_reads_71 : xi_dc cX9_reads 71 = some (.bipush 99, 2) := by decide +kernel
theorem i_X9_reads_73 : xi_dc cX9_reads 73 = some (.invokevirtual 111, 3) := by decide +kernel
theorem i_X9_reads_76 : xi_dc cX9_reads 76 = some (.aload_n 0, 1) := by decide +kernel
theorem i_X9_reads_77 : xi_dc cX9_reads 77 = some (.getfield 28, 3) := by decide +kernel
theorem i_X9_reads_80 : xi_dc cX9_reads 80 = some (.bipush 6, 2) := by decide +kernel
theorem i_X9_reads_82 : xi_dc cX9_reads 82 = some (.iload_n 2, 1) := by decide +kernel
theorem i_X9_reads_83 : xi_dc cX9_reads 83 = some (.iadd, 1) := by decide +kernel
theorem i_X9_reads_84 : xi_dc cX9_reads 84 = some (.aload_n 0, 1) := by decide +kernel
theorem i_X9_reads_85 : xi_dc cX9_reads 85 = some (.iload_n 1, 1) := by decide +kernel
theorem i_X9_reads_86 : xi_dc cX9_reads 86 = some (.iload_n 2, 1) := by decide +kernel
theorem i_X9_reads_87 : xi_dc cX9_reads 87 = some (.iconst 2, 1) := by decide +kernel
theorem i_X9_reads_88 : xi_dc cX9_reads 88 = some (.irem, 1) := by decide +kernel
theorem i_X9_reads_89 : xi_dc cX9_reads 89 = some (.ifCond .ne 7, 3) := by decide +kernel
theorem t_X9_reads_89 : ((89 : Nat) : Int) + 7 = ((96 : Nat) : Int) := by decide +kernel
theorem i_X9_reads_92 : xi_dc cX9_reads 92 = some (.iconst 0, 1) := by decide +kernel
theorem i_X9_reads_93 : xi_dc cX9_reads 93 = some (.goto 16, 3) := by decide +kernel
theorem t_X9_reads_93 : ((93 : Nat) : Int) + 16 = ((109 : Nat) : Int) := by decide +kernel
theorem i_X9_reads_96 : xi_dc cX9_reads 96 = some (.aload_n 0, 1) := by decide +kernel
theorem i_X9_reads_97 : xi_dc cX9_reads 97 = some (.getfield 28, 3) := by decide +kernel
theorem i_X9_reads_100 : xi_dc cX9_reads 100 = some (.bipush 6, 2) := by decide +kernel
theorem i_X9_reads_102 : xi_dc cX9_reads 102 = some (.iload_n 2, 1) := by decide +kernel
theorem i_X9_reads_103 : xi_dc cX9_reads 103 = some (.iadd, 1) := by decide +kernel
theorem i_X9_reads_104 : xi_dc cX9_reads 104 = some (.iconst 1, 1) := by decide +kernel
theorem i_X9_reads_105 : xi_dc cX9_reads 105 = some (.isub, 1) := by decide +kernel
theorem i_X9_reads_106 : xi_dc cX9_reads 106 = some (.iaload, 1) := by decide +kernel
theorem i_X9_reads_107 : xi_dc cX9_reads 107 = some (.iconst 1, 1) := by decide +kernel
theorem i_X9_reads_108 : xi_dc cX9_reads 108 = some (.iadd, 1) := by decide +kernel
theorem i_X9_reads_109 : xi_dc cX9_reads 109 = some (.invokevirtual 104, 3) := by decide +kernel
theorem i_X9_reads_112 : xi_dc cX9_reads 112 = some (.iastore, 1) := by decide +kernel
theorem i_X9_reads_113 : xi_dc cX9_reads 113 = some (.iinc 2 1, 3) := by decide +kernel
theorem i_X9_reads_116 : xi_dc cX9_reads 116 = some (.goto (-57), 3) := by decide +kernel
theorem t_X9_reads_116 : ((116 : Nat) : Int) + (-57) = ((59 : Nat) : Int) := by decide +kernel
theorem i_X9_reads_119 : xi_dc cX9_reads 119 = some (.aload_n 0, 1) := by decide +kernel
theorem i_X9_reads_120 : xi_dc cX9_reads 120 = some (.iload_n 1, 1) := by decide +kernel
theorem i_X9_reads_121 : xi_dc cX9_reads 121 = some (.invokevirtual 108, 3) := by decide +kernel
theorem i_X9_reads_124 : xi_dc cX9_reads 124 = some (.aload_n 0, 1) := by decide +kernel
theorem i_X9_reads_125 : xi_dc cX9_reads 125 = some (.getfield 87, 3) := by decide +kernel
theorem i_X9_reads_128 : xi_dc cX9_reads 128 = some (.bipush (-9), 2) := by decide +kernel
theorem i_X9_reads_130 : xi_dc cX9_reads 130 = some (.if_icmp .ne 27, 3) := by decide +kernel
theorem t_X9_reads_130 : ((130 : Nat) : Int) + 27 = ((157 : Nat) : Int) := by decide +kernel
theorem i_X9_reads_133 : xi_dc cX9_reads 133 = some (.aload_n 0, 1) := by decide +kernel
theorem i_X9_reads_134 : xi_dc cX9_reads 134 = some (.iload_n 1, 1) := by decide +kernel
theorem i_X9_reads_135 : xi_dc cX9_reads 135 = some (.invokevirtual 90, 3) := by decide +kernel
theorem i_X9_reads_138 : xi_dc cX9_reads 138 = some (.sipush (-1000), 3) := by decide +kernel
theorem i_X9_reads_141 : xi_dc cX9_reads 141 = some (.if_icmp .eq 16, 3) := by decide +kernel
theorem t_X9_reads_141 : ((141 : Nat) : Int) + 16 = ((157 : Nat) : Int) := by decide +kernel
theorem i_X9_reads_144 : xi_dc cX9_reads 144 = some (.aload_n 0, 1) := by decide +kernel
theorem i_X9_reads_145 : xi_dc cX9_reads 145 = some (.iload_n 1, 1) := by decide +kernel
theorem i_X9_reads_146 : xi_dc cX9_reads 146 = some (.invokevirtual 115, 3) := by decide +kernel
theorem i_X9_reads_149 : xi_dc cX9_reads 149 = some (.aload_n 0, 1) := by decide +kernel
theorem i_X9_reads_150 : xi_dc cX9_reads 150 = some (.iload_n 1, 1) := by decide +kernel
theorem i_X9_reads_151 : xi_dc cX9_reads 151 = some (.invokevirtual 108, 3) := by decide +kernel
theorem i_X9_reads_154 : xi_dc cX9_reads 154 = some (.goto (-30), 3) := by decide +kernel
theorem t_X9_reads_154 : ((154 : Nat) : Int) + (-30) = ((124 : Nat) : Int) := by decide +kernel
theorem i_X9_reads_157 : xi_dc cX9_reads 157 = some (.aload_n 0, 1) := by decide +kernel
theorem i_X9_reads_158 : xi_dc cX9_reads 158 = some (.getfield 87, 3) := by decide +kernel
theorem i_X9_reads_161 : xi_dc cX9_reads 161 = some (.bipush (-9), 2) := by decide +kernel
theorem i_X9_reads_163 : xi_dc cX9_reads 163 = some (.if_icmp .ne 22, 3) := by decide +kernel
theorem t_X9_reads_163 : ((163 : Nat) : Int) + 22 = ((185 : Nat) : Int) := by decide +kernel
theorem i_X9_reads_166 : xi_dc cX9_reads 166 = some (.aload_n 0, 1) := by decide +kernel
theorem i_X9_reads_167 : xi_dc cX9_reads 167 = some (.getfield 28, 3) := by decide +kernel
theorem i_X9_reads_170 : xi_dc cX9_reads 170 = some (.iconst 1, 1) := by decide +kernel
theorem i_X9_reads_171 : xi_dc cX9_reads 171 = some (.iaload, 1) := by decide +kernel
theorem i_X9_reads_172 : xi_dc cX9_reads 172 = some (.ifCond .ne 13, 3) := by decide +kernel
theorem t_X9_reads_172 : ((172 : Nat) : Int) + 13 = ((185 : Nat) : Int) := by decide +kernel
theorem i_X9_reads_175 : xi_dc cX9_reads 175 = some (.aload_n 0, 1) := by decide +kernel
theorem i_X9_reads_176 : xi_dc cX9_reads 176 = some (.aload_n 0, 1) := by decide +kernel
theorem i_X9_reads_177 : xi_dc cX9_reads 177 = some (.getfield 16, 3) := by decide +kernel
theorem i_X9_reads_180 : xi_dc cX9_reads 180 = some (.iload_n 1, 1) := by decide +kernel
theorem i_X9_reads_181 : xi_dc cX9_reads 181 = some (.iaload, 1) := by decide +kernel
theorem i_X9_reads_182 : xi_dc cX9_reads 182 = some (.invokevirtual 93, 3) := by decide +kernel
theorem i_X9_reads_185 : xi_dc cX9_reads 185 = some (.aload_n 0, 1) := by decide +kernel
theorem i_X9_reads_186 : xi_dc cX9_reads 186 = some (.getfield 87, 3) := by decide +kernel
theorem i_X9_reads_189 : xi_dc cX9_reads 189 = some (.ireturn, 1) := by decide +kernel
def P_X9_reads (S : xi_S) : xi_P := (xi_dc cX9_reads, xi_tab xfl_X9, xi_tab xki_X9, xi_tab xkl_X9, xi_tab xcs_X9, xi_tab xcv_X9, xi_calls [], xi_calls [(90, xi_wV S 11 1 (F_X9_look S)), (93, xi_wV S 11 1 (F_X9_fails S)), (97, xi_wV S 11 3 (F_X9_figure S)), (104, xi_wV S 11 2 (F_X9_place S)), (108, xi_wV S 11 1 (F_X9_blanks S)), (111, xi_wV S 11 2 (F_X9_letter S)), (115, xi_wV S 11 1 (F_X9_readsPlayer S))], 1)
theorem cc_X9_reads_90 (S : xi_S) (a0 : Nat) (a1 : Int32) (m : xi_M) : (P_X9_reads S).2.2.2.2.2.2.2.1 90 [.ref a0, .int a1] m = (if S.1 a0 = 11 then E_X9_look S a0 a1 m else none) := by
  show xi_calls [(90, xi_wV S 11 1 (F_X9_look S)), (93, xi_wV S 11 1 (F_X9_fails S)), (97, xi_wV S 11 3 (F_X9_figure S)), (104, xi_wV S 11 2 (F_X9_place S)), (108, xi_wV S 11 1 (F_X9_blanks S)), (111, xi_wV S 11 2 (F_X9_letter S)), (115, xi_wV S 11 1 (F_X9_readsPlayer S))] 90 [.ref a0, .int a1] m = _
  refine Eq.trans (b := xi_wV S 11 1 (F_X9_look S) [.ref a0, .int a1] m) (xi_calls_hit rfl) ?_
  exact xi_wV_eq rfl
theorem cc_X9_reads_93 (S : xi_S) (a0 : Nat) (a1 : Int32) (m : xi_M) : (P_X9_reads S).2.2.2.2.2.2.2.1 93 [.ref a0, .int a1] m = (if S.1 a0 = 11 then E_X9_fails S a0 a1 m else none) := by
  show xi_calls [(90, xi_wV S 11 1 (F_X9_look S)), (93, xi_wV S 11 1 (F_X9_fails S)), (97, xi_wV S 11 3 (F_X9_figure S)), (104, xi_wV S 11 2 (F_X9_place S)), (108, xi_wV S 11 1 (F_X9_blanks S)), (111, xi_wV S 11 2 (F_X9_letter S)), (115, xi_wV S 11 1 (F_X9_readsPlayer S))] 93 [.ref a0, .int a1] m = _
  refine Eq.trans (b := xi_calls [(93, xi_wV S 11 1 (F_X9_fails S)), (97, xi_wV S 11 3 (F_X9_figure S)), (104, xi_wV S 11 2 (F_X9_place S)), (108, xi_wV S 11 1 (F_X9_blanks S)), (111, xi_wV S 11 2 (F_X9_letter S)), (115, xi_wV S 11 1 (F_X9_readsPlayer S))] 93 [.ref a0, .int a1] m) (xi_calls_miss rfl) ?_
  refine Eq.trans (b := xi_wV S 11 1 (F_X9_fails S) [.ref a0, .int a1] m) (xi_calls_hit rfl) ?_
  exact xi_wV_eq rfl
theorem cc_X9_reads_97 (S : xi_S) (a0 : Nat) (a1 : Int32) (a2 : Int32) (a3 : Int32) (m : xi_M) : (P_X9_reads S).2.2.2.2.2.2.2.1 97 [.ref a0, .int a1, .int a2, .int a3] m = (if S.1 a0 = 11 then E_X9_figure S a0 a1 a2 a3 m else none) := by
  show xi_calls [(90, xi_wV S 11 1 (F_X9_look S)), (93, xi_wV S 11 1 (F_X9_fails S)), (97, xi_wV S 11 3 (F_X9_figure S)), (104, xi_wV S 11 2 (F_X9_place S)), (108, xi_wV S 11 1 (F_X9_blanks S)), (111, xi_wV S 11 2 (F_X9_letter S)), (115, xi_wV S 11 1 (F_X9_readsPlayer S))] 97 [.ref a0, .int a1, .int a2, .int a3] m = _
  refine Eq.trans (b := xi_calls [(93, xi_wV S 11 1 (F_X9_fails S)), (97, xi_wV S 11 3 (F_X9_figure S)), (104, xi_wV S 11 2 (F_X9_place S)), (108, xi_wV S 11 1 (F_X9_blanks S)), (111, xi_wV S 11 2 (F_X9_letter S)), (115, xi_wV S 11 1 (F_X9_readsPlayer S))] 97 [.ref a0, .int a1, .int a2, .int a3] m) (xi_calls_miss rfl) ?_
  refine Eq.trans (b := xi_calls [(97, xi_wV S 11 3 (F_X9_figure S)), (104, xi_wV S 11 2 (F_X9_place S)), (108, xi_wV S 11 1 (F_X9_blanks S)), (111, xi_wV S 11 2 (F_X9_letter S)), (115, xi_wV S 11 1 (F_X9_readsPlayer S))] 97 [.ref a0, .int a1, .int a2, .int a3] m) (xi_calls_miss rfl) ?_
  refine Eq.trans (b := xi_wV S 11 3 (F_X9_figure S) [.ref a0, .int a1, .int a2, .int a3] m) (xi_calls_hit rfl) ?_
  exact xi_wV_eq rfl
theorem cc_X9_reads_104 (S : xi_S) (a0 : Nat) (a1 : Int32) (a2 : Int32) (m : xi_M) : (P_X9_reads S).2.2.2.2.2.2.2.1 104 [.ref a0, .int a1, .int a2] m = (if S.1 a0 = 11 then E_X9_place S a0 a1 a2 m else none) := by
  show xi_calls [(90, xi_wV S 11 1 (F_X9_look S)), (93, xi_wV S 11 1 (F_X9_fails S)), (97, xi_wV S 11 3 (F_X9_figure S)), (104, xi_wV S 11 2 (F_X9_place S)), (108, xi_wV S 11 1 (F_X9_blanks S)), (111, xi_wV S 11 2 (F_X9_letter S)), (115, xi_wV S 11 1 (F_X9_readsPlayer S))] 104 [.ref a0, .int a1, .int a2] m = _
  refine Eq.trans (b := xi_calls [(93, xi_wV S 11 1 (F_X9_fails S)), (97, xi_wV S 11 3 (F_X9_figure S)), (104, xi_wV S 11 2 (F_X9_place S)), (108, xi_wV S 11 1 (F_X9_blanks S)), (111, xi_wV S 11 2 (F_X9_letter S)), (115, xi_wV S 11 1 (F_X9_readsPlayer S))] 104 [.ref a0, .int a1, .int a2] m) (xi_calls_miss rfl) ?_
  refine Eq.trans (b := xi_calls [(97, xi_wV S 11 3 (F_X9_figure S)), (104, xi_wV S 11 2 (F_X9_place S)), (108, xi_wV S 11 1 (F_X9_blanks S)), (111, xi_wV S 11 2 (F_X9_letter S)), (115, xi_wV S 11 1 (F_X9_readsPlayer S))] 104 [.ref a0, .int a1, .int a2] m) (xi_calls_miss rfl) ?_
  refine Eq.trans (b := xi_calls [(104, xi_wV S 11 2 (F_X9_place S)), (108, xi_wV S 11 1 (F_X9_blanks S)), (111, xi_wV S 11 2 (F_X9_letter S)), (115, xi_wV S 11 1 (F_X9_readsPlayer S))] 104 [.ref a0, .int a1, .int a2] m) (xi_calls_miss rfl) ?_
  refine Eq.trans (b := xi_wV S 11 2 (F_X9_place S) [.ref a0, .int a1, .int a2] m) (xi_calls_hit rfl) ?_
  exact xi_wV_eq rfl
theorem cc_X9_reads_108 (S : xi_S) (a0 : Nat) (a1 : Int32) (m : xi_M) : (P_X9_reads S).2.2.2.2.2.2.2.1 108 [.ref a0, .int a1] m = (if S.1 a0 = 11 then E_X9_blanks S a0 a1 m else none) := by
  show xi_calls [(90, xi_wV S 11 1 (F_X9_look S)), (93, xi_wV S 11 1 (F_X9_fails S)), (97, xi_wV S 11 3 (F_X9_figure S)), (104, xi_wV S 11 2 (F_X9_place S)), (108, xi_wV S 11 1 (F_X9_blanks S)), (111, xi_wV S 11 2 (F_X9_letter S)), (115, xi_wV S 11 1 (F_X9_readsPlayer S))] 108 [.ref a0, .int a1] m = _
  refine Eq.trans (b := xi_calls [(93, xi_wV S 11 1 (F_X9_fails S)), (97, xi_wV S 11 3 (F_X9_figure S)), (104, xi_wV S 11 2 (F_X9_place S)), (108, xi_wV S 11 1 (F_X9_blanks S)), (111, xi_wV S 11 2 (F_X9_letter S)), (115, xi_wV S 11 1 (F_X9_readsPlayer S))] 108 [.ref a0, .int a1] m) (xi_calls_miss rfl) ?_
  refine Eq.trans (b := xi_calls [(97, xi_wV S 11 3 (F_X9_figure S)), (104, xi_wV S 11 2 (F_X9_place S)), (108, xi_wV S 11 1 (F_X9_blanks S)), (111, xi_wV S 11 2 (F_X9_letter S)), (115, xi_wV S 11 1 (F_X9_readsPlayer S))] 108 [.ref a0, .int a1] m) (xi_calls_miss rfl) ?_
  refine Eq.trans (b := xi_calls [(104, xi_wV S 11 2 (F_X9_place S)), (108, xi_wV S 11 1 (F_X9_blanks S)), (111, xi_wV S 11 2 (F_X9_letter S)), (115, xi_wV S 11 1 (F_X9_readsPlayer S))] 108 [.ref a0, .int a1] m) (xi_calls_miss rfl) ?_
  refine Eq.trans (b := xi_calls [(108, xi_wV S 11 1 (F_X9_blanks S)), (111, xi_wV S 11 2 (F_X9_letter S)), (115, xi_wV S 11 1 (F_X9_readsPlayer S))] 108 [.ref a0, .int a1] m) (xi_calls_miss rfl) ?_
  refine Eq.trans (b := xi_wV S 11 1 (F_X9_blanks S) [.ref a0, .int a1] m) (xi_calls_hit rfl) ?_
  exact xi_wV_eq rfl
theorem cc_X9_reads_111 (S : xi_S) (a0 : Nat) (a1 : Int32) (a2 : Int32) (m : xi_M) : (P_X9_reads S).2.2.2.2.2.2.2.1 111 [.ref a0, .int a1, .int a2] m = (if S.1 a0 = 11 then E_X9_letter S a0 a1 a2 m else none) := by
  show xi_calls [(90, xi_wV S 11 1 (F_X9_look S)), (93, xi_wV S 11 1 (F_X9_fails S)), (97, xi_wV S 11 3 (F_X9_figure S)), (104, xi_wV S 11 2 (F_X9_place S)), (108, xi_wV S 11 1 (F_X9_blanks S)), (111, xi_wV S 11 2 (F_X9_letter S)), (115, xi_wV S 11 1 (F_X9_readsPlayer S))] 111 [.ref a0, .int a1, .int a2] m = _
  refine Eq.trans (b := xi_calls [(93, xi_wV S 11 1 (F_X9_fails S)), (97, xi_wV S 11 3 (F_X9_figure S)), (104, xi_wV S 11 2 (F_X9_place S)), (108, xi_wV S 11 1 (F_X9_blanks S)), (111, xi_wV S 11 2 (F_X9_letter S)), (115, xi_wV S 11 1 (F_X9_readsPlayer S))] 111 [.ref a0, .int a1, .int a2] m) (xi_calls_miss rfl) ?_
  refine Eq.trans (b := xi_calls [(97, xi_wV S 11 3 (F_X9_figure S)), (104, xi_wV S 11 2 (F_X9_place S)), (108, xi_wV S 11 1 (F_X9_blanks S)), (111, xi_wV S 11 2 (F_X9_letter S)), (115, xi_wV S 11 1 (F_X9_readsPlayer S))] 111 [.ref a0, .int a1, .int a2] m) (xi_calls_miss rfl) ?_
  refine Eq.trans (b := xi_calls [(104, xi_wV S 11 2 (F_X9_place S)), (108, xi_wV S 11 1 (F_X9_blanks S)), (111, xi_wV S 11 2 (F_X9_letter S)), (115, xi_wV S 11 1 (F_X9_readsPlayer S))] 111 [.ref a0, .int a1, .int a2] m) (xi_calls_miss rfl) ?_
  refine Eq.trans (b := xi_calls [(108, xi_wV S 11 1 (F_X9_blanks S)), (111, xi_wV S 11 2 (F_X9_letter S)), (115, xi_wV S 11 1 (F_X9_readsPlayer S))] 111 [.ref a0, .int a1, .int a2] m) (xi_calls_miss rfl) ?_
  refine Eq.trans (b := xi_calls [(111, xi_wV S 11 2 (F_X9_letter S)), (115, xi_wV S 11 1 (F_X9_readsPlayer S))] 111 [.ref a0, .int a1, .int a2] m) (xi_calls_miss rfl) ?_
  refine Eq.trans (b := xi_wV S 11 2 (F_X9_letter S) [.ref a0, .int a1, .int a2] m) (xi_calls_hit rfl) ?_
  exact xi_wV_eq rfl
theorem cc_X9_reads_115 (S : xi_S) (a0 : Nat) (a1 : Int32) (m : xi_M) : (P_X9_reads S).2.2.2.2.2.2.2.1 115 [.ref a0, .int a1] m = (if S.1 a0 = 11 then E_X9_readsPlayer S a0 a1 m else none) := by
  show xi_calls [(90, xi_wV S 11 1 (F_X9_look S)), (93, xi_wV S 11 1 (F_X9_fails S)), (97, xi_wV S 11 3 (F_X9_figure S)), (104, xi_wV S 11 2 (F_X9_place S)), (108, xi_wV S 11 1 (F_X9_blanks S)), (111, xi_wV S 11 2 (F_X9_letter S)), (115, xi_wV S 11 1 (F_X9_readsPlayer S))] 115 [.ref a0, .int a1] m = _
  refine Eq.trans (b := xi_calls [(93, xi_wV S 11 1 (F_X9_fails S)), (97, xi_wV S 11 3 (F_X9_figure S)), (104, xi_wV S 11 2 (F_X9_place S)), (108, xi_wV S 11 1 (F_X9_blanks S)), (111, xi_wV S 11 2 (F_X9_letter S)), (115, xi_wV S 11 1 (F_X9_readsPlayer S))] 115 [.ref a0, .int a1] m) (xi_calls_miss rfl) ?_
  refine Eq.trans (b := xi_calls [(97, xi_wV S 11 3 (F_X9_figure S)), (104, xi_wV S 11 2 (F_X9_place S)), (108, xi_wV S 11 1 (F_X9_blanks S)), (111, xi_wV S 11 2 (F_X9_letter S)), (115, xi_wV S 11 1 (F_X9_readsPlayer S))] 115 [.ref a0, .int a1] m) (xi_calls_miss rfl) ?_
  refine Eq.trans (b := xi_calls [(104, xi_wV S 11 2 (F_X9_place S)), (108, xi_wV S 11 1 (F_X9_blanks S)), (111, xi_wV S 11 2 (F_X9_letter S)), (115, xi_wV S 11 1 (F_X9_readsPlayer S))] 115 [.ref a0, .int a1] m) (xi_calls_miss rfl) ?_
  refine Eq.trans (b := xi_calls [(108, xi_wV S 11 1 (F_X9_blanks S)), (111, xi_wV S 11 2 (F_X9_letter S)), (115, xi_wV S 11 1 (F_X9_readsPlayer S))] 115 [.ref a0, .int a1] m) (xi_calls_miss rfl) ?_
  refine Eq.trans (b := xi_calls [(111, xi_wV S 11 2 (F_X9_letter S)), (115, xi_wV S 11 1 (F_X9_readsPlayer S))] 115 [.ref a0, .int a1] m) (xi_calls_miss rfl) ?_
  refine Eq.trans (b := xi_calls [(115, xi_wV S 11 1 (F_X9_readsPlayer S))] 115 [.ref a0, .int a1] m) (xi_calls_miss rfl) ?_
  refine Eq.trans (b := xi_wV S 11 1 (F_X9_readsPlayer S) [.ref a0, .int a1] m) (xi_calls_hit rfl) ?_
  exact xi_wV_eq rfl
def G_X9_reads_124 (S : xi_S) : Nat → Nat → Int32 → xi_M → Option xi_R
  | 0, _, _, _ => none
  | n + 1, v0, v1, m =>
    if S.1 v0 = 11 then
      if (m.1 v0 19) = ((Int8.ofInt (-9)).toInt32) then
        xi_bI (if S.1 v0 = 11 then E_X9_look S v0 v1 m else none) fun x16 m15 =>
        if x16 = ((Int16.ofInt (-1000)).toInt32) then
          if S.1 v0 = 11 then
            if (m15.1 v0 19) = ((Int8.ofInt (-9)).toInt32) then
              if S.1 v0 = 11 then (S.2.2 v0 6).bind fun b20 =>
                if S.1 b20 = 0 ∧ ¬ ((Int32.ofInt 1) < 0 ∨ S.2.1 b20 ≤ Int32.toNatClampNeg (Int32.ofInt 1)) then
                  if (m15.1 b20 (Int32.toNatClampNeg (Int32.ofInt 1))) = 0 then
                    if S.1 v0 = 11 then (S.2.2 v0 2).bind fun b24 =>
                      if S.1 b24 = 0 ∧ ¬ (v1 < 0 ∨ S.2.1 b24 ≤ Int32.toNatClampNeg v1) then
                        xi_bV (if S.1 v0 = 11 then E_X9_fails S v0 (m15.1 b24 (Int32.toNatClampNeg v1)) m15 else none) fun m26 =>
                        if S.1 v0 = 11 then
                          some (some (.int (m26.1 v0 19)), m26)
                        else none
                      else none
                    else none
                  else
                    if S.1 v0 = 11 then
                      some (some (.int (m15.1 v0 19)), m15)
                    else none
                else none
              else none
            else
              if S.1 v0 = 11 then
                some (some (.int (m15.1 v0 19)), m15)
              else none
          else none
        else
          xi_bV (if S.1 v0 = 11 then E_X9_readsPlayer S v0 v1 m15 else none) fun m30 =>
          xi_bV (if S.1 v0 = 11 then E_X9_blanks S v0 v1 m30 else none) fun m31 =>
          G_X9_reads_124 S n v0 v1 m31
      else
        if S.1 v0 = 11 then
          if (m.1 v0 19) = ((Int8.ofInt (-9)).toInt32) then
            if S.1 v0 = 11 then (S.2.2 v0 6).bind fun b5 =>
              if S.1 b5 = 0 ∧ ¬ ((Int32.ofInt 1) < 0 ∨ S.2.1 b5 ≤ Int32.toNatClampNeg (Int32.ofInt 1)) then
                if (m.1 b5 (Int32.toNatClampNeg (Int32.ofInt 1))) = 0 then
                  if S.1 v0 = 11 then (S.2.2 v0 2).bind fun b9 =>
                    if S.1 b9 = 0 ∧ ¬ (v1 < 0 ∨ S.2.1 b9 ≤ Int32.toNatClampNeg v1) then
                      xi_bV (if S.1 v0 = 11 then E_X9_fails S v0 (m.1 b9 (Int32.toNatClampNeg v1)) m else none) fun m11 =>
                      if S.1 v0 = 11 then
                        some (some (.int (m11.1 v0 19)), m11)
                      else none
                    else none
                  else none
                else
                  if S.1 v0 = 11 then
                    some (some (.int (m.1 v0 19)), m)
                  else none
              else none
            else none
          else
            if S.1 v0 = 11 then
              some (some (.int (m.1 v0 19)), m)
            else none
        else none
    else none
set_option maxRecDepth 100000 in
set_option maxHeartbeats 4000000 in
theorem xs_X9_reads_124 {S : xi_S} {res : xi_R} : ∀ (n : Nat) (v0 : Nat) (v1 : Int32) (m : xi_M), G_X9_reads_124 S n v0 v1 m = some res → xi_X S (P_X9_reads S) (124, [some (.ref v0), some (.int v1), none], [], m) res := by
  intro n
  induction n with
  | zero => intro v0 v1 m h; exact xi_no h
  | succ n ih =>
    intro v0 v1 m h
    unfold G_X9_reads_124 at h
    refine xr_aload_n i_X9_reads_124 rfl (q := 125) rfl ?_
    obtain ⟨c1, h⟩ := xi_if_some h
    refine xr_getI i_X9_reads_125 xfe_X9_87 c1 (q := 128) rfl ?_
    refine xr_bipush i_X9_reads_128 (q := 130) rfl ?_
    by_cases c33 : (m.1 v0 19) = ((Int8.ofInt (-9)).toInt32)
    · replace h := (if_pos c33).symm.trans h
      refine xr_if_icmp_ne_p i_X9_reads_130 c33 (q := 157) t_X9_reads_130 (q2 := 133) rfl ?_
      refine xr_aload_n i_X9_reads_133 rfl (q := 134) rfl ?_
      refine xr_iload_n i_X9_reads_134 rfl (q := 135) rfl ?_
      obtain ⟨x16, m15, em15, h⟩ := xi_bI_some h
      refine xr_VI i_X9_reads_135 xcve_X9_90 rfl (As := [.ref v0, .int v1]) rfl (rest := []) rfl ((cc_X9_reads_90 S _ _ _).trans em15) (q := 138) rfl ?_
      refine xr_sipush i_X9_reads_138 (q := 141) rfl ?_
      by_cases c32 : x16 = ((Int16.ofInt (-1000)).toInt32)
      · replace h := (if_pos c32).symm.trans h
        refine xr_if_icmp_eq_p i_X9_reads_141 c32 (q := 157) t_X9_reads_141 (q2 := 144) rfl ?_
        refine xr_aload_n i_X9_reads_157 rfl (q := 158) rfl ?_
        obtain ⟨c17, h⟩ := xi_if_some h
        refine xr_getI i_X9_reads_158 xfe_X9_87 c17 (q := 161) rfl ?_
        refine xr_bipush i_X9_reads_161 (q := 163) rfl ?_
        by_cases c29 : (m15.1 v0 19) = ((Int8.ofInt (-9)).toInt32)
        · replace h := (if_pos c29).symm.trans h
          refine xr_if_icmp_ne_p i_X9_reads_163 c29 (q := 185) t_X9_reads_163 (q2 := 166) rfl ?_
          refine xr_aload_n i_X9_reads_166 rfl (q := 167) rfl ?_
          obtain ⟨c19, h⟩ := xi_if_some h
          obtain ⟨b20, eb20, h⟩ := xi_bind_some h
          refine xr_getR i_X9_reads_167 xfe_X9_28 c19 eb20 (q := 170) rfl ?_
          refine xr_iconst i_X9_reads_170 (q := 171) rfl ?_
          obtain ⟨c21, h⟩ := xi_if_some h
          refine xr_iaload i_X9_reads_171 c21 (q := 172) rfl ?_
          by_cases c28 : (m15.1 b20 (Int32.toNatClampNeg (Int32.ofInt 1))) = 0
          · replace h := (if_pos c28).symm.trans h
            refine xr_ifCond_ne_p i_X9_reads_172 c28 (q := 185) t_X9_reads_172 (q2 := 175) rfl ?_
            refine xr_aload_n i_X9_reads_175 rfl (q := 176) rfl ?_
            refine xr_aload_n i_X9_reads_176 rfl (q := 177) rfl ?_
            obtain ⟨c23, h⟩ := xi_if_some h
            obtain ⟨b24, eb24, h⟩ := xi_bind_some h
            refine xr_getR i_X9_reads_177 xfe_X9_16 c23 eb24 (q := 180) rfl ?_
            refine xr_iload_n i_X9_reads_180 rfl (q := 181) rfl ?_
            obtain ⟨c25, h⟩ := xi_if_some h
            refine xr_iaload i_X9_reads_181 c25 (q := 182) rfl ?_
            obtain ⟨m26, em26, h⟩ := xi_bV_some h
            refine xr_VV i_X9_reads_182 xcve_X9_93 rfl (As := [.ref v0, .int (m15.1 b24 (Int32.toNatClampNeg v1))]) rfl (rest := []) rfl ((cc_X9_reads_93 S _ _ _).trans em26) (q := 185) rfl ?_
            refine xr_aload_n i_X9_reads_185 rfl (q := 186) rfl ?_
            obtain ⟨c27, h⟩ := xi_if_some h
            refine xr_getI i_X9_reads_186 xfe_X9_87 c27 (q := 189) rfl ?_
            exact xr_ireturn i_X9_reads_189 rfl h
          · replace h := (if_neg c28).symm.trans h
            refine xr_ifCond_ne_n i_X9_reads_172 c28 (q := 185) t_X9_reads_172 (q2 := 175) rfl ?_
            refine xr_aload_n i_X9_reads_185 rfl (q := 186) rfl ?_
            obtain ⟨c22, h⟩ := xi_if_some h
            refine xr_getI i_X9_reads_186 xfe_X9_87 c22 (q := 189) rfl ?_
            exact xr_ireturn i_X9_reads_189 rfl h
        · replace h := (if_neg c29).symm.trans h
          refine xr_if_icmp_ne_n i_X9_reads_163 c29 (q := 185) t_X9_reads_163 (q2 := 166) rfl ?_
          refine xr_aload_n i_X9_reads_185 rfl (q := 186) rfl ?_
          obtain ⟨c18, h⟩ := xi_if_some h
          refine xr_getI i_X9_reads_186 xfe_X9_87 c18 (q := 189) rfl ?_
          exact xr_ireturn i_X9_reads_189 rfl h
      · replace h := (if_neg c32).symm.trans h
        refine xr_if_icmp_eq_n i_X9_reads_141 c32 (q := 157) t_X9_reads_141 (q2 := 144) rfl ?_
        refine xr_aload_n i_X9_reads_144 rfl (q := 145) rfl ?_
        refine xr_iload_n i_X9_reads_145 rfl (q := 146) rfl ?_
        obtain ⟨m30, em30, h⟩ := xi_bV_some h
        refine xr_VV i_X9_reads_146 xcve_X9_115 rfl (As := [.ref v0, .int v1]) rfl (rest := []) rfl ((cc_X9_reads_115 S _ _ _).trans em30) (q := 149) rfl ?_
        refine xr_aload_n i_X9_reads_149 rfl (q := 150) rfl ?_
        refine xr_iload_n i_X9_reads_150 rfl (q := 151) rfl ?_
        obtain ⟨m31, em31, h⟩ := xi_bV_some h
        refine xr_VV i_X9_reads_151 xcve_X9_108 rfl (As := [.ref v0, .int v1]) rfl (rest := []) rfl ((cc_X9_reads_108 S _ _ _).trans em31) (q := 154) rfl ?_
        refine xr_goto i_X9_reads_154 (q := 124) t_X9_reads_154 ?_
        exact xi_X_le (xi_le_s (xi_le_s (xi_le_n xi_le_z))) (ih _ _ _ h)
    · replace h := (if_neg c33).symm.trans h
      refine xr_if_icmp_ne_n i_X9_reads_130 c33 (q := 157) t_X9_reads_130 (q2 := 133) rfl ?_
      refine xr_aload_n i_X9_reads_157 rfl (q := 158) rfl ?_
      obtain ⟨c2, h⟩ := xi_if_some h
      refine xr_getI i_X9_reads_158 xfe_X9_87 c2 (q := 161) rfl ?_
      refine xr_bipush i_X9_reads_161 (q := 163) rfl ?_
      by_cases c14 : (m.1 v0 19) = ((Int8.ofInt (-9)).toInt32)
      · replace h := (if_pos c14).symm.trans h
        refine xr_if_icmp_ne_p i_X9_reads_163 c14 (q := 185) t_X9_reads_163 (q2 := 166) rfl ?_
        refine xr_aload_n i_X9_reads_166 rfl (q := 167) rfl ?_
        obtain ⟨c4, h⟩ := xi_if_some h
        obtain ⟨b5, eb5, h⟩ := xi_bind_some h
        refine xr_getR i_X9_reads_167 xfe_X9_28 c4 eb5 (q := 170) rfl ?_
        refine xr_iconst i_X9_reads_170 (q := 171) rfl ?_
        obtain ⟨c6, h⟩ := xi_if_some h
        refine xr_iaload i_X9_reads_171 c6 (q := 172) rfl ?_
        by_cases c13 : (m.1 b5 (Int32.toNatClampNeg (Int32.ofInt 1))) = 0
        · replace h := (if_pos c13).symm.trans h
          refine xr_ifCond_ne_p i_X9_reads_172 c13 (q := 185) t_X9_reads_172 (q2 := 175) rfl ?_
          refine xr_aload_n i_X9_reads_175 rfl (q := 176) rfl ?_
          refine xr_aload_n i_X9_reads_176 rfl (q := 177) rfl ?_
          obtain ⟨c8, h⟩ := xi_if_some h
          obtain ⟨b9, eb9, h⟩ := xi_bind_some h
          refine xr_getR i_X9_reads_177 xfe_X9_16 c8 eb9 (q := 180) rfl ?_
          refine xr_iload_n i_X9_reads_180 rfl (q := 181) rfl ?_
          obtain ⟨c10, h⟩ := xi_if_some h
          refine xr_iaload i_X9_reads_181 c10 (q := 182) rfl ?_
          obtain ⟨m11, em11, h⟩ := xi_bV_some h
          refine xr_VV i_X9_reads_182 xcve_X9_93 rfl (As := [.ref v0, .int (m.1 b9 (Int32.toNatClampNeg v1))]) rfl (rest := []) rfl ((cc_X9_reads_93 S _ _ _).trans em11) (q := 185) rfl ?_
          refine xr_aload_n i_X9_reads_185 rfl (q := 186) rfl ?_
          obtain ⟨c12, h⟩ := xi_if_some h
          refine xr_getI i_X9_reads_186 xfe_X9_87 c12 (q := 189) rfl ?_
          exact xr_ireturn i_X9_reads_189 rfl h
        · replace h := (if_neg c13).symm.trans h
          refine xr_ifCond_ne_n i_X9_reads_172 c13 (q := 185) t_X9_reads_172 (q2 := 175) rfl ?_
          refine xr_aload_n i_X9_reads_185 rfl (q := 186) rfl ?_
          obtain ⟨c7, h⟩ := xi_if_some h
          refine xr_getI i_X9_reads_186 xfe_X9_87 c7 (q := 189) rfl ?_
          exact xr_ireturn i_X9_reads_189 rfl h
      · replace h := (if_neg c14).symm.trans h
        refine xr_if_icmp_ne_n i_X9_reads_163 c14 (q := 185) t_X9_reads_163 (q2 := 166) rfl ?_
        refine xr_aload_n i_X9_reads_185 rfl (q := 186) rfl ?_
        obtain ⟨c3, h⟩ := xi_if_some h
        refine xr_getI i_X9_reads_186 xfe_X9_87 c3 (q := 189) rfl ?_
        exact xr_ireturn i_X9_reads_189 rfl h
def G_X9_reads_59 (S : xi_S) : Nat → Nat → Int32 → Int32 → xi_M → Option xi_R
  | 0, _, _, _, _ => none
  | n + 1, v0, v1, v2, m =>
    if (Int32.ofInt 4) ≤ v2 then
      xi_bV (if S.1 v0 = 11 then E_X9_blanks S v0 v1 m else none) fun m1 =>
      G_X9_reads_124 S 10000 v0 v1 m1
    else
      xi_bV (if S.1 v0 = 11 then E_X9_blanks S v0 v1 m else none) fun m2 =>
      xi_bV (if S.1 v0 = 11 then E_X9_letter S v0 v1 ((Int8.ofInt 99).toInt32) m2 else none) fun m3 =>
      if S.1 v0 = 11 then (S.2.2 v0 6).bind fun b5 =>
        if (Int32.ofInt 2) = 0 then none else
        if (v2 - v2 / (Int32.ofInt 2) * (Int32.ofInt 2)) = 0 then
          xi_bI (if S.1 v0 = 11 then E_X9_place S v0 v1 (Int32.ofInt 0) m3 else none) fun x14 m13 =>
          if S.1 b5 = 0 ∧ ¬ ((((Int8.ofInt 6).toInt32) + v2) < 0 ∨ S.2.1 b5 ≤ Int32.toNatClampNeg (((Int8.ofInt 6).toInt32) + v2)) then
            G_X9_reads_59 S n v0 v1 (v2 + Int32.ofInt 1) (xi_wI m13 b5 (Int32.toNatClampNeg (((Int8.ofInt 6).toInt32) + v2)) x14)
          else none
        else
          if S.1 v0 = 11 then (S.2.2 v0 6).bind fun b8 =>
            if S.1 b8 = 0 ∧ ¬ (((((Int8.ofInt 6).toInt32) + v2) - (Int32.ofInt 1)) < 0 ∨ S.2.1 b8 ≤ Int32.toNatClampNeg ((((Int8.ofInt 6).toInt32) + v2) - (Int32.ofInt 1))) then
              xi_bI (if S.1 v0 = 11 then E_X9_place S v0 v1 ((m3.1 b8 (Int32.toNatClampNeg ((((Int8.ofInt 6).toInt32) + v2) - (Int32.ofInt 1)))) + (Int32.ofInt 1)) m3 else none) fun x11 m10 =>
              if S.1 b5 = 0 ∧ ¬ ((((Int8.ofInt 6).toInt32) + v2) < 0 ∨ S.2.1 b5 ≤ Int32.toNatClampNeg (((Int8.ofInt 6).toInt32) + v2)) then
                G_X9_reads_59 S n v0 v1 (v2 + Int32.ofInt 1) (xi_wI m10 b5 (Int32.toNatClampNeg (((Int8.ofInt 6).toInt32) + v2)) x11)
              else none
            else none
          else none
      else none
set_option maxRecDepth 100000 in
set_option maxHeartbeats 4000000 in
theorem xs_X9_reads_59 {S : xi_S} {res : xi_R} : ∀ (n : Nat) (v0 : Nat) (v1 : Int32) (v2 : Int32) (m : xi_M), G_X9_reads_59 S n v0 v1 v2 m = some res → xi_X S (P_X9_reads S) (59, [some (.ref v0), some (.int v1), some (.int v2)], [], m) res := by
  intro n
  induction n with
  | zero => intro v0 v1 v2 m h; exact xi_no h
  | succ n ih =>
    intro v0 v1 v2 m h
    unfold G_X9_reads_59 at h
    refine xr_iload_n i_X9_reads_59 rfl (q := 60) rfl ?_
    refine xr_iconst i_X9_reads_60 (q := 61) rfl ?_
    by_cases c17 : (Int32.ofInt 4) ≤ v2
    · replace h := (if_pos c17).symm.trans h
      refine xr_if_icmp_ge_p i_X9_reads_61 c17 (q := 119) t_X9_reads_61 (q2 := 64) rfl ?_
      refine xr_aload_n i_X9_reads_119 rfl (q := 120) rfl ?_
      refine xr_iload_n i_X9_reads_120 rfl (q := 121) rfl ?_
      obtain ⟨m1, em1, h⟩ := xi_bV_some h
      refine xr_VV i_X9_reads_121 xcve_X9_108 rfl (As := [.ref v0, .int v1]) rfl (rest := []) rfl ((cc_X9_reads_108 S _ _ _).trans em1) (q := 124) rfl ?_
      exact xi_X_le (xi_le_s (xi_le_s (xi_le_n xi_le_z))) (xs_X9_reads_124 10000 _ _ _ h)
    · replace h := (if_neg c17).symm.trans h
      refine xr_if_icmp_ge_n i_X9_reads_61 c17 (q := 119) t_X9_reads_61 (q2 := 64) rfl ?_
      refine xr_aload_n i_X9_reads_64 rfl (q := 65) rfl ?_
      refine xr_iload_n i_X9_reads_65 rfl (q := 66) rfl ?_
      obtain ⟨m2, em2, h⟩ := xi_bV_some h
      refine xr_VV i_X9_reads_66 xcve_X9_108 rfl (As := [.ref v0, .int v1]) rfl (rest := []) rfl ((cc_X9_reads_108 S _ _ _).trans em2) (q := 69) rfl ?_
      refine xr_aload_n i_X9_reads_69 rfl (q := 70) rfl ?_
      refine xr_iload_n i_X9_reads_70 rfl (q := 71) rfl ?_
      refine xr_bipush i_X9_reads_71 (q := 73) rfl ?_
      obtain ⟨m3, em3, h⟩ := xi_bV_some h
      refine xr_VV i_X9_reads_73 xcve_X9_111 rfl (As := [.ref v0, .int v1, .int ((Int8.ofInt 99).toInt32)]) rfl (rest := []) rfl ((cc_X9_reads_111 S _ _ _ _).trans em3) (q := 76) rfl ?_
      refine xr_aload_n i_X9_reads_76 rfl (q := 77) rfl ?_
      obtain ⟨c4, h⟩ := xi_if_some h
      obtain ⟨b5, eb5, h⟩ := xi_bind_some h
      refine xr_getR i_X9_reads_77 xfe_X9_28 c4 eb5 (q := 80) rfl ?_
      refine xr_bipush i_X9_reads_80 (q := 82) rfl ?_
      refine xr_iload_n i_X9_reads_82 rfl (q := 83) rfl ?_
      refine xr_iadd i_X9_reads_83 (q := 84) rfl ?_
      refine xr_aload_n i_X9_reads_84 rfl (q := 85) rfl ?_
      refine xr_iload_n i_X9_reads_85 rfl (q := 86) rfl ?_
      refine xr_iload_n i_X9_reads_86 rfl (q := 87) rfl ?_
      refine xr_iconst i_X9_reads_87 (q := 88) rfl ?_
      obtain ⟨c6, h⟩ := xi_ifn_some h
      refine xr_irem i_X9_reads_88 c6 (q := 89) rfl ?_
      by_cases c16 : (v2 - v2 / (Int32.ofInt 2) * (Int32.ofInt 2)) = 0
      · replace h := (if_pos c16).symm.trans h
        refine xr_ifCond_ne_p i_X9_reads_89 c16 (q := 96) t_X9_reads_89 (q2 := 92) rfl ?_
        refine xr_iconst i_X9_reads_92 (q := 93) rfl ?_
        refine xr_goto i_X9_reads_93 (q := 109) t_X9_reads_93 ?_
        obtain ⟨x14, m13, em13, h⟩ := xi_bI_some h
        refine xr_VI i_X9_reads_109 xcve_X9_104 rfl (As := [.ref v0, .int v1, .int (Int32.ofInt 0)]) rfl (rest := [.int (((Int8.ofInt 6).toInt32) + v2), .ref b5]) rfl ((cc_X9_reads_104 S _ _ _ _).trans em13) (q := 112) rfl ?_
        obtain ⟨c15, h⟩ := xi_if_some h
        refine xr_iastore i_X9_reads_112 c15 (q := 113) rfl ?_
        refine xr_iinc i_X9_reads_113 rfl rfl (L2 := [some (.ref v0), some (.int v1), some (.int (v2 + Int32.ofInt 1))]) rfl (q := 116) rfl ?_
        refine xr_goto i_X9_reads_116 (q := 59) t_X9_reads_116 ?_
        exact xi_X_le (xi_le_s (xi_le_s (xi_le_s xi_le_z))) (ih _ _ _ _ h)
      · replace h := (if_neg c16).symm.trans h
        refine xr_ifCond_ne_n i_X9_reads_89 c16 (q := 96) t_X9_reads_89 (q2 := 92) rfl ?_
        refine xr_aload_n i_X9_reads_96 rfl (q := 97) rfl ?_
        obtain ⟨c7, h⟩ := xi_if_some h
        obtain ⟨b8, eb8, h⟩ := xi_bind_some h
        refine xr_getR i_X9_reads_97 xfe_X9_28 c7 eb8 (q := 100) rfl ?_
        refine xr_bipush i_X9_reads_100 (q := 102) rfl ?_
        refine xr_iload_n i_X9_reads_102 rfl (q := 103) rfl ?_
        refine xr_iadd i_X9_reads_103 (q := 104) rfl ?_
        refine xr_iconst i_X9_reads_104 (q := 105) rfl ?_
        refine xr_isub i_X9_reads_105 (q := 106) rfl ?_
        obtain ⟨c9, h⟩ := xi_if_some h
        refine xr_iaload i_X9_reads_106 c9 (q := 107) rfl ?_
        refine xr_iconst i_X9_reads_107 (q := 108) rfl ?_
        refine xr_iadd i_X9_reads_108 (q := 109) rfl ?_
        obtain ⟨x11, m10, em10, h⟩ := xi_bI_some h
        refine xr_VI i_X9_reads_109 xcve_X9_104 rfl (As := [.ref v0, .int v1, .int ((m3.1 b8 (Int32.toNatClampNeg ((((Int8.ofInt 6).toInt32) + v2) - (Int32.ofInt 1)))) + (Int32.ofInt 1))]) rfl (rest := [.int (((Int8.ofInt 6).toInt32) + v2), .ref b5]) rfl ((cc_X9_reads_104 S _ _ _ _).trans em10) (q := 112) rfl ?_
        obtain ⟨c12, h⟩ := xi_if_some h
        refine xr_iastore i_X9_reads_112 c12 (q := 113) rfl ?_
        refine xr_iinc i_X9_reads_113 rfl rfl (L2 := [some (.ref v0), some (.int v1), some (.int (v2 + Int32.ofInt 1))]) rfl (q := 116) rfl ?_
        refine xr_goto i_X9_reads_116 (q := 59) t_X9_reads_116 ?_
        exact xi_X_le (xi_le_s (xi_le_s (xi_le_s xi_le_z))) (ih _ _ _ _ h)
def G_X9_reads_2 (S : xi_S) : Nat → Nat → Int32 → Int32 → xi_M → Option xi_R
  | 0, _, _, _, _ => none
  | n + 1, v0, v1, v2, m =>
    if ((Int8.ofInt 34).toInt32) ≤ v2 then
      if S.1 v0 = 11 then
        if S.1 v0 = 11 then
          xi_bV (if S.1 v0 = 11 then E_X9_blanks S v0 v1 (xi_wI (xi_wI m v0 18 (Int32.ofInt 0)) v0 19 ((Int8.ofInt (-9)).toInt32)) else none) fun m3 =>
          xi_bV (if S.1 v0 = 11 then E_X9_letter S v0 v1 ((Int8.ofInt 103).toInt32) m3 else none) fun m4 =>
          if S.1 v0 = 11 then (S.2.2 v0 6).bind fun b6 =>
            xi_bI (if S.1 v0 = 11 then E_X9_figure S v0 v1 (Int32.ofInt 0) (Int32.ofInt 1) m4 else none) fun x8 m7 =>
            if S.1 b6 = 0 ∧ ¬ ((Int32.ofInt 0) < 0 ∨ S.2.1 b6 ≤ Int32.toNatClampNeg (Int32.ofInt 0)) then
              G_X9_reads_59 S 10000 v0 v1 (Int32.ofInt 0) (xi_wI m7 b6 (Int32.toNatClampNeg (Int32.ofInt 0)) x8)
            else none
          else none
        else none
      else none
    else
      if S.1 v0 = 11 then (S.2.2 v0 6).bind fun b11 =>
        if S.1 b11 = 0 ∧ ¬ (v2 < 0 ∨ S.2.1 b11 ≤ Int32.toNatClampNeg v2) then
          G_X9_reads_2 S n v0 v1 (v2 + Int32.ofInt 1) (xi_wI m b11 (Int32.toNatClampNeg v2) (Int32.ofInt 0))
        else none
      else none
set_option maxRecDepth 100000 in
set_option maxHeartbeats 4000000 in
theorem xs_X9_reads_2 {S : xi_S} {res : xi_R} : ∀ (n : Nat) (v0 : Nat) (v1 : Int32) (v2 : Int32) (m : xi_M), G_X9_reads_2 S n v0 v1 v2 m = some res → xi_X S (P_X9_reads S) (2, [some (.ref v0), some (.int v1), some (.int v2)], [], m) res := by
  intro n
  induction n with
  | zero => intro v0 v1 v2 m h; exact xi_no h
  | succ n ih =>
    intro v0 v1 v2 m h
    unfold G_X9_reads_2 at h
    refine xr_iload_n i_X9_reads_2 rfl (q := 3) rfl ?_
    refine xr_bipush i_X9_reads_3 (q := 5) rfl ?_
    by_cases c13 : ((Int8.ofInt 34).toInt32) ≤ v2
    · replace h := (if_pos c13).symm.trans h
      refine xr_if_icmp_ge_p i_X9_reads_5 c13 (q := 21) t_X9_reads_5 (q2 := 8) rfl ?_
      refine xr_aload_n i_X9_reads_21 rfl (q := 22) rfl ?_
      refine xr_iconst i_X9_reads_22 (q := 23) rfl ?_
      obtain ⟨c1, h⟩ := xi_if_some h
      refine xr_putI i_X9_reads_23 xfe_X9_84 c1 (q := 26) rfl ?_
      refine xr_aload_n i_X9_reads_26 rfl (q := 27) rfl ?_
      refine xr_bipush i_X9_reads_27 (q := 29) rfl ?_
      obtain ⟨c2, h⟩ := xi_if_some h
      refine xr_putI i_X9_reads_29 xfe_X9_87 c2 (q := 32) rfl ?_
      refine xr_aload_n i_X9_reads_32 rfl (q := 33) rfl ?_
      refine xr_iload_n i_X9_reads_33 rfl (q := 34) rfl ?_
      obtain ⟨m3, em3, h⟩ := xi_bV_some h
      refine xr_VV i_X9_reads_34 xcve_X9_108 rfl (As := [.ref v0, .int v1]) rfl (rest := []) rfl ((cc_X9_reads_108 S _ _ _).trans em3) (q := 37) rfl ?_
      refine xr_aload_n i_X9_reads_37 rfl (q := 38) rfl ?_
      refine xr_iload_n i_X9_reads_38 rfl (q := 39) rfl ?_
      refine xr_bipush i_X9_reads_39 (q := 41) rfl ?_
      obtain ⟨m4, em4, h⟩ := xi_bV_some h
      refine xr_VV i_X9_reads_41 xcve_X9_111 rfl (As := [.ref v0, .int v1, .int ((Int8.ofInt 103).toInt32)]) rfl (rest := []) rfl ((cc_X9_reads_111 S _ _ _ _).trans em4) (q := 44) rfl ?_
      refine xr_aload_n i_X9_reads_44 rfl (q := 45) rfl ?_
      obtain ⟨c5, h⟩ := xi_if_some h
      obtain ⟨b6, eb6, h⟩ := xi_bind_some h
      refine xr_getR i_X9_reads_45 xfe_X9_28 c5 eb6 (q := 48) rfl ?_
      refine xr_iconst i_X9_reads_48 (q := 49) rfl ?_
      refine xr_aload_n i_X9_reads_49 rfl (q := 50) rfl ?_
      refine xr_iload_n i_X9_reads_50 rfl (q := 51) rfl ?_
      refine xr_iconst i_X9_reads_51 (q := 52) rfl ?_
      refine xr_iconst i_X9_reads_52 (q := 53) rfl ?_
      obtain ⟨x8, m7, em7, h⟩ := xi_bI_some h
      refine xr_VI i_X9_reads_53 xcve_X9_97 rfl (As := [.ref v0, .int v1, .int (Int32.ofInt 0), .int (Int32.ofInt 1)]) rfl (rest := [.int (Int32.ofInt 0), .ref b6]) rfl ((cc_X9_reads_97 S _ _ _ _ _).trans em7) (q := 56) rfl ?_
      obtain ⟨c9, h⟩ := xi_if_some h
      refine xr_iastore i_X9_reads_56 c9 (q := 57) rfl ?_
      refine xr_iconst i_X9_reads_57 (q := 58) rfl ?_
      refine xr_istore_n i_X9_reads_58 rfl (L2 := [some (.ref v0), some (.int v1), some (.int (Int32.ofInt 0))]) rfl (q := 59) rfl ?_
      exact xi_X_le (xi_le_s (xi_le_s (xi_le_s xi_le_z))) (xs_X9_reads_59 10000 _ _ _ _ h)
    · replace h := (if_neg c13).symm.trans h
      refine xr_if_icmp_ge_n i_X9_reads_5 c13 (q := 21) t_X9_reads_5 (q2 := 8) rfl ?_
      refine xr_aload_n i_X9_reads_8 rfl (q := 9) rfl ?_
      obtain ⟨c10, h⟩ := xi_if_some h
      obtain ⟨b11, eb11, h⟩ := xi_bind_some h
      refine xr_getR i_X9_reads_9 xfe_X9_28 c10 eb11 (q := 12) rfl ?_
      refine xr_iload_n i_X9_reads_12 rfl (q := 13) rfl ?_
      refine xr_iconst i_X9_reads_13 (q := 14) rfl ?_
      obtain ⟨c12, h⟩ := xi_if_some h
      refine xr_iastore i_X9_reads_14 c12 (q := 15) rfl ?_
      refine xr_iinc i_X9_reads_15 rfl rfl (L2 := [some (.ref v0), some (.int v1), some (.int (v2 + Int32.ofInt 1))]) rfl (q := 18) rfl ?_
      refine xr_goto i_X9_reads_18 (q := 2) t_X9_reads_18 ?_
      exact xi_X_le (xi_le_s (xi_le_s (xi_le_s xi_le_z))) (ih _ _ _ _ h)
def E_X9_reads (S : xi_S) (v0 : Nat) (v1 : Int32) (m : xi_M) : Option xi_R :=
  G_X9_reads_2 S 10000 v0 v1 (Int32.ofInt 0) m
def F_X9_reads (S : xi_S) : xi_F := fun As m => match As with
  | [.ref v0, .int v1] => E_X9_reads S v0 v1 m
  | _ => none
set_option maxRecDepth 100000 in
set_option maxHeartbeats 4000000 in
theorem xe_X9_reads {S : xi_S} {res : xi_R} (v0 : Nat) (v1 : Int32) (m : xi_M) (h : E_X9_reads S v0 v1 m = some res) : xi_X S (P_X9_reads S) (0, [some (.ref v0), some (.int v1), none], [], m) res := by
  unfold E_X9_reads at h
  refine xr_iconst i_X9_reads_0 (q := 1) rfl ?_
  refine xr_istore_n i_X9_reads_1 rfl (L2 := [some (.ref v0), some (.int v1), some (.int (Int32.ofInt 0))]) rfl (q := 2) rfl ?_
  exact xi_X_le (xi_le_s (xi_le_s (xi_le_s xi_le_z))) (xs_X9_reads_2 10000 _ _ _ _ h)
set_option maxRecDepth 100000 in
theorem po_X9_reads {l : Launch} {E : xi_E} {S : xi_S} {D : va_G} {tys : List (ClassId × FieldType)} (hC : xCx E S tys) : xi_Pok l E S D vwCl tys xNs RX9 xTs cX9_reads 3 4 (P_X9_reads S) := ⟨xi_dc_ok, by rw [hC.2]; exact xfo_X9, xkio_X9, xklo_X9, xi_calls_ok (ins := .invokestatic) (fun _ h => absurd h List.not_mem_nil), xi_calls_ok (ins := .invokevirtual) (List.forall_mem_cons.mpr ⟨(xc_X9_90 hC.1 (sn_X9_look hC) (by decide)), List.forall_mem_cons.mpr ⟨(xc_X9_93 hC.1 (sn_X9_fails hC) (by decide)), List.forall_mem_cons.mpr ⟨(xc_X9_97 hC.1 (sn_X9_figure hC) (by decide)), List.forall_mem_cons.mpr ⟨(xc_X9_104 hC.1 (sn_X9_place hC) (by decide)), List.forall_mem_cons.mpr ⟨(xc_X9_108 hC.1 (sn_X9_blanks hC) (by decide)), List.forall_mem_cons.mpr ⟨(xc_X9_111 hC.1 (sn_X9_letter hC) (by decide)), List.forall_mem_cons.mpr ⟨(xc_X9_115 hC.1 (sn_X9_readsPlayer hC) (by decide)), fun _ h => absurd h List.not_mem_nil⟩⟩⟩⟩⟩⟩⟩)⟩
theorem sn_X9_reads {l : Launch} {E : xi_E} {S : xi_S} {D : va_G} {tys : List (ClassId × FieldType)} (hC : xCx E S tys) : ∀ As m1 r m2, F_X9_reads S As m1 = some (r, m2) → xi_Sound l E S D vwCl tys xNs xTs yX9_reads cX9_reads 3 (some .int) 4 As m1 r m2 := by
  intro As m1 r m2 h
  unfold F_X9_reads at h
  split at h
  · exact xi_meth (P := P_X9_reads S) (by decide) hC.1 (po_X9_reads hC) (Nat.le_of_ble_eq_true rfl) rfl (xe_X9_reads _ _ _ h)
  · exact xi_no h
theorem i_X9_fault_0 : xi_dc cX9_fault 0 = some (.iload_n 1, 1) := by decide +kernel
theorem i_X9_fault_1 : xi_dc cX9_fault 1 = some (.invokestatic 81, 3) := by decide +kernel
theorem i_X9_fault_4 : xi_dc cX9_fault 4 = some (.ifCond .ne 5, 3) := by decide +kernel
theorem t_X9_fault_4 : ((4 : Nat) : Int) + 5 = ((9 : Nat) : Int) := by decide +kernel
theorem i_X9_fault_7 : xi_dc cX9_fault 7 = some (.iconst (-1), 1) := by decide +kernel
theorem i_X9_fault_8 : xi_dc cX9_fault 8 = some (.ireturn, 1) := by decide +kernel
theorem i_X9_fault_9 : xi_dc cX9_fault 9 = some (.aload_n 0, 1) := by decide +kernel
theorem i_X9_fault_10 : xi_dc cX9_fault 10 = some (.getfield 16, 3) := by decide +kernel
theorem i_X9_fault_13 : xi_dc cX9_fault 13 = some (.iload_n 1, 1) := by decide +kernel
theorem i_X9_fault_14 : xi_dc cX9_fault 14 = some (.iaload, 1) := by decide +kernel
theorem i_X9_fault_15 : xi_dc cX9_fault 15 = some (.bipush (-9), 2) := by decide +kernel
theorem i_X9_fault_17 : xi_dc cX9_fault 17 = some (.if_icmp .ne 11, 3) := by decide +kernel
theorem t_X9_fault_17 : ((17 : Nat) : Int) + 11 = ((28 : Nat) : Int) := by decide +kernel
theorem i_X9_fault_20 : xi_dc cX9_fault 20 = some (.aload_n 0, 1) := by decide +kernel
theorem i_X9_fault_21 : xi_dc cX9_fault 21 = some (.iconst 1, 1) := by decide +kernel
theorem i_X9_fault_22 : xi_dc cX9_fault 22 = some (.invokevirtual 71, 3) := by decide +kernel
theorem i_X9_fault_25 : xi_dc cX9_fault 25 = some (.goto 8, 3) := by decide +kernel
theorem t_X9_fault_25 : ((25 : Nat) : Int) + 8 = ((33 : Nat) : Int) := by decide +kernel
theorem i_X9_fault_28 : xi_dc cX9_fault 28 = some (.aload_n 0, 1) := by decide +kernel
theorem i_X9_fault_29 : xi_dc cX9_fault 29 = some (.iload_n 1, 1) := by decide +kernel
theorem i_X9_fault_30 : xi_dc cX9_fault 30 = some (.invokevirtual 118, 3) := by decide +kernel
theorem i_X9_fault_33 : xi_dc cX9_fault 33 = some (.ireturn, 1) := by decide +kernel
def P_X9_fault (S : xi_S) : xi_P := (xi_dc cX9_fault, xi_tab xfl_X9, xi_tab xki_X9, xi_tab xkl_X9, xi_tab xcs_X9, xi_tab xcv_X9, xi_calls [(81, xi_wS 1 (F_X9_isText S))], xi_calls [(71, xi_wV S 11 1 (F_X9_found S)), (118, xi_wV S 11 1 (F_X9_reads S))], 1)
theorem cc_X9_fault_81 (S : xi_S) (a0 : Int32) (m : xi_M) : (P_X9_fault S).2.2.2.2.2.2.1 81 [.int a0] m = (E_X9_isText S a0 m) := by
  show xi_calls [(81, xi_wS 1 (F_X9_isText S))] 81 [.int a0] m = _
  refine Eq.trans (b := xi_wS 1 (F_X9_isText S) [.int a0] m) (xi_calls_hit rfl) ?_
  exact xi_wS_eq rfl
theorem cc_X9_fault_71 (S : xi_S) (a0 : Nat) (a1 : Int32) (m : xi_M) : (P_X9_fault S).2.2.2.2.2.2.2.1 71 [.ref a0, .int a1] m = (if S.1 a0 = 11 then E_X9_found S a0 a1 m else none) := by
  show xi_calls [(71, xi_wV S 11 1 (F_X9_found S)), (118, xi_wV S 11 1 (F_X9_reads S))] 71 [.ref a0, .int a1] m = _
  refine Eq.trans (b := xi_wV S 11 1 (F_X9_found S) [.ref a0, .int a1] m) (xi_calls_hit rfl) ?_
  exact xi_wV_eq rfl
theorem cc_X9_fault_118 (S : xi_S) (a0 : Nat) (a1 : Int32) (m : xi_M) : (P_X9_fault S).2.2.2.2.2.2.2.1 118 [.ref a0, .int a1] m = (if S.1 a0 = 11 then E_X9_reads S a0 a1 m else none) := by
  show xi_calls [(71, xi_wV S 11 1 (F_X9_found S)), (118, xi_wV S 11 1 (F_X9_reads S))] 118 [.ref a0, .int a1] m = _
  refine Eq.trans (b := xi_calls [(118, xi_wV S 11 1 (F_X9_reads S))] 118 [.ref a0, .int a1] m) (xi_calls_miss rfl) ?_
  refine Eq.trans (b := xi_wV S 11 1 (F_X9_reads S) [.ref a0, .int a1] m) (xi_calls_hit rfl) ?_
  exact xi_wV_eq rfl
def E_X9_fault (S : xi_S) (v0 : Nat) (v1 : Int32) (m : xi_M) : Option xi_R :=
  xi_bI (E_X9_isText S v1 m) fun x2 m1 =>
  if x2 = 0 then
    some (some (.int (Int32.ofInt (-1))), m1)
  else
    if S.1 v0 = 11 then (S.2.2 v0 2).bind fun b4 =>
      if S.1 b4 = 0 ∧ ¬ (v1 < 0 ∨ S.2.1 b4 ≤ Int32.toNatClampNeg v1) then
        if (m1.1 b4 (Int32.toNatClampNeg v1)) = ((Int8.ofInt (-9)).toInt32) then
          xi_bI (if S.1 v0 = 11 then E_X9_found S v0 (Int32.ofInt 1) m1 else none) fun x9 m8 =>
          some (some (.int x9), m8)
        else
          xi_bI (if S.1 v0 = 11 then E_X9_reads S v0 v1 m1 else none) fun x7 m6 =>
          some (some (.int x7), m6)
      else none
    else none
def F_X9_fault (S : xi_S) : xi_F := fun As m => match As with
  | [.ref v0, .int v1] => E_X9_fault S v0 v1 m
  | _ => none
set_option maxRecDepth 100000 in
set_option maxHeartbeats 4000000 in
theorem xe_X9_fault {S : xi_S} {res : xi_R} (v0 : Nat) (v1 : Int32) (m : xi_M) (h : E_X9_fault S v0 v1 m = some res) : xi_X S (P_X9_fault S) (0, [some (.ref v0), some (.int v1)], [], m) res := by
  unfold E_X9_fault at h
  refine xr_iload_n i_X9_fault_0 rfl (q := 1) rfl ?_
  obtain ⟨x2, m1, em1, h⟩ := xi_bI_some h
  refine xr_SI i_X9_fault_1 xcse_X9_81 rfl (As := [.int v1]) rfl (rest := []) rfl ((cc_X9_fault_81 S _ _).trans em1) (q := 4) rfl ?_
  by_cases c11 : x2 = 0
  · replace h := (if_pos c11).symm.trans h
    refine xr_ifCond_ne_p i_X9_fault_4 c11 (q := 9) t_X9_fault_4 (q2 := 7) rfl ?_
    refine xr_iconst i_X9_fault_7 (q := 8) rfl ?_
    exact xr_ireturn i_X9_fault_8 rfl h
  · replace h := (if_neg c11).symm.trans h
    refine xr_ifCond_ne_n i_X9_fault_4 c11 (q := 9) t_X9_fault_4 (q2 := 7) rfl ?_
    refine xr_aload_n i_X9_fault_9 rfl (q := 10) rfl ?_
    obtain ⟨c3, h⟩ := xi_if_some h
    obtain ⟨b4, eb4, h⟩ := xi_bind_some h
    refine xr_getR i_X9_fault_10 xfe_X9_16 c3 eb4 (q := 13) rfl ?_
    refine xr_iload_n i_X9_fault_13 rfl (q := 14) rfl ?_
    obtain ⟨c5, h⟩ := xi_if_some h
    refine xr_iaload i_X9_fault_14 c5 (q := 15) rfl ?_
    refine xr_bipush i_X9_fault_15 (q := 17) rfl ?_
    by_cases c10 : (m1.1 b4 (Int32.toNatClampNeg v1)) = ((Int8.ofInt (-9)).toInt32)
    · replace h := (if_pos c10).symm.trans h
      refine xr_if_icmp_ne_p i_X9_fault_17 c10 (q := 28) t_X9_fault_17 (q2 := 20) rfl ?_
      refine xr_aload_n i_X9_fault_20 rfl (q := 21) rfl ?_
      refine xr_iconst i_X9_fault_21 (q := 22) rfl ?_
      obtain ⟨x9, m8, em8, h⟩ := xi_bI_some h
      refine xr_VI i_X9_fault_22 xcve_X9_71 rfl (As := [.ref v0, .int (Int32.ofInt 1)]) rfl (rest := []) rfl ((cc_X9_fault_71 S _ _ _).trans em8) (q := 25) rfl ?_
      refine xr_goto i_X9_fault_25 (q := 33) t_X9_fault_25 ?_
      exact xr_ireturn i_X9_fault_33 rfl h
    · replace h := (if_neg c10).symm.trans h
      refine xr_if_icmp_ne_n i_X9_fault_17 c10 (q := 28) t_X9_fault_17 (q2 := 20) rfl ?_
      refine xr_aload_n i_X9_fault_28 rfl (q := 29) rfl ?_
      refine xr_iload_n i_X9_fault_29 rfl (q := 30) rfl ?_
      obtain ⟨x7, m6, em6, h⟩ := xi_bI_some h
      refine xr_VI i_X9_fault_30 xcve_X9_118 rfl (As := [.ref v0, .int v1]) rfl (rest := []) rfl ((cc_X9_fault_118 S _ _ _).trans em6) (q := 33) rfl ?_
      exact xr_ireturn i_X9_fault_33 rfl h
set_option maxRecDepth 100000 in
theorem po_X9_fault {l : Launch} {E : xi_E} {S : xi_S} {D : va_G} {tys : List (ClassId × FieldType)} (hC : xCx E S tys) : xi_Pok l E S D vwCl tys xNs RX9 xTs cX9_fault 2 5 (P_X9_fault S) := ⟨xi_dc_ok, by rw [hC.2]; exact xfo_X9, xkio_X9, xklo_X9, xi_calls_ok (ins := .invokestatic) (List.forall_mem_cons.mpr ⟨(xc_X9_81 (sn_X9_isText hC) (by decide)), fun _ h => absurd h List.not_mem_nil⟩), xi_calls_ok (ins := .invokevirtual) (List.forall_mem_cons.mpr ⟨(xc_X9_71 hC.1 (sn_X9_found hC) (by decide)), List.forall_mem_cons.mpr ⟨(xc_X9_118 hC.1 (sn_X9_reads hC) (by decide)), fun _ h => absurd h List.not_mem_nil⟩⟩)⟩
theorem sn_X9_fault {l : Launch} {E : xi_E} {S : xi_S} {D : va_G} {tys : List (ClassId × FieldType)} (hC : xCx E S tys) : ∀ As m1 r m2, F_X9_fault S As m1 = some (r, m2) → xi_Sound l E S D vwCl tys xNs xTs yX9_fault cX9_fault 2 (some .int) 5 As m1 r m2 := by
  intro As m1 r m2 h
  unfold F_X9_fault at h
  split at h
  · exact xi_meth (P := P_X9_fault S) (by decide) hC.1 (po_X9_fault hC) (Nat.le_of_ble_eq_true rfl) rfl (xe_X9_fault _ _ _ h)
  · exact xi_no h
theorem i_X9_copies_0 : xi_dc cX9_copies 0 = some (.iconst 0, 1) := by decide +kernel
theorem i_X9_copies_1 : xi_dc cX9_copies 1 = some (.istore 5, 2) := by decide +kernel
theorem i_X9_copies_3 : xi_dc cX9_copies 3 = some (.iload 5, 2) := by decide +kernel
theorem i_X9_copies_5 : xi_dc cX9_copies 5 = some (.iload 4, 2) := by decide +kernel
theorem i_X9_copies_7 : xi_dc cX9_copies 7 = some (.if_icmp .ge 21, 3) := by decide +kernel
theorem t_X9_copies_7 : ((7 : Nat) : Int) + 21 = ((28 : Nat) : Int) := by decide +kernel
theorem i_X9_copies_10 : xi_dc cX9_copies 10 = some (.aload_n 2, 1) := by decide +kernel
theorem i_X9_copies_11 : xi_dc cX9_copies 11 = some (.iload_n 3, 1) := by decide +kernel
theorem i_X9_copies_12 : xi_dc cX9_copies 12 = some (.iload 5, 2) := by decide +kernel
theorem i_X9_copies_14 : xi_dc cX9_copies 14 = some (.iadd, 1) := by decide +kernel
theorem i_X9_copies_15 : xi_dc cX9_copies 15 = some (.aload_n 0, 1) := by decide +kernel
theorem i_X9_copies_16 : xi_dc cX9_copies 16 = some (.iload_n 1, 1) := by decide +kernel
theorem i_X9_copies_17 : xi_dc cX9_copies 17 = some (.iload 5, 2) := by decide +kernel
theorem i_X9_copies_19 : xi_dc cX9_copies 19 = some (.iadd, 1) := by decide +kernel
theorem i_X9_copies_20 : xi_dc cX9_copies 20 = some (.iaload, 1) := by decide +kernel
theorem i_X9_copies_21 : xi_dc cX9_copies 21 = some (.iastore, 1) := by decide +kernel
theorem i_X9_copies_22 : xi_dc cX9_copies 22 = some (.iinc 5 1, 3) := by decide +kernel
theorem i_X9_copies_25 : xi_dc cX9_copies 25 = some (.goto (-22), 3) := by decide +kernel
theorem t_X9_copies_25 : ((25 : Nat) : Int) + (-22) = ((3 : Nat) : Int) := by decide +kernel
theorem i_X9_copies_28 : xi_dc cX9_copies 28 = some (.return_, 1) := by decide +kernel
def P_X9_copies (S : xi_S) : xi_P := (xi_dc cX9_copies, xi_tab xfl_X9, xi_tab xki_X9, xi_tab xkl_X9, xi_tab xcs_X9, xi_tab xcv_X9, xi_calls [], xi_calls [], 0)
def G_X9_copies_3 (S : xi_S) : Nat → Nat → Int32 → Nat → Int32 → Int32 → Int32 → xi_M → Option xi_R
  | 0, _, _, _, _, _, _, _ => none
  | n + 1, v0, v1, v2, v3, v4, v5, m =>
    if v4 ≤ v5 then
      some (none, m)
    else
      if S.1 v0 = 0 ∧ ¬ ((v1 + v5) < 0 ∨ S.2.1 v0 ≤ Int32.toNatClampNeg (v1 + v5)) then
        if S.1 v2 = 0 ∧ ¬ ((v3 + v5) < 0 ∨ S.2.1 v2 ≤ Int32.toNatClampNeg (v3 + v5)) then
          G_X9_copies_3 S n v0 v1 v2 v3 v4 (v5 + Int32.ofInt 1) (xi_wI m v2 (Int32.toNatClampNeg (v3 + v5)) (m.1 v0 (Int32.toNatClampNeg (v1 + v5))))
        else none
      else none
set_option maxRecDepth 100000 in
set_option maxHeartbeats 4000000 in
theorem xs_X9_copies_3 {S : xi_S} {res : xi_R} : ∀ (n : Nat) (v0 : Nat) (v1 : Int32) (v2 : Nat) (v3 : Int32) (v4 : Int32) (v5 : Int32) (m : xi_M), G_X9_copies_3 S n v0 v1 v2 v3 v4 v5 m = some res → xi_X S (P_X9_copies S) (3, [some (.ref v0), some (.int v1), some (.ref v2), some (.int v3), some (.int v4), some (.int v5)], [], m) res := by
  intro n
  induction n with
  | zero => intro v0 v1 v2 v3 v4 v5 m h; exact xi_no h
  | succ n ih =>
    intro v0 v1 v2 v3 v4 v5 m h
    unfold G_X9_copies_3 at h
    refine xr_iload i_X9_copies_3 rfl (q := 5) rfl ?_
    refine xr_iload i_X9_copies_5 rfl (q := 7) rfl ?_
    by_cases c3 : v4 ≤ v5
    · replace h := (if_pos c3).symm.trans h
      refine xr_if_icmp_ge_p i_X9_copies_7 c3 (q := 28) t_X9_copies_7 (q2 := 10) rfl ?_
      exact xr_return i_X9_copies_28 rfl h
    · replace h := (if_neg c3).symm.trans h
      refine xr_if_icmp_ge_n i_X9_copies_7 c3 (q := 28) t_X9_copies_7 (q2 := 10) rfl ?_
      refine xr_aload_n i_X9_copies_10 rfl (q := 11) rfl ?_
      refine xr_iload_n i_X9_copies_11 rfl (q := 12) rfl ?_
      refine xr_iload i_X9_copies_12 rfl (q := 14) rfl ?_
      refine xr_iadd i_X9_copies_14 (q := 15) rfl ?_
      refine xr_aload_n i_X9_copies_15 rfl (q := 16) rfl ?_
      refine xr_iload_n i_X9_copies_16 rfl (q := 17) rfl ?_
      refine xr_iload i_X9_copies_17 rfl (q := 19) rfl ?_
      refine xr_iadd i_X9_copies_19 (q := 20) rfl ?_
      obtain ⟨c1, h⟩ := xi_if_some h
      refine xr_iaload i_X9_copies_20 c1 (q := 21) rfl ?_
      obtain ⟨c2, h⟩ := xi_if_some h
      refine xr_iastore i_X9_copies_21 c2 (q := 22) rfl ?_
      refine xr_iinc i_X9_copies_22 rfl rfl (L2 := [some (.ref v0), some (.int v1), some (.ref v2), some (.int v3), some (.int v4), some (.int (v5 + Int32.ofInt 1))]) rfl (q := 25) rfl ?_
      refine xr_goto i_X9_copies_25 (q := 3) t_X9_copies_25 ?_
      exact xi_X_le (xi_le_s (xi_le_s (xi_le_s (xi_le_s (xi_le_s (xi_le_s xi_le_z)))))) (ih _ _ _ _ _ _ _ h)
def E_X9_copies (S : xi_S) (v0 : Nat) (v1 : Int32) (v2 : Nat) (v3 : Int32) (v4 : Int32) (m : xi_M) : Option xi_R :=
  G_X9_copies_3 S 10000 v0 v1 v2 v3 v4 (Int32.ofInt 0) m
def F_X9_copies (S : xi_S) : xi_F := fun As m => match As with
  | [.ref v0, .int v1, .ref v2, .int v3, .int v4] => E_X9_copies S v0 v1 v2 v3 v4 m
  | _ => none
set_option maxRecDepth 100000 in
set_option maxHeartbeats 4000000 in
theorem xe_X9_copies {S : xi_S} {res : xi_R} (v0 : Nat) (v1 : Int32) (v2 : Nat) (v3 : Int32) (v4 : Int32) (m : xi_M) (h : E_X9_copies S v0 v1 v2 v3 v4 m = some res) : xi_X S (P_X9_copies S) (0, [some (.ref v0), some (.int v1), some (.ref v2), some (.int v3), some (.int v4), none], [], m) res := by
  unfold E_X9_copies at h
  refine xr_iconst i_X9_copies_0 (q := 1) rfl ?_
  refine xr_istore i_X9_copies_1 rfl (L2 := [some (.ref v0), some (.int v1), some (.ref v2), some (.int v3), some (.int v4), some (.int (Int32.ofInt 0))]) rfl (q := 3) rfl ?_
  exact xi_X_le (xi_le_s (xi_le_s (xi_le_s (xi_le_s (xi_le_s (xi_le_s xi_le_z)))))) (xs_X9_copies_3 10000 _ _ _ _ _ _ _ h)
set_option maxRecDepth 100000 in
theorem po_X9_copies {l : Launch} {E : xi_E} {S : xi_S} {D : va_G} {tys : List (ClassId × FieldType)} (hC : xCx E S tys) : xi_Pok l E S D vwCl tys xNs RX9 xTs cX9_copies 6 0 (P_X9_copies S) := ⟨xi_dc_ok, by rw [hC.2]; exact xfo_X9, xkio_X9, xklo_X9, xi_calls_ok (ins := .invokestatic) (fun _ h => absurd h List.not_mem_nil), xi_calls_ok (ins := .invokevirtual) (fun _ h => absurd h List.not_mem_nil)⟩
theorem sn_X9_copies {l : Launch} {E : xi_E} {S : xi_S} {D : va_G} {tys : List (ClassId × FieldType)} (hC : xCx E S tys) : ∀ As m1 r m2, F_X9_copies S As m1 = some (r, m2) → xi_Sound l E S D vwCl tys xNs xTs yX9_copies cX9_copies 6 none 0 As m1 r m2 := by
  intro As m1 r m2 h
  unfold F_X9_copies at h
  split at h
  · exact xi_meth (P := P_X9_copies S) (by decide) hC.1 (po_X9_copies hC) (Nat.le_of_ble_eq_true rfl) rfl (xe_X9_copies _ _ _ _ _ _ h)
  · exact xi_no h
theorem i_X9_republic_0 : xi_dc cX9_republic 0 = some (.iload_n 1, 1) := by decide +kernel
theorem i_X9_republic_1 : xi_dc cX9_republic 1 = some (.invokestatic 81, 3) := by decide +kernel
theorem i_X9_republic_4 : xi_dc cX9_republic 4 = some (.ifCond .ne 5, 3) := by decide +kernel
theorem t_X9_republic_4 : ((4 : Nat) : Int) + 5 = ((9 : Nat) : Int) := by decide +kernel
theorem i_X9_republic_7 : xi_dc cX9_republic 7 = some (.iconst (-1), 1) := by decide +kernel
theorem i_X9_republic_8 : xi_dc cX9_republic 8 = some (.ireturn, 1) := by decide +kernel
theorem i_X9_republic_9 : xi_dc cX9_republic 9 = some (.aload_n 0, 1) := by decide +kernel
theorem i_X9_republic_10 : xi_dc cX9_republic 10 = some (.getfield 16, 3) := by decide +kernel
theorem i_X9_republic_13 : xi_dc cX9_republic 13 = some (.iload_n 1, 1) := by decide +kernel
theorem i_X9_republic_14 : xi_dc cX9_republic 14 = some (.iaload, 1) := by decide +kernel
theorem i_X9_republic_15 : xi_dc cX9_republic 15 = some (.bipush (-9), 2) := by decide +kernel
theorem i_X9_republic_17 : xi_dc cX9_republic 17 = some (.if_icmp .ne 9, 3) := by decide +kernel
theorem t_X9_republic_17 : ((17 : Nat) : Int) + 9 = ((26 : Nat) : Int) := by decide +kernel
theorem i_X9_republic_20 : xi_dc cX9_republic 20 = some (.aload_n 0, 1) := by decide +kernel
theorem i_X9_republic_21 : xi_dc cX9_republic 21 = some (.iconst 1, 1) := by decide +kernel
theorem i_X9_republic_22 : xi_dc cX9_republic 22 = some (.invokevirtual 71, 3) := by decide +kernel
theorem i_X9_republic_25 : xi_dc cX9_republic 25 = some (.ireturn, 1) := by decide +kernel
theorem i_X9_republic_26 : xi_dc cX9_republic 26 = some (.aload_n 0, 1) := by decide +kernel
theorem i_X9_republic_27 : xi_dc cX9_republic 27 = some (.iload_n 1, 1) := by decide +kernel
theorem i_X9_republic_28 : xi_dc cX9_republic 28 = some (.invokevirtual 118, 3) := by decide +kernel
theorem i_X9_republic_31 : xi_dc cX9_republic 31 = some (.bipush (-9), 2) := by decide +kernel
theorem i_X9_republic_33 : xi_dc cX9_republic 33 = some (.if_icmp .eq 6, 3) := by decide +kernel
theorem t_X9_republic_33 : ((33 : Nat) : Int) + 6 = ((39 : Nat) : Int) := by decide +kernel
theorem i_X9_republic_36 : xi_dc cX9_republic 36 = some (.bipush (-4), 2) := by decide +kernel
theorem i_X9_republic_38 : xi_dc cX9_republic 38 = some (.ireturn, 1) := by decide +kernel
theorem i_X9_republic_39 : xi_dc cX9_republic 39 = some (.aload_n 0, 1) := by decide +kernel
theorem i_X9_republic_40 : xi_dc cX9_republic 40 = some (.getfield 28, 3) := by decide +kernel
theorem i_X9_republic_43 : xi_dc cX9_republic 43 = some (.iconst 0, 1) := by decide +kernel
theorem i_X9_republic_44 : xi_dc cX9_republic 44 = some (.aload_n 0, 1) := by decide +kernel
theorem i_X9_republic_45 : xi_dc cX9_republic 45 = some (.getfield 25, 3) := by decide +kernel
theorem i_X9_republic_48 : xi_dc cX9_republic 48 = some (.iconst 0, 1) := by decide +kernel
theorem i_X9_republic_49 : xi_dc cX9_republic 49 = some (.bipush 34, 2) := by decide +kernel
theorem i_X9_republic_51 : xi_dc cX9_republic 51 = some (.invokestatic 121, 3) := by decide +kernel
theorem i_X9_republic_54 : xi_dc cX9_republic 54 = some (.aload_n 0, 1) := by decide +kernel
theorem i_X9_republic_55 : xi_dc cX9_republic 55 = some (.iconst 0, 1) := by decide +kernel
theorem i_X9_republic_56 : xi_dc cX9_republic 56 = some (.putfield 125, 3) := by decide +kernel
theorem i_X9_republic_59 : xi_dc cX9_republic 59 = some (.iconst 0, 1) := by decide +kernel
theorem i_X9_republic_60 : xi_dc cX9_republic 60 = some (.istore_n 2, 1) := by decide +kernel
theorem i_X9_republic_61 : xi_dc cX9_republic 61 = some (.iload_n 2, 1) := by decide +kernel
theorem i_X9_republic_62 : xi_dc cX9_republic 62 = some (.iconst 3, 1) := by decide +kernel
theorem i_X9_republic_63 : xi_dc cX9_republic 63 = some (.if_icmp .ge 17, 3) := by decide +kernel
theorem t_X9_republic_63 : ((63 : Nat) : Int) + 17 = ((80 : Nat) : Int) := by decide +kernel
theorem i_X9_republic_66 : xi_dc cX9_republic 66 = some (.aload_n 0, 1) := by decide +kernel
theorem i_X9_republic_67 : xi_dc cX9_republic 67 = some (.getfield 43, 3) := by decide +kernel
theorem i_X9_republic_70 : xi_dc cX9_republic 70 = some (.iload_n 2, 1) := by decide +kernel
theorem i_X9_republic_71 : xi_dc cX9_republic 71 = some (.bipush (-9), 2) := by decide +kernel
theorem i_X9_republic_73 : xi_dc cX9_republic 73 = some (.iastore, 1) := by decide +kernel
theorem i_X9_republic_74 : xi_dc cX9_republic 74 = some (.iinc 2 1, 3) := by decide +kernel
theorem i_X9_republic_77 : xi_dc cX9_republic 77 = some (.goto (-16), 3) := by decide +kernel
theorem t_X9_republic_77 : ((77 : Nat) : Int) + (-16) = ((61 : Nat) : Int) := by decide +kernel
theorem i_X9_republic_80 : xi_dc cX9_republic 80 = some (.aload_n 0, 1) := by decide +kernel
theorem i_X9_republic_81 : xi_dc cX9_republic 81 = some (.getfield 25, 3) := by decide +kernel
theorem i_X9_republic_84 : xi_dc cX9_republic 84 = some (.iconst 1, 1) := by decide +kernel
theorem i_X9_republic_85 : xi_dc cX9_republic 85 = some (.iaload, 1) := by decide +kernel
theorem i_X9_republic_86 : xi_dc cX9_republic 86 = some (.ireturn, 1) := by decide +kernel
def P_X9_republic (S : xi_S) : xi_P := (xi_dc cX9_republic, xi_tab xfl_X9, xi_tab xki_X9, xi_tab xkl_X9, xi_tab xcs_X9, xi_tab xcv_X9, xi_calls [(81, xi_wS 1 (F_X9_isText S)), (121, xi_wS 5 (F_X9_copies S))], xi_calls [(71, xi_wV S 11 1 (F_X9_found S)), (118, xi_wV S 11 1 (F_X9_reads S))], 1)
theorem cc_X9_republic_81 (S : xi_S) (a0 : Int32) (m : xi_M) : (P_X9_republic S).2.2.2.2.2.2.1 81 [.int a0] m = (E_X9_isText S a0 m) := by
  show xi_calls [(81, xi_wS 1 (F_X9_isText S)), (121, xi_wS 5 (F_X9_copies S))] 81 [.int a0] m = _
  refine Eq.trans (b := xi_wS 1 (F_X9_isText S) [.int a0] m) (xi_calls_hit rfl) ?_
  exact xi_wS_eq rfl
theorem cc_X9_republic_121 (S : xi_S) (a0 : Nat) (a1 : Int32) (a2 : Nat) (a3 : Int32) (a4 : Int32) (m : xi_M) : (P_X9_republic S).2.2.2.2.2.2.1 121 [.ref a0, .int a1, .ref a2, .int a3, .int a4] m = (E_X9_copies S a0 a1 a2 a3 a4 m) := by
  show xi_calls [(81, xi_wS 1 (F_X9_isText S)), (121, xi_wS 5 (F_X9_copies S))] 121 [.ref a0, .int a1, .ref a2, .int a3, .int a4] m = _
  refine Eq.trans (b := xi_calls [(121, xi_wS 5 (F_X9_copies S))] 121 [.ref a0, .int a1, .ref a2, .int a3, .int a4] m) (xi_calls_miss rfl) ?_
  refine Eq.trans (b := xi_wS 5 (F_X9_copies S) [.ref a0, .int a1, .ref a2, .int a3, .int a4] m) (xi_calls_hit rfl) ?_
  exact xi_wS_eq rfl
theorem cc_X9_republic_71 (S : xi_S) (a0 : Nat) (a1 : Int32) (m : xi_M) : (P_X9_republic S).2.2.2.2.2.2.2.1 71 [.ref a0, .int a1] m = (if S.1 a0 = 11 then E_X9_found S a0 a1 m else none) := by
  show xi_calls [(71, xi_wV S 11 1 (F_X9_found S)), (118, xi_wV S 11 1 (F_X9_reads S))] 71 [.ref a0, .int a1] m = _
  refine Eq.trans (b := xi_wV S 11 1 (F_X9_found S) [.ref a0, .int a1] m) (xi_calls_hit rfl) ?_
  exact xi_wV_eq rfl
theorem cc_X9_republic_118 (S : xi_S) (a0 : Nat) (a1 : Int32) (m : xi_M) : (P_X9_republic S).2.2.2.2.2.2.2.1 118 [.ref a0, .int a1] m = (if S.1 a0 = 11 then E_X9_reads S a0 a1 m else none) := by
  show xi_calls [(71, xi_wV S 11 1 (F_X9_found S)), (118, xi_wV S 11 1 (F_X9_reads S))] 118 [.ref a0, .int a1] m = _
  refine Eq.trans (b := xi_calls [(118, xi_wV S 11 1 (F_X9_reads S))] 118 [.ref a0, .int a1] m) (xi_calls_miss rfl) ?_
  refine Eq.trans (b := xi_wV S 11 1 (F_X9_reads S) [.ref a0, .int a1] m) (xi_calls_hit rfl) ?_
  exact xi_wV_eq rfl
def G_X9_republic_61 (S : xi_S) : Nat → Nat → Int32 → xi_M → Option xi_R
  | 0, _, _, _ => none
  | n + 1, v0, v2, m =>
    if (Int32.ofInt 3) ≤ v2 then
      if S.1 v0 = 11 then (S.2.2 v0 5).bind fun b2 =>
        if S.1 b2 = 0 ∧ ¬ ((Int32.ofInt 1) < 0 ∨ S.2.1 b2 ≤ Int32.toNatClampNeg (Int32.ofInt 1)) then
          some (some (.int (m.1 b2 (Int32.toNatClampNeg (Int32.ofInt 1)))), m)
        else none
      else none
    else
      if S.1 v0 = 11 then (S.2.2 v0 12).bind fun b5 =>
        if S.1 b5 = 0 ∧ ¬ (v2 < 0 ∨ S.2.1 b5 ≤ Int32.toNatClampNeg v2) then
          G_X9_republic_61 S n v0 (v2 + Int32.ofInt 1) (xi_wI m b5 (Int32.toNatClampNeg v2) ((Int8.ofInt (-9)).toInt32))
        else none
      else none
set_option maxRecDepth 100000 in
set_option maxHeartbeats 4000000 in
theorem xs_X9_republic_61 {S : xi_S} {res : xi_R} : ∀ (n : Nat) (v0 : Nat) (v2 : Int32) (m : xi_M), G_X9_republic_61 S n v0 v2 m = some res → xi_X S (P_X9_republic S) (61, [some (.ref v0), none, some (.int v2)], [], m) res := by
  intro n
  induction n with
  | zero => intro v0 v2 m h; exact xi_no h
  | succ n ih =>
    intro v0 v2 m h
    unfold G_X9_republic_61 at h
    refine xr_iload_n i_X9_republic_61 rfl (q := 62) rfl ?_
    refine xr_iconst i_X9_republic_62 (q := 63) rfl ?_
    by_cases c7 : (Int32.ofInt 3) ≤ v2
    · replace h := (if_pos c7).symm.trans h
      refine xr_if_icmp_ge_p i_X9_republic_63 c7 (q := 80) t_X9_republic_63 (q2 := 66) rfl ?_
      refine xr_aload_n i_X9_republic_80 rfl (q := 81) rfl ?_
      obtain ⟨c1, h⟩ := xi_if_some h
      obtain ⟨b2, eb2, h⟩ := xi_bind_some h
      refine xr_getR i_X9_republic_81 xfe_X9_25 c1 eb2 (q := 84) rfl ?_
      refine xr_iconst i_X9_republic_84 (q := 85) rfl ?_
      obtain ⟨c3, h⟩ := xi_if_some h
      refine xr_iaload i_X9_republic_85 c3 (q := 86) rfl ?_
      exact xr_ireturn i_X9_republic_86 rfl h
    · replace h := (if_neg c7).symm.trans h
      refine xr_if_icmp_ge_n i_X9_republic_63 c7 (q := 80) t_X9_republic_63 (q2 := 66) rfl ?_
      refine xr_aload_n i_X9_republic_66 rfl (q := 67) rfl ?_
      obtain ⟨c4, h⟩ := xi_if_some h
      obtain ⟨b5, eb5, h⟩ := xi_bind_some h
      refine xr_getR i_X9_republic_67 xfe_X9_43 c4 eb5 (q := 70) rfl ?_
      refine xr_iload_n i_X9_republic_70 rfl (q := 71) rfl ?_
      refine xr_bipush i_X9_republic_71 (q := 73) rfl ?_
      obtain ⟨c6, h⟩ := xi_if_some h
      refine xr_iastore i_X9_republic_73 c6 (q := 74) rfl ?_
      refine xr_iinc i_X9_republic_74 rfl rfl (L2 := [some (.ref v0), none, some (.int (v2 + Int32.ofInt 1))]) rfl (q := 77) rfl ?_
      refine xr_goto i_X9_republic_77 (q := 61) t_X9_republic_77 ?_
      exact xi_X_le (xi_le_s (xi_le_n (xi_le_s xi_le_z))) (ih _ _ _ h)
def E_X9_republic (S : xi_S) (v0 : Nat) (v1 : Int32) (m : xi_M) : Option xi_R :=
  xi_bI (E_X9_isText S v1 m) fun x2 m1 =>
  if x2 = 0 then
    some (some (.int (Int32.ofInt (-1))), m1)
  else
    if S.1 v0 = 11 then (S.2.2 v0 2).bind fun b4 =>
      if S.1 b4 = 0 ∧ ¬ (v1 < 0 ∨ S.2.1 b4 ≤ Int32.toNatClampNeg v1) then
        if (m1.1 b4 (Int32.toNatClampNeg v1)) = ((Int8.ofInt (-9)).toInt32) then
          xi_bI (if S.1 v0 = 11 then E_X9_found S v0 (Int32.ofInt 1) m1 else none) fun x16 m15 =>
          some (some (.int x16), m15)
        else
          xi_bI (if S.1 v0 = 11 then E_X9_reads S v0 v1 m1 else none) fun x7 m6 =>
          if x7 = ((Int8.ofInt (-9)).toInt32) then
            if S.1 v0 = 11 then (S.2.2 v0 6).bind fun b9 =>
              if S.1 v0 = 11 then (S.2.2 v0 5).bind fun b11 =>
                xi_bV (E_X9_copies S b9 (Int32.ofInt 0) b11 (Int32.ofInt 0) ((Int8.ofInt 34).toInt32) m6) fun m12 =>
                if S.1 v0 = 11 then
                  G_X9_republic_61 S 10000 v0 (Int32.ofInt 0) (xi_wI m12 v0 9 (Int32.ofInt 0))
                else none
              else none
            else none
          else
            some (some (.int ((Int8.ofInt (-4)).toInt32)), m6)
      else none
    else none
def F_X9_republic (S : xi_S) : xi_F := fun As m => match As with
  | [.ref v0, .int v1] => E_X9_republic S v0 v1 m
  | _ => none
set_option maxRecDepth 100000 in
set_option maxHeartbeats 4000000 in
theorem xe_X9_republic {S : xi_S} {res : xi_R} (v0 : Nat) (v1 : Int32) (m : xi_M) (h : E_X9_republic S v0 v1 m = some res) : xi_X S (P_X9_republic S) (0, [some (.ref v0), some (.int v1), none], [], m) res := by
  unfold E_X9_republic at h
  refine xr_iload_n i_X9_republic_0 rfl (q := 1) rfl ?_
  obtain ⟨x2, m1, em1, h⟩ := xi_bI_some h
  refine xr_SI i_X9_republic_1 xcse_X9_81 rfl (As := [.int v1]) rfl (rest := []) rfl ((cc_X9_republic_81 S _ _).trans em1) (q := 4) rfl ?_
  by_cases c18 : x2 = 0
  · replace h := (if_pos c18).symm.trans h
    refine xr_ifCond_ne_p i_X9_republic_4 c18 (q := 9) t_X9_republic_4 (q2 := 7) rfl ?_
    refine xr_iconst i_X9_republic_7 (q := 8) rfl ?_
    exact xr_ireturn i_X9_republic_8 rfl h
  · replace h := (if_neg c18).symm.trans h
    refine xr_ifCond_ne_n i_X9_republic_4 c18 (q := 9) t_X9_republic_4 (q2 := 7) rfl ?_
    refine xr_aload_n i_X9_republic_9 rfl (q := 10) rfl ?_
    obtain ⟨c3, h⟩ := xi_if_some h
    obtain ⟨b4, eb4, h⟩ := xi_bind_some h
    refine xr_getR i_X9_republic_10 xfe_X9_16 c3 eb4 (q := 13) rfl ?_
    refine xr_iload_n i_X9_republic_13 rfl (q := 14) rfl ?_
    obtain ⟨c5, h⟩ := xi_if_some h
    refine xr_iaload i_X9_republic_14 c5 (q := 15) rfl ?_
    refine xr_bipush i_X9_republic_15 (q := 17) rfl ?_
    by_cases c17 : (m1.1 b4 (Int32.toNatClampNeg v1)) = ((Int8.ofInt (-9)).toInt32)
    · replace h := (if_pos c17).symm.trans h
      refine xr_if_icmp_ne_p i_X9_republic_17 c17 (q := 26) t_X9_republic_17 (q2 := 20) rfl ?_
      refine xr_aload_n i_X9_republic_20 rfl (q := 21) rfl ?_
      refine xr_iconst i_X9_republic_21 (q := 22) rfl ?_
      obtain ⟨x16, m15, em15, h⟩ := xi_bI_some h
      refine xr_VI i_X9_republic_22 xcve_X9_71 rfl (As := [.ref v0, .int (Int32.ofInt 1)]) rfl (rest := []) rfl ((cc_X9_republic_71 S _ _ _).trans em15) (q := 25) rfl ?_
      exact xr_ireturn i_X9_republic_25 rfl h
    · replace h := (if_neg c17).symm.trans h
      refine xr_if_icmp_ne_n i_X9_republic_17 c17 (q := 26) t_X9_republic_17 (q2 := 20) rfl ?_
      refine xr_aload_n i_X9_republic_26 rfl (q := 27) rfl ?_
      refine xr_iload_n i_X9_republic_27 rfl (q := 28) rfl ?_
      obtain ⟨x7, m6, em6, h⟩ := xi_bI_some h
      refine xr_VI i_X9_republic_28 xcve_X9_118 rfl (As := [.ref v0, .int v1]) rfl (rest := []) rfl ((cc_X9_republic_118 S _ _ _).trans em6) (q := 31) rfl ?_
      refine xr_bipush i_X9_republic_31 (q := 33) rfl ?_
      by_cases c14 : x7 = ((Int8.ofInt (-9)).toInt32)
      · replace h := (if_pos c14).symm.trans h
        refine xr_if_icmp_eq_p i_X9_republic_33 c14 (q := 39) t_X9_republic_33 (q2 := 36) rfl ?_
        refine xr_aload_n i_X9_republic_39 rfl (q := 40) rfl ?_
        obtain ⟨c8, h⟩ := xi_if_some h
        obtain ⟨b9, eb9, h⟩ := xi_bind_some h
        refine xr_getR i_X9_republic_40 xfe_X9_28 c8 eb9 (q := 43) rfl ?_
        refine xr_iconst i_X9_republic_43 (q := 44) rfl ?_
        refine xr_aload_n i_X9_republic_44 rfl (q := 45) rfl ?_
        obtain ⟨c10, h⟩ := xi_if_some h
        obtain ⟨b11, eb11, h⟩ := xi_bind_some h
        refine xr_getR i_X9_republic_45 xfe_X9_25 c10 eb11 (q := 48) rfl ?_
        refine xr_iconst i_X9_republic_48 (q := 49) rfl ?_
        refine xr_bipush i_X9_republic_49 (q := 51) rfl ?_
        obtain ⟨m12, em12, h⟩ := xi_bV_some h
        refine xr_SV i_X9_republic_51 xcse_X9_121 rfl (As := [.ref b9, .int (Int32.ofInt 0), .ref b11, .int (Int32.ofInt 0), .int ((Int8.ofInt 34).toInt32)]) rfl (rest := []) rfl ((cc_X9_republic_121 S _ _ _ _ _ _).trans em12) (q := 54) rfl ?_
        refine xr_aload_n i_X9_republic_54 rfl (q := 55) rfl ?_
        refine xr_iconst i_X9_republic_55 (q := 56) rfl ?_
        obtain ⟨c13, h⟩ := xi_if_some h
        refine xr_putI i_X9_republic_56 xfe_X9_125 c13 (q := 59) rfl ?_
        refine xr_iconst i_X9_republic_59 (q := 60) rfl ?_
        refine xr_istore_n i_X9_republic_60 rfl (L2 := [some (.ref v0), some (.int v1), some (.int (Int32.ofInt 0))]) rfl (q := 61) rfl ?_
        exact xi_X_le (xi_le_s (xi_le_n (xi_le_s xi_le_z))) (xs_X9_republic_61 10000 _ _ _ h)
      · replace h := (if_neg c14).symm.trans h
        refine xr_if_icmp_eq_n i_X9_republic_33 c14 (q := 39) t_X9_republic_33 (q2 := 36) rfl ?_
        refine xr_bipush i_X9_republic_36 (q := 38) rfl ?_
        exact xr_ireturn i_X9_republic_38 rfl h
set_option maxRecDepth 100000 in
theorem po_X9_republic {l : Launch} {E : xi_E} {S : xi_S} {D : va_G} {tys : List (ClassId × FieldType)} (hC : xCx E S tys) : xi_Pok l E S D vwCl tys xNs RX9 xTs cX9_republic 3 5 (P_X9_republic S) := ⟨xi_dc_ok, by rw [hC.2]; exact xfo_X9, xkio_X9, xklo_X9, xi_calls_ok (ins := .invokestatic) (List.forall_mem_cons.mpr ⟨(xc_X9_81 (sn_X9_isText hC) (by decide)), List.forall_mem_cons.mpr ⟨(xc_X9_121 (sn_X9_copies hC) (by decide)), fun _ h => absurd h List.not_mem_nil⟩⟩), xi_calls_ok (ins := .invokevirtual) (List.forall_mem_cons.mpr ⟨(xc_X9_71 hC.1 (sn_X9_found hC) (by decide)), List.forall_mem_cons.mpr ⟨(xc_X9_118 hC.1 (sn_X9_reads hC) (by decide)), fun _ h => absurd h List.not_mem_nil⟩⟩)⟩
theorem sn_X9_republic {l : Launch} {E : xi_E} {S : xi_S} {D : va_G} {tys : List (ClassId × FieldType)} (hC : xCx E S tys) : ∀ As m1 r m2, F_X9_republic S As m1 = some (r, m2) → xi_Sound l E S D vwCl tys xNs xTs yX9_republic cX9_republic 3 (some .int) 5 As m1 r m2 := by
  intro As m1 r m2 h
  unfold F_X9_republic at h
  split at h
  · exact xi_meth (P := P_X9_republic S) (by decide) hC.1 (po_X9_republic hC) (Nat.le_of_ble_eq_true rfl) rfl (xe_X9_republic _ _ _ h)
  · exact xi_no h
