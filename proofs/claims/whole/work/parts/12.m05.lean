theorem i_X6_takeBack_0 : xi_dc cX6_takeBack 0 = some (.aload_n 0, 1) := by decide +kernel
theorem i_X6_takeBack_1 : xi_dc cX6_takeBack 1 = some (.getfield 52, 3) := by decide +kernel
theorem i_X6_takeBack_4 : xi_dc cX6_takeBack 4 = some (.iload_n 1, 1) := by decide +kernel
theorem i_X6_takeBack_5 : xi_dc cX6_takeBack 5 = some (.isub, 1) := by decide +kernel
theorem i_X6_takeBack_6 : xi_dc cX6_takeBack 6 = some (.istore_n 2, 1) := by decide +kernel
theorem i_X6_takeBack_7 : xi_dc cX6_takeBack 7 = some (.aload_n 0, 1) := by decide +kernel
theorem i_X6_takeBack_8 : xi_dc cX6_takeBack 8 = some (.getfield 52, 3) := by decide +kernel
theorem i_X6_takeBack_11 : xi_dc cX6_takeBack 11 = some (.iconst 1, 1) := by decide +kernel
theorem i_X6_takeBack_12 : xi_dc cX6_takeBack 12 = some (.isub, 1) := by decide +kernel
theorem i_X6_takeBack_13 : xi_dc cX6_takeBack 13 = some (.istore_n 3, 1) := by decide +kernel
theorem i_X6_takeBack_14 : xi_dc cX6_takeBack 14 = some (.iload_n 3, 1) := by decide +kernel
theorem i_X6_takeBack_15 : xi_dc cX6_takeBack 15 = some (.iload_n 1, 1) := by decide +kernel
theorem i_X6_takeBack_16 : xi_dc cX6_takeBack 16 = some (.if_icmp .lt 31, 3) := by decide +kernel
theorem t_X6_takeBack_16 : ((16 : Nat) : Int) + 31 = ((47 : Nat) : Int) := by decide +kernel
theorem i_X6_takeBack_19 : xi_dc cX6_takeBack 19 = some (.aload_n 0, 1) := by decide +kernel
theorem i_X6_takeBack_20 : xi_dc cX6_takeBack 20 = some (.aload_n 0, 1) := by decide +kernel
theorem i_X6_takeBack_21 : xi_dc cX6_takeBack 21 = some (.getfield 30, 3) := by decide +kernel
theorem i_X6_takeBack_24 : xi_dc cX6_takeBack 24 = some (.iload_n 3, 1) := by decide +kernel
theorem i_X6_takeBack_25 : xi_dc cX6_takeBack 25 = some (.iaload, 1) := by decide +kernel
theorem i_X6_takeBack_26 : xi_dc cX6_takeBack 26 = some (.aload_n 0, 1) := by decide +kernel
theorem i_X6_takeBack_27 : xi_dc cX6_takeBack 27 = some (.getfield 33, 3) := by decide +kernel
theorem i_X6_takeBack_30 : xi_dc cX6_takeBack 30 = some (.iload_n 3, 1) := by decide +kernel
theorem i_X6_takeBack_31 : xi_dc cX6_takeBack 31 = some (.iaload, 1) := by decide +kernel
theorem i_X6_takeBack_32 : xi_dc cX6_takeBack 32 = some (.aload_n 0, 1) := by decide +kernel
theorem i_X6_takeBack_33 : xi_dc cX6_takeBack 33 = some (.getfield 36, 3) := by decide +kernel
theorem i_X6_takeBack_36 : xi_dc cX6_takeBack 36 = some (.iload_n 3, 1) := by decide +kernel
theorem i_X6_takeBack_37 : xi_dc cX6_takeBack 37 = some (.iaload, 1) := by decide +kernel
theorem i_X6_takeBack_38 : xi_dc cX6_takeBack 38 = some (.invokevirtual 137, 3) := by decide +kernel
theorem i_X6_takeBack_41 : xi_dc cX6_takeBack 41 = some (.iinc 3 (-1), 3) := by decide +kernel
theorem i_X6_takeBack_44 : xi_dc cX6_takeBack 44 = some (.goto (-30), 3) := by decide +kernel
theorem t_X6_takeBack_44 : ((44 : Nat) : Int) + (-30) = ((14 : Nat) : Int) := by decide +kernel
theorem i_X6_takeBack_47 : xi_dc cX6_takeBack 47 = some (.aload_n 0, 1) := by decide +kernel
theorem i_X6_takeBack_48 : xi_dc cX6_takeBack 48 = some (.iload_n 1, 1) := by decide +kernel
theorem i_X6_takeBack_49 : xi_dc cX6_takeBack 49 = some (.putfield 52, 3) := by decide +kernel
theorem i_X6_takeBack_52 : xi_dc cX6_takeBack 52 = some (.iload_n 2, 1) := by decide +kernel
theorem i_X6_takeBack_53 : xi_dc cX6_takeBack 53 = some (.ireturn, 1) := by decide +kernel
def P_X6_takeBack (S : xi_S) : xi_P := (xi_dc cX6_takeBack, xi_tab xfl_X6, xi_tab xki_X6, xi_tab xkl_X6, xi_tab xcs_X6, xi_tab xcv_X6, xi_calls [], xi_calls [(137, xi_wV S 8 3 (F_X6_takeBackOne S))], 1)
theorem cc_X6_takeBack_137 (S : xi_S) (a0 : Nat) (a1 : Int32) (a2 : Int32) (a3 : Int32) (m : xi_M) : (P_X6_takeBack S).2.2.2.2.2.2.2.1 137 [.ref a0, .int a1, .int a2, .int a3] m = (if S.1 a0 = 8 then E_X6_takeBackOne S a0 a1 a2 a3 m else none) := by
  show xi_calls [(137, xi_wV S 8 3 (F_X6_takeBackOne S))] 137 [.ref a0, .int a1, .int a2, .int a3] m = _
  refine Eq.trans (b := xi_wV S 8 3 (F_X6_takeBackOne S) [.ref a0, .int a1, .int a2, .int a3] m) (xi_calls_hit rfl) ?_
  exact xi_wV_eq rfl
def G_X6_takeBack_14 (S : xi_S) : Nat → Nat → Int32 → Int32 → Int32 → xi_M → Option xi_R
  | 0, _, _, _, _, _ => none
  | n + 1, v0, v1, v2, v3, m =>
    if v3 < v1 then
      if S.1 v0 = 8 then
        some (some (.int v2), (xi_wI m v0 4 v1))
      else none
    else
      if S.1 v0 = 8 then (S.2.2 v0 11).bind fun b3 =>
        if S.1 b3 = 0 ∧ ¬ (v3 < 0 ∨ S.2.1 b3 ≤ Int32.toNatClampNeg v3) then
          if S.1 v0 = 8 then (S.2.2 v0 12).bind fun b6 =>
            if S.1 b6 = 0 ∧ ¬ (v3 < 0 ∨ S.2.1 b6 ≤ Int32.toNatClampNeg v3) then
              if S.1 v0 = 8 then (S.2.2 v0 13).bind fun b9 =>
                if S.1 b9 = 0 ∧ ¬ (v3 < 0 ∨ S.2.1 b9 ≤ Int32.toNatClampNeg v3) then
                  xi_bV (if S.1 v0 = 8 then E_X6_takeBackOne S v0 (m.1 b3 (Int32.toNatClampNeg v3)) (m.1 b6 (Int32.toNatClampNeg v3)) (m.1 b9 (Int32.toNatClampNeg v3)) m else none) fun m11 =>
                  G_X6_takeBack_14 S n v0 v1 v2 (v3 + Int32.ofInt (-1)) m11
                else none
              else none
            else none
          else none
        else none
      else none
set_option maxRecDepth 100000 in
set_option maxHeartbeats 4000000 in
theorem xs_X6_takeBack_14 {S : xi_S} {res : xi_R} : ∀ (n : Nat) (v0 : Nat) (v1 : Int32) (v2 : Int32) (v3 : Int32) (m : xi_M), G_X6_takeBack_14 S n v0 v1 v2 v3 m = some res → xi_X S (P_X6_takeBack S) (14, [some (.ref v0), some (.int v1), some (.int v2), some (.int v3)], [], m) res := by
  intro n
  induction n with
  | zero => intro v0 v1 v2 v3 m h; exact xi_no h
  | succ n ih =>
    intro v0 v1 v2 v3 m h
    unfold G_X6_takeBack_14 at h
    refine xr_iload_n i_X6_takeBack_14 rfl (q := 15) rfl ?_
    refine xr_iload_n i_X6_takeBack_15 rfl (q := 16) rfl ?_
    by_cases c12 : v3 < v1
    · replace h := (if_pos c12).symm.trans h
      refine xr_if_icmp_lt_p i_X6_takeBack_16 c12 (q := 47) t_X6_takeBack_16 (q2 := 19) rfl ?_
      refine xr_aload_n i_X6_takeBack_47 rfl (q := 48) rfl ?_
      refine xr_iload_n i_X6_takeBack_48 rfl (q := 49) rfl ?_
      obtain ⟨c1, h⟩ := xi_if_some h
      refine xr_putI i_X6_takeBack_49 xfe_X6_52 c1 (q := 52) rfl ?_
      refine xr_iload_n i_X6_takeBack_52 rfl (q := 53) rfl ?_
      exact xr_ireturn i_X6_takeBack_53 rfl h
    · replace h := (if_neg c12).symm.trans h
      refine xr_if_icmp_lt_n i_X6_takeBack_16 c12 (q := 47) t_X6_takeBack_16 (q2 := 19) rfl ?_
      refine xr_aload_n i_X6_takeBack_19 rfl (q := 20) rfl ?_
      refine xr_aload_n i_X6_takeBack_20 rfl (q := 21) rfl ?_
      obtain ⟨c2, h⟩ := xi_if_some h
      obtain ⟨b3, eb3, h⟩ := xi_bind_some h
      refine xr_getR i_X6_takeBack_21 xfe_X6_30 c2 eb3 (q := 24) rfl ?_
      refine xr_iload_n i_X6_takeBack_24 rfl (q := 25) rfl ?_
      obtain ⟨c4, h⟩ := xi_if_some h
      refine xr_iaload i_X6_takeBack_25 c4 (q := 26) rfl ?_
      refine xr_aload_n i_X6_takeBack_26 rfl (q := 27) rfl ?_
      obtain ⟨c5, h⟩ := xi_if_some h
      obtain ⟨b6, eb6, h⟩ := xi_bind_some h
      refine xr_getR i_X6_takeBack_27 xfe_X6_33 c5 eb6 (q := 30) rfl ?_
      refine xr_iload_n i_X6_takeBack_30 rfl (q := 31) rfl ?_
      obtain ⟨c7, h⟩ := xi_if_some h
      refine xr_iaload i_X6_takeBack_31 c7 (q := 32) rfl ?_
      refine xr_aload_n i_X6_takeBack_32 rfl (q := 33) rfl ?_
      obtain ⟨c8, h⟩ := xi_if_some h
      obtain ⟨b9, eb9, h⟩ := xi_bind_some h
      refine xr_getR i_X6_takeBack_33 xfe_X6_36 c8 eb9 (q := 36) rfl ?_
      refine xr_iload_n i_X6_takeBack_36 rfl (q := 37) rfl ?_
      obtain ⟨c10, h⟩ := xi_if_some h
      refine xr_iaload i_X6_takeBack_37 c10 (q := 38) rfl ?_
      obtain ⟨m11, em11, h⟩ := xi_bV_some h
      refine xr_VV i_X6_takeBack_38 xcve_X6_137 rfl (As := [.ref v0, .int (m.1 b3 (Int32.toNatClampNeg v3)), .int (m.1 b6 (Int32.toNatClampNeg v3)), .int (m.1 b9 (Int32.toNatClampNeg v3))]) rfl (rest := []) rfl ((cc_X6_takeBack_137 S _ _ _ _ _).trans em11) (q := 41) rfl ?_
      refine xr_iinc i_X6_takeBack_41 rfl rfl (L2 := [some (.ref v0), some (.int v1), some (.int v2), some (.int (v3 + Int32.ofInt (-1)))]) rfl (q := 44) rfl ?_
      refine xr_goto i_X6_takeBack_44 (q := 14) t_X6_takeBack_44 ?_
      exact xi_X_le (xi_le_s (xi_le_s (xi_le_s (xi_le_s xi_le_z)))) (ih _ _ _ _ _ h)
def E_X6_takeBack (S : xi_S) (v0 : Nat) (v1 : Int32) (m : xi_M) : Option xi_R :=
  if S.1 v0 = 8 then
    if S.1 v0 = 8 then
      G_X6_takeBack_14 S 10000 v0 v1 ((m.1 v0 4) - v1) ((m.1 v0 4) - (Int32.ofInt 1)) m
    else none
  else none
def F_X6_takeBack (S : xi_S) : xi_F := fun As m => match As with
  | [.ref v0, .int v1] => E_X6_takeBack S v0 v1 m
  | _ => none
set_option maxRecDepth 100000 in
set_option maxHeartbeats 4000000 in
theorem xe_X6_takeBack {S : xi_S} {res : xi_R} (v0 : Nat) (v1 : Int32) (m : xi_M) (h : E_X6_takeBack S v0 v1 m = some res) : xi_X S (P_X6_takeBack S) (0, [some (.ref v0), some (.int v1), none, none], [], m) res := by
  unfold E_X6_takeBack at h
  refine xr_aload_n i_X6_takeBack_0 rfl (q := 1) rfl ?_
  obtain ⟨c1, h⟩ := xi_if_some h
  refine xr_getI i_X6_takeBack_1 xfe_X6_52 c1 (q := 4) rfl ?_
  refine xr_iload_n i_X6_takeBack_4 rfl (q := 5) rfl ?_
  refine xr_isub i_X6_takeBack_5 (q := 6) rfl ?_
  refine xr_istore_n i_X6_takeBack_6 rfl (L2 := [some (.ref v0), some (.int v1), some (.int ((m.1 v0 4) - v1)), none]) rfl (q := 7) rfl ?_
  refine xr_aload_n i_X6_takeBack_7 rfl (q := 8) rfl ?_
  obtain ⟨c2, h⟩ := xi_if_some h
  refine xr_getI i_X6_takeBack_8 xfe_X6_52 c2 (q := 11) rfl ?_
  refine xr_iconst i_X6_takeBack_11 (q := 12) rfl ?_
  refine xr_isub i_X6_takeBack_12 (q := 13) rfl ?_
  refine xr_istore_n i_X6_takeBack_13 rfl (L2 := [some (.ref v0), some (.int v1), some (.int ((m.1 v0 4) - v1)), some (.int ((m.1 v0 4) - (Int32.ofInt 1)))]) rfl (q := 14) rfl ?_
  exact xi_X_le (xi_le_s (xi_le_s (xi_le_s (xi_le_s xi_le_z)))) (xs_X6_takeBack_14 10000 _ _ _ _ _ h)
set_option maxRecDepth 100000 in
theorem po_X6_takeBack {l : Launch} {E : xi_E} {S : xi_S} {D : va_G} {tys : List (ClassId × FieldType)} (hC : xCx E S tys) : xi_Pok l E S D vwCl tys xNs RX6 xTs cX6_takeBack 4 3 (P_X6_takeBack S) := ⟨xi_dc_ok, by rw [hC.2]; exact xfo_X6, xkio_X6, xklo_X6, xi_calls_ok (ins := .invokestatic) (fun _ h => absurd h List.not_mem_nil), xi_calls_ok (ins := .invokevirtual) (List.forall_mem_cons.mpr ⟨(xc_X6_137 hC.1 (sn_X6_takeBackOne hC) (by decide)), fun _ h => absurd h List.not_mem_nil⟩)⟩
theorem sn_X6_takeBack {l : Launch} {E : xi_E} {S : xi_S} {D : va_G} {tys : List (ClassId × FieldType)} (hC : xCx E S tys) : ∀ As m1 r m2, F_X6_takeBack S As m1 = some (r, m2) → xi_Sound l E S D vwCl tys xNs xTs yX6_takeBack cX6_takeBack 4 (some .int) 3 As m1 r m2 := by
  intro As m1 r m2 h
  unfold F_X6_takeBack at h
  split at h
  · exact xi_meth (P := P_X6_takeBack S) (by decide) hC.1 (po_X6_takeBack hC) (Nat.le_of_ble_eq_true rfl) rfl (xe_X6_takeBack _ _ _ h)
  · exact xi_no h
theorem i_X7_begin_0 : xi_dc cX7_begin 0 = some (.aload_n 0, 1) := by decide +kernel
theorem i_X7_begin_1 : xi_dc cX7_begin 1 = some (.iconst 1, 1) := by decide +kernel
theorem i_X7_begin_2 : xi_dc cX7_begin 2 = some (.putfield 15, 3) := by decide +kernel
theorem i_X7_begin_5 : xi_dc cX7_begin 5 = some (.aload_n 0, 1) := by decide +kernel
theorem i_X7_begin_6 : xi_dc cX7_begin 6 = some (.iload_n 1, 1) := by decide +kernel
theorem i_X7_begin_7 : xi_dc cX7_begin 7 = some (.putfield 19, 3) := by decide +kernel
theorem i_X7_begin_10 : xi_dc cX7_begin 10 = some (.aload_n 0, 1) := by decide +kernel
theorem i_X7_begin_11 : xi_dc cX7_begin 11 = some (.getfield 9, 3) := by decide +kernel
theorem i_X7_begin_14 : xi_dc cX7_begin 14 = some (.iload_n 2, 1) := by decide +kernel
theorem i_X7_begin_15 : xi_dc cX7_begin 15 = some (.invokestatic 23, 3) := by decide +kernel
theorem i_X7_begin_18 : xi_dc cX7_begin 18 = some (.return_, 1) := by decide +kernel
def P_X7_begin (S : xi_S) : xi_P := (xi_dc cX7_begin, xi_tab xfl_X7, xi_tab xki_X7, xi_tab xkl_X7, xi_tab xcs_X7, xi_tab xcv_X7, xi_calls [(23, xi_wS 2 (F_J7_fill_53178 S))], xi_calls [], 0)
theorem cc_X7_begin_23 (S : xi_S) (a0 : Nat) (a1 : Int32) (m : xi_M) : (P_X7_begin S).2.2.2.2.2.2.1 23 [.ref a0, .int a1] m = (E_J7_fill_53178 S a0 a1 m) := by
  show xi_calls [(23, xi_wS 2 (F_J7_fill_53178 S))] 23 [.ref a0, .int a1] m = _
  refine Eq.trans (b := xi_wS 2 (F_J7_fill_53178 S) [.ref a0, .int a1] m) (xi_calls_hit rfl) ?_
  exact xi_wS_eq rfl
def E_X7_begin (S : xi_S) (v0 : Nat) (v1 : Int32) (v2 : Int32) (m : xi_M) : Option xi_R :=
  if S.1 v0 = 9 ∧ ((Int32.ofInt 1) = 0 ∨ (Int32.ofInt 1) = 1) then
    if S.1 v0 = 9 then
      if S.1 v0 = 9 then (S.2.2 v0 2).bind fun b4 =>
        xi_bV (E_J7_fill_53178 S b4 v2 (xi_wI (xi_wI m v0 0 (Int32.ofInt 1)) v0 1 v1)) fun m5 =>
        some (none, m5)
      else none
    else none
  else none
def F_X7_begin (S : xi_S) : xi_F := fun As m => match As with
  | [.ref v0, .int v1, .int v2] => E_X7_begin S v0 v1 v2 m
  | _ => none
set_option maxRecDepth 100000 in
set_option maxHeartbeats 4000000 in
theorem xe_X7_begin {S : xi_S} {res : xi_R} (v0 : Nat) (v1 : Int32) (v2 : Int32) (m : xi_M) (h : E_X7_begin S v0 v1 v2 m = some res) : xi_X S (P_X7_begin S) (0, [some (.ref v0), some (.int v1), some (.int v2)], [], m) res := by
  unfold E_X7_begin at h
  refine xr_aload_n i_X7_begin_0 rfl (q := 1) rfl ?_
  refine xr_iconst i_X7_begin_1 (q := 2) rfl ?_
  obtain ⟨c1, h⟩ := xi_if_some h
  refine xr_putZ i_X7_begin_2 xfe_X7_15 c1 (q := 5) rfl ?_
  refine xr_aload_n i_X7_begin_5 rfl (q := 6) rfl ?_
  refine xr_iload_n i_X7_begin_6 rfl (q := 7) rfl ?_
  obtain ⟨c2, h⟩ := xi_if_some h
  refine xr_putI i_X7_begin_7 xfe_X7_19 c2 (q := 10) rfl ?_
  refine xr_aload_n i_X7_begin_10 rfl (q := 11) rfl ?_
  obtain ⟨c3, h⟩ := xi_if_some h
  obtain ⟨b4, eb4, h⟩ := xi_bind_some h
  refine xr_getR i_X7_begin_11 xfe_X7_9 c3 eb4 (q := 14) rfl ?_
  refine xr_iload_n i_X7_begin_14 rfl (q := 15) rfl ?_
  obtain ⟨m5, em5, h⟩ := xi_bV_some h
  refine xr_SV i_X7_begin_15 xcse_X7_23 rfl (As := [.ref b4, .int v2]) rfl (rest := []) rfl ((cc_X7_begin_23 S _ _ _).trans em5) (q := 18) rfl ?_
  exact xr_return i_X7_begin_18 rfl h
set_option maxRecDepth 100000 in
theorem po_X7_begin {l : Launch} {E : xi_E} {S : xi_S} {D : va_G} {tys : List (ClassId × FieldType)} (hC : xCx E S tys) : xi_Pok l E S D vwCl tys xNs RX7 xTs cX7_begin 3 1 (P_X7_begin S) := ⟨xi_dc_ok, by rw [hC.2]; exact xfo_X7, xkio_X7, xklo_X7, xi_calls_ok (ins := .invokestatic) (List.forall_mem_cons.mpr ⟨(xc_X7_23 (sn_J7_fill_53178 hC) (by decide)), fun _ h => absurd h List.not_mem_nil⟩), xi_calls_ok (ins := .invokevirtual) (fun _ h => absurd h List.not_mem_nil)⟩
theorem sn_X7_begin {l : Launch} {E : xi_E} {S : xi_S} {D : va_G} {tys : List (ClassId × FieldType)} (hC : xCx E S tys) : ∀ As m1 r m2, F_X7_begin S As m1 = some (r, m2) → xi_Sound l E S D vwCl tys xNs xTs yX7_begin cX7_begin 3 none 1 As m1 r m2 := by
  intro As m1 r m2 h
  unfold F_X7_begin at h
  split at h
  · exact xi_meth (P := P_X7_begin S) (by decide) hC.1 (po_X7_begin hC) (Nat.le_of_ble_eq_true rfl) rfl (xe_X7_begin _ _ _ _ h)
  · exact xi_no h
theorem i_X7_findingAt_0 : xi_dc cX7_findingAt 0 = some (.aload_n 0, 1) := by decide +kernel
theorem i_X7_findingAt_1 : xi_dc cX7_findingAt 1 = some (.getfield 15, 3) := by decide +kernel
theorem i_X7_findingAt_4 : xi_dc cX7_findingAt 4 = some (.ifCond .ne 5, 3) := by decide +kernel
theorem t_X7_findingAt_4 : ((4 : Nat) : Int) + 5 = ((9 : Nat) : Int) := by decide +kernel
theorem i_X7_findingAt_7 : xi_dc cX7_findingAt 7 = some (.iconst 1, 1) := by decide +kernel
theorem i_X7_findingAt_8 : xi_dc cX7_findingAt 8 = some (.ireturn, 1) := by decide +kernel
theorem i_X7_findingAt_9 : xi_dc cX7_findingAt 9 = some (.iload_n 1, 1) := by decide +kernel
theorem i_X7_findingAt_10 : xi_dc cX7_findingAt 10 = some (.ifCond .lt 11, 3) := by decide +kernel
theorem t_X7_findingAt_10 : ((10 : Nat) : Int) + 11 = ((21 : Nat) : Int) := by decide +kernel
theorem i_X7_findingAt_13 : xi_dc cX7_findingAt 13 = some (.iload_n 1, 1) := by decide +kernel
theorem i_X7_findingAt_14 : xi_dc cX7_findingAt 14 = some (.aload_n 0, 1) := by decide +kernel
theorem i_X7_findingAt_15 : xi_dc cX7_findingAt 15 = some (.getfield 19, 3) := by decide +kernel
theorem i_X7_findingAt_18 : xi_dc cX7_findingAt 18 = some (.if_icmp .lt 7, 3) := by decide +kernel
theorem t_X7_findingAt_18 : ((18 : Nat) : Int) + 7 = ((25 : Nat) : Int) := by decide +kernel
theorem i_X7_findingAt_21 : xi_dc cX7_findingAt 21 = some (.iconst 2, 1) := by decide +kernel
theorem i_X7_findingAt_22 : xi_dc cX7_findingAt 22 = some (.goto 4, 3) := by decide +kernel
theorem t_X7_findingAt_22 : ((22 : Nat) : Int) + 4 = ((26 : Nat) : Int) := by decide +kernel
theorem i_X7_findingAt_25 : xi_dc cX7_findingAt 25 = some (.iconst 0, 1) := by decide +kernel
theorem i_X7_findingAt_26 : xi_dc cX7_findingAt 26 = some (.ireturn, 1) := by decide +kernel
def P_X7_findingAt (S : xi_S) : xi_P := (xi_dc cX7_findingAt, xi_tab xfl_X7, xi_tab xki_X7, xi_tab xkl_X7, xi_tab xcs_X7, xi_tab xcv_X7, xi_calls [], xi_calls [], 1)
def E_X7_findingAt (S : xi_S) (v0 : Nat) (v1 : Int32) (m : xi_M) : Option xi_R :=
  if S.1 v0 = 9 then
    if (m.1 v0 0) = 0 then
      some (some (.int (Int32.ofInt 1)), m)
    else
      if v1 < 0 then
        some (some (.int (Int32.ofInt 2)), m)
      else
        if S.1 v0 = 9 then
          if v1 < (m.1 v0 1) then
            some (some (.int (Int32.ofInt 0)), m)
          else
            some (some (.int (Int32.ofInt 2)), m)
        else none
  else none
def F_X7_findingAt (S : xi_S) : xi_F := fun As m => match As with
  | [.ref v0, .int v1] => E_X7_findingAt S v0 v1 m
  | _ => none
set_option maxRecDepth 100000 in
set_option maxHeartbeats 4000000 in
theorem xe_X7_findingAt {S : xi_S} {res : xi_R} (v0 : Nat) (v1 : Int32) (m : xi_M) (h : E_X7_findingAt S v0 v1 m = some res) : xi_X S (P_X7_findingAt S) (0, [some (.ref v0), some (.int v1)], [], m) res := by
  unfold E_X7_findingAt at h
  refine xr_aload_n i_X7_findingAt_0 rfl (q := 1) rfl ?_
  obtain ⟨c1, h⟩ := xi_if_some h
  refine xr_getZ i_X7_findingAt_1 xfe_X7_15 c1 (q := 4) rfl ?_
  by_cases c5 : (m.1 v0 0) = 0
  · replace h := (if_pos c5).symm.trans h
    refine xr_ifCond_ne_p i_X7_findingAt_4 c5 (q := 9) t_X7_findingAt_4 (q2 := 7) rfl ?_
    refine xr_iconst i_X7_findingAt_7 (q := 8) rfl ?_
    exact xr_ireturn i_X7_findingAt_8 rfl h
  · replace h := (if_neg c5).symm.trans h
    refine xr_ifCond_ne_n i_X7_findingAt_4 c5 (q := 9) t_X7_findingAt_4 (q2 := 7) rfl ?_
    refine xr_iload_n i_X7_findingAt_9 rfl (q := 10) rfl ?_
    by_cases c4 : v1 < 0
    · replace h := (if_pos c4).symm.trans h
      refine xr_ifCond_lt_p i_X7_findingAt_10 c4 (q := 21) t_X7_findingAt_10 (q2 := 13) rfl ?_
      refine xr_iconst i_X7_findingAt_21 (q := 22) rfl ?_
      refine xr_goto i_X7_findingAt_22 (q := 26) t_X7_findingAt_22 ?_
      exact xr_ireturn i_X7_findingAt_26 rfl h
    · replace h := (if_neg c4).symm.trans h
      refine xr_ifCond_lt_n i_X7_findingAt_10 c4 (q := 21) t_X7_findingAt_10 (q2 := 13) rfl ?_
      refine xr_iload_n i_X7_findingAt_13 rfl (q := 14) rfl ?_
      refine xr_aload_n i_X7_findingAt_14 rfl (q := 15) rfl ?_
      obtain ⟨c2, h⟩ := xi_if_some h
      refine xr_getI i_X7_findingAt_15 xfe_X7_19 c2 (q := 18) rfl ?_
      by_cases c3 : v1 < (m.1 v0 1)
      · replace h := (if_pos c3).symm.trans h
        refine xr_if_icmp_lt_p i_X7_findingAt_18 c3 (q := 25) t_X7_findingAt_18 (q2 := 21) rfl ?_
        refine xr_iconst i_X7_findingAt_25 (q := 26) rfl ?_
        exact xr_ireturn i_X7_findingAt_26 rfl h
      · replace h := (if_neg c3).symm.trans h
        refine xr_if_icmp_lt_n i_X7_findingAt_18 c3 (q := 25) t_X7_findingAt_18 (q2 := 21) rfl ?_
        refine xr_iconst i_X7_findingAt_21 (q := 22) rfl ?_
        refine xr_goto i_X7_findingAt_22 (q := 26) t_X7_findingAt_22 ?_
        exact xr_ireturn i_X7_findingAt_26 rfl h
set_option maxRecDepth 100000 in
theorem po_X7_findingAt {l : Launch} {E : xi_E} {S : xi_S} {D : va_G} {tys : List (ClassId × FieldType)} (hC : xCx E S tys) : xi_Pok l E S D vwCl tys xNs RX7 xTs cX7_findingAt 2 0 (P_X7_findingAt S) := ⟨xi_dc_ok, by rw [hC.2]; exact xfo_X7, xkio_X7, xklo_X7, xi_calls_ok (ins := .invokestatic) (fun _ h => absurd h List.not_mem_nil), xi_calls_ok (ins := .invokevirtual) (fun _ h => absurd h List.not_mem_nil)⟩
theorem sn_X7_findingAt {l : Launch} {E : xi_E} {S : xi_S} {D : va_G} {tys : List (ClassId × FieldType)} (hC : xCx E S tys) : ∀ As m1 r m2, F_X7_findingAt S As m1 = some (r, m2) → xi_Sound l E S D vwCl tys xNs xTs yX7_findingAt cX7_findingAt 2 (some .int) 0 As m1 r m2 := by
  intro As m1 r m2 h
  unfold F_X7_findingAt at h
  split at h
  · exact xi_meth (P := P_X7_findingAt S) (by decide) hC.1 (po_X7_findingAt hC) (Nat.le_of_ble_eq_true rfl) rfl (xe_X7_findingAt _ _ _ h)
  · exact xi_no h
theorem i_X7_holds_0 : xi_dc cX7_holds 0 = some (.iload_n 1, 1) := by decide +kernel
theorem i_X7_holds_1 : xi_dc cX7_holds 1 = some (.ifCond .lt 25, 3) := by decide +kernel
theorem t_X7_holds_1 : ((1 : Nat) : Int) + 25 = ((26 : Nat) : Int) := by decide +kernel
theorem i_X7_holds_4 : xi_dc cX7_holds 4 = some (.iload_n 1, 1) := by decide +kernel
theorem i_X7_holds_5 : xi_dc cX7_holds 5 = some (.aload_n 0, 1) := by decide +kernel
theorem i_X7_holds_6 : xi_dc cX7_holds 6 = some (.getfield 19, 3) := by decide +kernel
theorem i_X7_holds_9 : xi_dc cX7_holds 9 = some (.if_icmp .gt 17, 3) := by decide +kernel
theorem t_X7_holds_9 : ((9 : Nat) : Int) + 17 = ((26 : Nat) : Int) := by decide +kernel
theorem i_X7_holds_12 : xi_dc cX7_holds 12 = some (.iload_n 2, 1) := by decide +kernel
theorem i_X7_holds_13 : xi_dc cX7_holds 13 = some (.aload_n 0, 1) := by decide +kernel
theorem i_X7_holds_14 : xi_dc cX7_holds 14 = some (.getfield 19, 3) := by decide +kernel
theorem i_X7_holds_17 : xi_dc cX7_holds 17 = some (.iload_n 1, 1) := by decide +kernel
theorem i_X7_holds_18 : xi_dc cX7_holds 18 = some (.isub, 1) := by decide +kernel
theorem i_X7_holds_19 : xi_dc cX7_holds 19 = some (.if_icmp .gt 7, 3) := by decide +kernel
theorem t_X7_holds_19 : ((19 : Nat) : Int) + 7 = ((26 : Nat) : Int) := by decide +kernel
theorem i_X7_holds_22 : xi_dc cX7_holds 22 = some (.iconst 1, 1) := by decide +kernel
theorem i_X7_holds_23 : xi_dc cX7_holds 23 = some (.goto 4, 3) := by decide +kernel
theorem t_X7_holds_23 : ((23 : Nat) : Int) + 4 = ((27 : Nat) : Int) := by decide +kernel
theorem i_X7_holds_26 : xi_dc cX7_holds 26 = some (.iconst 0, 1) := by decide +kernel
theorem i_X7_holds_27 : xi_dc cX7_holds 27 = some (.ireturn, 1) := by decide +kernel
def P_X7_holds (S : xi_S) : xi_P := (xi_dc cX7_holds, xi_tab xfl_X7, xi_tab xki_X7, xi_tab xkl_X7, xi_tab xcs_X7, xi_tab xcv_X7, xi_calls [], xi_calls [], 2)
def E_X7_holds (S : xi_S) (v0 : Nat) (v1 : Int32) (v2 : Int32) (m : xi_M) : Option xi_R :=
  if v1 < 0 then
    if (Int32.ofInt 0) = 0 ∨ (Int32.ofInt 0) = 1 then some (some (.int (Int32.ofInt 0)), m) else none
  else
    if S.1 v0 = 9 then
      if (m.1 v0 1) < v1 then
        if (Int32.ofInt 0) = 0 ∨ (Int32.ofInt 0) = 1 then some (some (.int (Int32.ofInt 0)), m) else none
      else
        if S.1 v0 = 9 then
          if ((m.1 v0 1) - v1) < v2 then
            if (Int32.ofInt 0) = 0 ∨ (Int32.ofInt 0) = 1 then some (some (.int (Int32.ofInt 0)), m) else none
          else
            if (Int32.ofInt 1) = 0 ∨ (Int32.ofInt 1) = 1 then some (some (.int (Int32.ofInt 1)), m) else none
        else none
    else none
def F_X7_holds (S : xi_S) : xi_F := fun As m => match As with
  | [.ref v0, .int v1, .int v2] => E_X7_holds S v0 v1 v2 m
  | _ => none
set_option maxRecDepth 100000 in
set_option maxHeartbeats 4000000 in
theorem xe_X7_holds {S : xi_S} {res : xi_R} (v0 : Nat) (v1 : Int32) (v2 : Int32) (m : xi_M) (h : E_X7_holds S v0 v1 v2 m = some res) : xi_X S (P_X7_holds S) (0, [some (.ref v0), some (.int v1), some (.int v2)], [], m) res := by
  unfold E_X7_holds at h
  refine xr_iload_n i_X7_holds_0 rfl (q := 1) rfl ?_
  by_cases c5 : v1 < 0
  · replace h := (if_pos c5).symm.trans h
    refine xr_ifCond_lt_p i_X7_holds_1 c5 (q := 26) t_X7_holds_1 (q2 := 4) rfl ?_
    refine xr_iconst i_X7_holds_26 (q := 27) rfl ?_
    exact xr_zreturn i_X7_holds_27 rfl h
  · replace h := (if_neg c5).symm.trans h
    refine xr_ifCond_lt_n i_X7_holds_1 c5 (q := 26) t_X7_holds_1 (q2 := 4) rfl ?_
    refine xr_iload_n i_X7_holds_4 rfl (q := 5) rfl ?_
    refine xr_aload_n i_X7_holds_5 rfl (q := 6) rfl ?_
    obtain ⟨c1, h⟩ := xi_if_some h
    refine xr_getI i_X7_holds_6 xfe_X7_19 c1 (q := 9) rfl ?_
    by_cases c4 : (m.1 v0 1) < v1
    · replace h := (if_pos c4).symm.trans h
      refine xr_if_icmp_gt_p i_X7_holds_9 c4 (q := 26) t_X7_holds_9 (q2 := 12) rfl ?_
      refine xr_iconst i_X7_holds_26 (q := 27) rfl ?_
      exact xr_zreturn i_X7_holds_27 rfl h
    · replace h := (if_neg c4).symm.trans h
      refine xr_if_icmp_gt_n i_X7_holds_9 c4 (q := 26) t_X7_holds_9 (q2 := 12) rfl ?_
      refine xr_iload_n i_X7_holds_12 rfl (q := 13) rfl ?_
      refine xr_aload_n i_X7_holds_13 rfl (q := 14) rfl ?_
      obtain ⟨c2, h⟩ := xi_if_some h
      refine xr_getI i_X7_holds_14 xfe_X7_19 c2 (q := 17) rfl ?_
      refine xr_iload_n i_X7_holds_17 rfl (q := 18) rfl ?_
      refine xr_isub i_X7_holds_18 (q := 19) rfl ?_
      by_cases c3 : ((m.1 v0 1) - v1) < v2
      · replace h := (if_pos c3).symm.trans h
        refine xr_if_icmp_gt_p i_X7_holds_19 c3 (q := 26) t_X7_holds_19 (q2 := 22) rfl ?_
        refine xr_iconst i_X7_holds_26 (q := 27) rfl ?_
        exact xr_zreturn i_X7_holds_27 rfl h
      · replace h := (if_neg c3).symm.trans h
        refine xr_if_icmp_gt_n i_X7_holds_19 c3 (q := 26) t_X7_holds_19 (q2 := 22) rfl ?_
        refine xr_iconst i_X7_holds_22 (q := 23) rfl ?_
        refine xr_goto i_X7_holds_23 (q := 27) t_X7_holds_23 ?_
        exact xr_zreturn i_X7_holds_27 rfl h
set_option maxRecDepth 100000 in
theorem po_X7_holds {l : Launch} {E : xi_E} {S : xi_S} {D : va_G} {tys : List (ClassId × FieldType)} (hC : xCx E S tys) : xi_Pok l E S D vwCl tys xNs RX7 xTs cX7_holds 3 0 (P_X7_holds S) := ⟨xi_dc_ok, by rw [hC.2]; exact xfo_X7, xkio_X7, xklo_X7, xi_calls_ok (ins := .invokestatic) (fun _ h => absurd h List.not_mem_nil), xi_calls_ok (ins := .invokevirtual) (fun _ h => absurd h List.not_mem_nil)⟩
theorem sn_X7_holds {l : Launch} {E : xi_E} {S : xi_S} {D : va_G} {tys : List (ClassId × FieldType)} (hC : xCx E S tys) : ∀ As m1 r m2, F_X7_holds S As m1 = some (r, m2) → xi_Sound l E S D vwCl tys xNs xTs yX7_holds cX7_holds 3 (some .boolean) 0 As m1 r m2 := by
  intro As m1 r m2 h
  unfold F_X7_holds at h
  split at h
  · exact xi_meth (P := P_X7_holds S) (by decide) hC.1 (po_X7_holds hC) (Nat.le_of_ble_eq_true rfl) rfl (xe_X7_holds _ _ _ _ h)
  · exact xi_no h
theorem i_X7_sum_0 : xi_dc cX7_sum 0 = some (.lconst 0, 1) := by decide +kernel
theorem i_X7_sum_1 : xi_dc cX7_sum 1 = some (.lstore_n 1, 1) := by decide +kernel
theorem i_X7_sum_2 : xi_dc cX7_sum 2 = some (.iconst 0, 1) := by decide +kernel
theorem i_X7_sum_3 : xi_dc cX7_sum 3 = some (.istore_n 3, 1) := by decide +kernel
theorem i_X7_sum_4 : xi_dc cX7_sum 4 = some (.iload_n 3, 1) := by decide +kernel
theorem i_X7_sum_5 : xi_dc cX7_sum 5 = some (.aload_n 0, 1) := by decide +kernel
theorem i_X7_sum_6 : xi_dc cX7_sum 6 = some (.getfield 19, 3) := by decide +kernel
theorem i_X7_sum_9 : xi_dc cX7_sum 9 = some (.if_icmp .ge 19, 3) := by decide +kernel
theorem t_X7_sum_9 : ((9 : Nat) : Int) + 19 = ((28 : Nat) : Int) := by decide +kernel
theorem i_X7_sum_12 : xi_dc cX7_sum 12 = some (.lload_n 1, 1) := by decide +kernel
theorem i_X7_sum_13 : xi_dc cX7_sum 13 = some (.aload_n 0, 1) := by decide +kernel
theorem i_X7_sum_14 : xi_dc cX7_sum 14 = some (.getfield 9, 3) := by decide +kernel
theorem i_X7_sum_17 : xi_dc cX7_sum 17 = some (.iload_n 3, 1) := by decide +kernel
theorem i_X7_sum_18 : xi_dc cX7_sum 18 = some (.iaload, 1) := by decide +kernel
theorem i_X7_sum_19 : xi_dc cX7_sum 19 = some (.i2l, 1) := by decide +kernel
theorem i_X7_sum_20 : xi_dc cX7_sum 20 = some (.ladd, 1) := by decide +kernel
theorem i_X7_sum_21 : xi_dc cX7_sum 21 = some (.lstore_n 1, 1) := by decide +kernel
theorem i_X7_sum_22 : xi_dc cX7_sum 22 = some (.iinc 3 1, 3) := by decide +kernel
theorem i_X7_sum_25 : xi_dc cX7_sum 25 = some (.goto (-21), 3) := by decide +kernel
theorem t_X7_sum_25 : ((25 : Nat) : Int) + (-21) = ((4 : Nat) : Int) := by decide +kernel
theorem i_X7_sum_28 : xi_dc cX7_sum 28 = some (.lload_n 1, 1) := by decide +kernel
theorem i_X7_sum_29 : xi_dc cX7_sum 29 = some (.lreturn, 1) := by decide +kernel
def P_X7_sum (S : xi_S) : xi_P := (xi_dc cX7_sum, xi_tab xfl_X7, xi_tab xki_X7, xi_tab xkl_X7, xi_tab xcs_X7, xi_tab xcv_X7, xi_calls [], xi_calls [], 3)
def G_X7_sum_4 (S : xi_S) : Nat → Nat → Int64 → Int32 → xi_M → Option xi_R
  | 0, _, _, _, _ => none
  | n + 1, v0, v1, v3, m =>
    if S.1 v0 = 9 then
      if (m.1 v0 1) ≤ v3 then
        some (some (.long v1), m)
      else
        if S.1 v0 = 9 then (S.2.2 v0 2).bind fun b3 =>
          if S.1 b3 = 0 ∧ ¬ (v3 < 0 ∨ S.2.1 b3 ≤ Int32.toNatClampNeg v3) then
            G_X7_sum_4 S n v0 (v1 + (Int32.toInt64 (m.1 b3 (Int32.toNatClampNeg v3)))) (v3 + Int32.ofInt 1) m
          else none
        else none
    else none
set_option maxRecDepth 100000 in
set_option maxHeartbeats 4000000 in
theorem xs_X7_sum_4 {S : xi_S} {res : xi_R} : ∀ (n : Nat) (v0 : Nat) (v1 : Int64) (v3 : Int32) (m : xi_M), G_X7_sum_4 S n v0 v1 v3 m = some res → xi_X S (P_X7_sum S) (4, [some (.ref v0), some (.long v1), none, some (.int v3)], [], m) res := by
  intro n
  induction n with
  | zero => intro v0 v1 v3 m h; exact xi_no h
  | succ n ih =>
    intro v0 v1 v3 m h
    unfold G_X7_sum_4 at h
    refine xr_iload_n i_X7_sum_4 rfl (q := 5) rfl ?_
    refine xr_aload_n i_X7_sum_5 rfl (q := 6) rfl ?_
    obtain ⟨c1, h⟩ := xi_if_some h
    refine xr_getI i_X7_sum_6 xfe_X7_19 c1 (q := 9) rfl ?_
    by_cases c5 : (m.1 v0 1) ≤ v3
    · replace h := (if_pos c5).symm.trans h
      refine xr_if_icmp_ge_p i_X7_sum_9 c5 (q := 28) t_X7_sum_9 (q2 := 12) rfl ?_
      refine xr_lload_n i_X7_sum_28 rfl (q := 29) rfl ?_
      exact xr_lreturn i_X7_sum_29 rfl h
    · replace h := (if_neg c5).symm.trans h
      refine xr_if_icmp_ge_n i_X7_sum_9 c5 (q := 28) t_X7_sum_9 (q2 := 12) rfl ?_
      refine xr_lload_n i_X7_sum_12 rfl (q := 13) rfl ?_
      refine xr_aload_n i_X7_sum_13 rfl (q := 14) rfl ?_
      obtain ⟨c2, h⟩ := xi_if_some h
      obtain ⟨b3, eb3, h⟩ := xi_bind_some h
      refine xr_getR i_X7_sum_14 xfe_X7_9 c2 eb3 (q := 17) rfl ?_
      refine xr_iload_n i_X7_sum_17 rfl (q := 18) rfl ?_
      obtain ⟨c4, h⟩ := xi_if_some h
      refine xr_iaload i_X7_sum_18 c4 (q := 19) rfl ?_
      refine xr_i2l i_X7_sum_19 (q := 20) rfl ?_
      refine xr_ladd i_X7_sum_20 (q := 21) rfl ?_
      refine xr_lstore_n i_X7_sum_21 rfl (L2 := [some (.ref v0), some (.long (v1 + (Int32.toInt64 (m.1 b3 (Int32.toNatClampNeg v3))))), none, some (.int v3)]) rfl (q := 22) rfl ?_
      refine xr_iinc i_X7_sum_22 rfl rfl (L2 := [some (.ref v0), some (.long (v1 + (Int32.toInt64 (m.1 b3 (Int32.toNatClampNeg v3))))), none, some (.int (v3 + Int32.ofInt 1))]) rfl (q := 25) rfl ?_
      refine xr_goto i_X7_sum_25 (q := 4) t_X7_sum_25 ?_
      exact xi_X_le (xi_le_s (xi_le_s (xi_le_n (xi_le_s xi_le_z)))) (ih _ _ _ _ h)
def E_X7_sum (S : xi_S) (v0 : Nat) (m : xi_M) : Option xi_R :=
  G_X7_sum_4 S 10000 v0 (Int64.ofNat ((0 : Fin 2) : Nat)) (Int32.ofInt 0) m
def F_X7_sum (S : xi_S) : xi_F := fun As m => match As with
  | [.ref v0] => E_X7_sum S v0 m
  | _ => none
set_option maxRecDepth 100000 in
set_option maxHeartbeats 4000000 in
theorem xe_X7_sum {S : xi_S} {res : xi_R} (v0 : Nat) (m : xi_M) (h : E_X7_sum S v0 m = some res) : xi_X S (P_X7_sum S) (0, [some (.ref v0), none, none, none], [], m) res := by
  unfold E_X7_sum at h
  refine xr_lconst i_X7_sum_0 (q := 1) rfl ?_
  refine xr_lstore_n i_X7_sum_1 rfl (L2 := [some (.ref v0), some (.long (Int64.ofNat ((0 : Fin 2) : Nat))), none, none]) rfl (q := 2) rfl ?_
  refine xr_iconst i_X7_sum_2 (q := 3) rfl ?_
  refine xr_istore_n i_X7_sum_3 rfl (L2 := [some (.ref v0), some (.long (Int64.ofNat ((0 : Fin 2) : Nat))), none, some (.int (Int32.ofInt 0))]) rfl (q := 4) rfl ?_
  exact xi_X_le (xi_le_s (xi_le_s (xi_le_n (xi_le_s xi_le_z)))) (xs_X7_sum_4 10000 _ _ _ _ h)
set_option maxRecDepth 100000 in
theorem po_X7_sum {l : Launch} {E : xi_E} {S : xi_S} {D : va_G} {tys : List (ClassId × FieldType)} (hC : xCx E S tys) : xi_Pok l E S D vwCl tys xNs RX7 xTs cX7_sum 4 0 (P_X7_sum S) := ⟨xi_dc_ok, by rw [hC.2]; exact xfo_X7, xkio_X7, xklo_X7, xi_calls_ok (ins := .invokestatic) (fun _ h => absurd h List.not_mem_nil), xi_calls_ok (ins := .invokevirtual) (fun _ h => absurd h List.not_mem_nil)⟩
theorem sn_X7_sum {l : Launch} {E : xi_E} {S : xi_S} {D : va_G} {tys : List (ClassId × FieldType)} (hC : xCx E S tys) : ∀ As m1 r m2, F_X7_sum S As m1 = some (r, m2) → xi_Sound l E S D vwCl tys xNs xTs yX7_sum cX7_sum 4 (some .long) 0 As m1 r m2 := by
  intro As m1 r m2 h
  unfold F_X7_sum at h
  split at h
  · exact xi_meth (P := P_X7_sum S) (by decide) hC.1 (po_X7_sum hC) (Nat.le_of_ble_eq_true rfl) rfl (xe_X7_sum _ _ h)
  · exact xi_no h
theorem i_X7_findingOfPairs_0 : xi_dc cX7_findingOfPairs 0 = some (.aload_n 0, 1) := by decide +kernel
theorem i_X7_findingOfPairs_1 : xi_dc cX7_findingOfPairs 1 = some (.getfield 15, 3) := by decide +kernel
theorem i_X7_findingOfPairs_4 : xi_dc cX7_findingOfPairs 4 = some (.ifCond .ne 5, 3) := by decide +kernel
theorem t_X7_findingOfPairs_4 : ((4 : Nat) : Int) + 5 = ((9 : Nat) : Int) := by decide +kernel
theorem i_X7_findingOfPairs_7 : xi_dc cX7_findingOfPairs 7 = some (.iconst 1, 1) := by decide +kernel
theorem i_X7_findingOfPairs_8 : xi_dc cX7_findingOfPairs 8 = some (.ireturn, 1) := by decide +kernel
theorem i_X7_findingOfPairs_9 : xi_dc cX7_findingOfPairs 9 = some (.aload_n 0, 1) := by decide +kernel
theorem i_X7_findingOfPairs_10 : xi_dc cX7_findingOfPairs 10 = some (.getfield 19, 3) := by decide +kernel
theorem i_X7_findingOfPairs_13 : xi_dc cX7_findingOfPairs 13 = some (.bipush 16, 2) := by decide +kernel
theorem i_X7_findingOfPairs_15 : xi_dc cX7_findingOfPairs 15 = some (.if_icmp .gt 12, 3) := by decide +kernel
theorem t_X7_findingOfPairs_15 : ((15 : Nat) : Int) + 12 = ((27 : Nat) : Int) := by decide +kernel
theorem i_X7_findingOfPairs_18 : xi_dc cX7_findingOfPairs 18 = some (.aload_n 0, 1) := by decide +kernel
theorem i_X7_findingOfPairs_19 : xi_dc cX7_findingOfPairs 19 = some (.getfield 19, 3) := by decide +kernel
theorem i_X7_findingOfPairs_22 : xi_dc cX7_findingOfPairs 22 = some (.iconst 2, 1) := by decide +kernel
theorem i_X7_findingOfPairs_23 : xi_dc cX7_findingOfPairs 23 = some (.irem, 1) := by decide +kernel
theorem i_X7_findingOfPairs_24 : xi_dc cX7_findingOfPairs 24 = some (.ifCond .eq 5, 3) := by decide +kernel
theorem t_X7_findingOfPairs_24 : ((24 : Nat) : Int) + 5 = ((29 : Nat) : Int) := by decide +kernel
theorem i_X7_findingOfPairs_27 : xi_dc cX7_findingOfPairs 27 = some (.iconst 5, 1) := by decide +kernel
theorem i_X7_findingOfPairs_28 : xi_dc cX7_findingOfPairs 28 = some (.ireturn, 1) := by decide +kernel
theorem i_X7_findingOfPairs_29 : xi_dc cX7_findingOfPairs 29 = some (.iconst 0, 1) := by decide +kernel
theorem i_X7_findingOfPairs_30 : xi_dc cX7_findingOfPairs 30 = some (.istore_n 3, 1) := by decide +kernel
theorem i_X7_findingOfPairs_31 : xi_dc cX7_findingOfPairs 31 = some (.iload_n 3, 1) := by decide +kernel
theorem i_X7_findingOfPairs_32 : xi_dc cX7_findingOfPairs 32 = some (.iconst 1, 1) := by decide +kernel
theorem i_X7_findingOfPairs_33 : xi_dc cX7_findingOfPairs 33 = some (.iadd, 1) := by decide +kernel
theorem i_X7_findingOfPairs_34 : xi_dc cX7_findingOfPairs 34 = some (.aload_n 0, 1) := by decide +kernel
theorem i_X7_findingOfPairs_35 : xi_dc cX7_findingOfPairs 35 = some (.getfield 19, 3) := by decide +kernel
theorem i_X7_findingOfPairs_38 : xi_dc cX7_findingOfPairs 38 = some (.if_icmp .ge 39, 3) := by decide +kernel
theorem t_X7_findingOfPairs_38 : ((38 : Nat) : Int) + 39 = ((77 : Nat) : Int) := by decide +kernel
theorem i_X7_findingOfPairs_41 : xi_dc cX7_findingOfPairs 41 = some (.aload_n 0, 1) := by decide +kernel
theorem i_X7_findingOfPairs_42 : xi_dc cX7_findingOfPairs 42 = some (.getfield 9, 3) := by decide +kernel
theorem i_X7_findingOfPairs_45 : xi_dc cX7_findingOfPairs 45 = some (.iload_n 3, 1) := by decide +kernel
theorem i_X7_findingOfPairs_46 : xi_dc cX7_findingOfPairs 46 = some (.iaload, 1) := by decide +kernel
theorem i_X7_findingOfPairs_47 : xi_dc cX7_findingOfPairs 47 = some (.iload_n 1, 1) := by decide +kernel
theorem i_X7_findingOfPairs_48 : xi_dc cX7_findingOfPairs 48 = some (.invokestatic 29, 3) := by decide +kernel
theorem i_X7_findingOfPairs_51 : xi_dc cX7_findingOfPairs 51 = some (.ifCond .eq 18, 3) := by decide +kernel
theorem t_X7_findingOfPairs_51 : ((51 : Nat) : Int) + 18 = ((69 : Nat) : Int) := by decide +kernel
theorem i_X7_findingOfPairs_54 : xi_dc cX7_findingOfPairs 54 = some (.aload_n 0, 1) := by decide +kernel
theorem i_X7_findingOfPairs_55 : xi_dc cX7_findingOfPairs 55 = some (.getfield 9, 3) := by decide +kernel
theorem i_X7_findingOfPairs_58 : xi_dc cX7_findingOfPairs 58 = some (.iload_n 3, 1) := by decide +kernel
theorem i_X7_findingOfPairs_59 : xi_dc cX7_findingOfPairs 59 = some (.iconst 1, 1) := by decide +kernel
theorem i_X7_findingOfPairs_60 : xi_dc cX7_findingOfPairs 60 = some (.iadd, 1) := by decide +kernel
theorem i_X7_findingOfPairs_61 : xi_dc cX7_findingOfPairs 61 = some (.iaload, 1) := by decide +kernel
theorem i_X7_findingOfPairs_62 : xi_dc cX7_findingOfPairs 62 = some (.iload_n 2, 1) := by decide +kernel
theorem i_X7_findingOfPairs_63 : xi_dc cX7_findingOfPairs 63 = some (.invokestatic 29, 3) := by decide +kernel
theorem i_X7_findingOfPairs_66 : xi_dc cX7_findingOfPairs 66 = some (.ifCond .ne 5, 3) := by decide +kernel
theorem t_X7_findingOfPairs_66 : ((66 : Nat) : Int) + 5 = ((71 : Nat) : Int) := by decide +kernel
theorem i_X7_findingOfPairs_69 : xi_dc cX7_findingOfPairs 69 = some (.iconst 3, 1) := by decide +kernel
theorem i_X7_findingOfPairs_70 : xi_dc cX7_findingOfPairs 70 = some (.ireturn, 1) := by decide +kernel
theorem i_X7_findingOfPairs_71 : xi_dc cX7_findingOfPairs 71 = some (.iinc 3 2, 3) := by decide +kernel
theorem i_X7_findingOfPairs_74 : xi_dc cX7_findingOfPairs 74 = some (.goto (-43), 3) := by decide +kernel
theorem t_X7_findingOfPairs_74 : ((74 : Nat) : Int) + (-43) = ((31 : Nat) : Int) := by decide +kernel
theorem i_X7_findingOfPairs_77 : xi_dc cX7_findingOfPairs 77 = some (.iconst 0, 1) := by decide +kernel
theorem i_X7_findingOfPairs_78 : xi_dc cX7_findingOfPairs 78 = some (.ireturn, 1) := by decide +kernel
def P_X7_findingOfPairs (S : xi_S) : xi_P := (xi_dc cX7_findingOfPairs, xi_tab xfl_X7, xi_tab xki_X7, xi_tab xkl_X7, xi_tab xcs_X7, xi_tab xcv_X7, xi_calls [(29, xi_wS 2 (F_X8_within S))], xi_calls [], 1)
theorem cc_X7_findingOfPairs_29 (S : xi_S) (a0 : Int32) (a1 : Int32) (m : xi_M) : (P_X7_findingOfPairs S).2.2.2.2.2.2.1 29 [.int a0, .int a1] m = (E_X8_within S a0 a1 m) := by
  show xi_calls [(29, xi_wS 2 (F_X8_within S))] 29 [.int a0, .int a1] m = _
  refine Eq.trans (b := xi_wS 2 (F_X8_within S) [.int a0, .int a1] m) (xi_calls_hit rfl) ?_
  exact xi_wS_eq rfl
def G_X7_findingOfPairs_31 (S : xi_S) : Nat → Nat → Int32 → Int32 → Int32 → xi_M → Option xi_R
  | 0, _, _, _, _, _ => none
  | n + 1, v0, v1, v2, v3, m =>
    if S.1 v0 = 9 then
      if (m.1 v0 1) ≤ (v3 + (Int32.ofInt 1)) then
        some (some (.int (Int32.ofInt 0)), m)
      else
        if S.1 v0 = 9 then (S.2.2 v0 2).bind fun b3 =>
          if S.1 b3 = 0 ∧ ¬ (v3 < 0 ∨ S.2.1 b3 ≤ Int32.toNatClampNeg v3) then
            xi_bI (E_X8_within S (m.1 b3 (Int32.toNatClampNeg v3)) v1 m) fun x6 m5 =>
            if x6 = 0 then
              some (some (.int (Int32.ofInt 3)), m5)
            else
              if S.1 v0 = 9 then (S.2.2 v0 2).bind fun b8 =>
                if S.1 b8 = 0 ∧ ¬ ((v3 + (Int32.ofInt 1)) < 0 ∨ S.2.1 b8 ≤ Int32.toNatClampNeg (v3 + (Int32.ofInt 1))) then
                  xi_bI (E_X8_within S (m5.1 b8 (Int32.toNatClampNeg (v3 + (Int32.ofInt 1)))) v2 m5) fun x11 m10 =>
                  if x11 = 0 then
                    some (some (.int (Int32.ofInt 3)), m10)
                  else
                    G_X7_findingOfPairs_31 S n v0 v1 v2 (v3 + Int32.ofInt 2) m10
                else none
              else none
          else none
        else none
    else none
set_option maxRecDepth 100000 in
set_option maxHeartbeats 4000000 in
theorem xs_X7_findingOfPairs_31 {S : xi_S} {res : xi_R} : ∀ (n : Nat) (v0 : Nat) (v1 : Int32) (v2 : Int32) (v3 : Int32) (m : xi_M), G_X7_findingOfPairs_31 S n v0 v1 v2 v3 m = some res → xi_X S (P_X7_findingOfPairs S) (31, [some (.ref v0), some (.int v1), some (.int v2), some (.int v3)], [], m) res := by
  intro n
  induction n with
  | zero => intro v0 v1 v2 v3 m h; exact xi_no h
  | succ n ih =>
    intro v0 v1 v2 v3 m h
    unfold G_X7_findingOfPairs_31 at h
    refine xr_iload_n i_X7_findingOfPairs_31 rfl (q := 32) rfl ?_
    refine xr_iconst i_X7_findingOfPairs_32 (q := 33) rfl ?_
    refine xr_iadd i_X7_findingOfPairs_33 (q := 34) rfl ?_
    refine xr_aload_n i_X7_findingOfPairs_34 rfl (q := 35) rfl ?_
    obtain ⟨c1, h⟩ := xi_if_some h
    refine xr_getI i_X7_findingOfPairs_35 xfe_X7_19 c1 (q := 38) rfl ?_
    by_cases c14 : (m.1 v0 1) ≤ (v3 + (Int32.ofInt 1))
    · replace h := (if_pos c14).symm.trans h
      refine xr_if_icmp_ge_p i_X7_findingOfPairs_38 c14 (q := 77) t_X7_findingOfPairs_38 (q2 := 41) rfl ?_
      refine xr_iconst i_X7_findingOfPairs_77 (q := 78) rfl ?_
      exact xr_ireturn i_X7_findingOfPairs_78 rfl h
    · replace h := (if_neg c14).symm.trans h
      refine xr_if_icmp_ge_n i_X7_findingOfPairs_38 c14 (q := 77) t_X7_findingOfPairs_38 (q2 := 41) rfl ?_
      refine xr_aload_n i_X7_findingOfPairs_41 rfl (q := 42) rfl ?_
      obtain ⟨c2, h⟩ := xi_if_some h
      obtain ⟨b3, eb3, h⟩ := xi_bind_some h
      refine xr_getR i_X7_findingOfPairs_42 xfe_X7_9 c2 eb3 (q := 45) rfl ?_
      refine xr_iload_n i_X7_findingOfPairs_45 rfl (q := 46) rfl ?_
      obtain ⟨c4, h⟩ := xi_if_some h
      refine xr_iaload i_X7_findingOfPairs_46 c4 (q := 47) rfl ?_
      refine xr_iload_n i_X7_findingOfPairs_47 rfl (q := 48) rfl ?_
      obtain ⟨x6, m5, em5, h⟩ := xi_bI_some h
      refine xr_SI i_X7_findingOfPairs_48 xcse_X7_29 rfl (As := [.int (m.1 b3 (Int32.toNatClampNeg v3)), .int v1]) rfl (rest := []) rfl ((cc_X7_findingOfPairs_29 S _ _ _).trans em5) (q := 51) rfl ?_
      by_cases c13 : x6 = 0
      · replace h := (if_pos c13).symm.trans h
        refine xr_ifCond_eq_p i_X7_findingOfPairs_51 c13 (q := 69) t_X7_findingOfPairs_51 (q2 := 54) rfl ?_
        refine xr_iconst i_X7_findingOfPairs_69 (q := 70) rfl ?_
        exact xr_ireturn i_X7_findingOfPairs_70 rfl h
      · replace h := (if_neg c13).symm.trans h
        refine xr_ifCond_eq_n i_X7_findingOfPairs_51 c13 (q := 69) t_X7_findingOfPairs_51 (q2 := 54) rfl ?_
        refine xr_aload_n i_X7_findingOfPairs_54 rfl (q := 55) rfl ?_
        obtain ⟨c7, h⟩ := xi_if_some h
        obtain ⟨b8, eb8, h⟩ := xi_bind_some h
        refine xr_getR i_X7_findingOfPairs_55 xfe_X7_9 c7 eb8 (q := 58) rfl ?_
        refine xr_iload_n i_X7_findingOfPairs_58 rfl (q := 59) rfl ?_
        refine xr_iconst i_X7_findingOfPairs_59 (q := 60) rfl ?_
        refine xr_iadd i_X7_findingOfPairs_60 (q := 61) rfl ?_
        obtain ⟨c9, h⟩ := xi_if_some h
        refine xr_iaload i_X7_findingOfPairs_61 c9 (q := 62) rfl ?_
        refine xr_iload_n i_X7_findingOfPairs_62 rfl (q := 63) rfl ?_
        obtain ⟨x11, m10, em10, h⟩ := xi_bI_some h
        refine xr_SI i_X7_findingOfPairs_63 xcse_X7_29 rfl (As := [.int (m5.1 b8 (Int32.toNatClampNeg (v3 + (Int32.ofInt 1)))), .int v2]) rfl (rest := []) rfl ((cc_X7_findingOfPairs_29 S _ _ _).trans em10) (q := 66) rfl ?_
        by_cases c12 : x11 = 0
        · replace h := (if_pos c12).symm.trans h
          refine xr_ifCond_ne_p i_X7_findingOfPairs_66 c12 (q := 71) t_X7_findingOfPairs_66 (q2 := 69) rfl ?_
          refine xr_iconst i_X7_findingOfPairs_69 (q := 70) rfl ?_
          exact xr_ireturn i_X7_findingOfPairs_70 rfl h
        · replace h := (if_neg c12).symm.trans h
          refine xr_ifCond_ne_n i_X7_findingOfPairs_66 c12 (q := 71) t_X7_findingOfPairs_66 (q2 := 69) rfl ?_
          refine xr_iinc i_X7_findingOfPairs_71 rfl rfl (L2 := [some (.ref v0), some (.int v1), some (.int v2), some (.int (v3 + Int32.ofInt 2))]) rfl (q := 74) rfl ?_
          refine xr_goto i_X7_findingOfPairs_74 (q := 31) t_X7_findingOfPairs_74 ?_
          exact xi_X_le (xi_le_s (xi_le_s (xi_le_s (xi_le_s xi_le_z)))) (ih _ _ _ _ _ h)
def E_X7_findingOfPairs (S : xi_S) (v0 : Nat) (v1 : Int32) (v2 : Int32) (m : xi_M) : Option xi_R :=
  if S.1 v0 = 9 then
    if (m.1 v0 0) = 0 then
      some (some (.int (Int32.ofInt 1)), m)
    else
      if S.1 v0 = 9 then
        if ((Int8.ofInt 16).toInt32) < (m.1 v0 1) then
          some (some (.int (Int32.ofInt 5)), m)
        else
          if S.1 v0 = 9 then
            if (Int32.ofInt 2) = 0 then none else
            if ((m.1 v0 1) - (m.1 v0 1) / (Int32.ofInt 2) * (Int32.ofInt 2)) = 0 then
              G_X7_findingOfPairs_31 S 10000 v0 v1 v2 (Int32.ofInt 0) m
            else
              some (some (.int (Int32.ofInt 5)), m)
          else none
      else none
  else none
def F_X7_findingOfPairs (S : xi_S) : xi_F := fun As m => match As with
  | [.ref v0, .int v1, .int v2] => E_X7_findingOfPairs S v0 v1 v2 m
  | _ => none
set_option maxRecDepth 100000 in
set_option maxHeartbeats 4000000 in
theorem xe_X7_findingOfPairs {S : xi_S} {res : xi_R} (v0 : Nat) (v1 : Int32) (v2 : Int32) (m : xi_M) (h : E_X7_findingOfPairs S v0 v1 v2 m = some res) : xi_X S (P_X7_findingOfPairs S) (0, [some (.ref v0), some (.int v1), some (.int v2), none], [], m) res := by
  unfold E_X7_findingOfPairs at h
  refine xr_aload_n i_X7_findingOfPairs_0 rfl (q := 1) rfl ?_
  obtain ⟨c1, h⟩ := xi_if_some h
  refine xr_getZ i_X7_findingOfPairs_1 xfe_X7_15 c1 (q := 4) rfl ?_
  by_cases c7 : (m.1 v0 0) = 0
  · replace h := (if_pos c7).symm.trans h
    refine xr_ifCond_ne_p i_X7_findingOfPairs_4 c7 (q := 9) t_X7_findingOfPairs_4 (q2 := 7) rfl ?_
    refine xr_iconst i_X7_findingOfPairs_7 (q := 8) rfl ?_
    exact xr_ireturn i_X7_findingOfPairs_8 rfl h
  · replace h := (if_neg c7).symm.trans h
    refine xr_ifCond_ne_n i_X7_findingOfPairs_4 c7 (q := 9) t_X7_findingOfPairs_4 (q2 := 7) rfl ?_
    refine xr_aload_n i_X7_findingOfPairs_9 rfl (q := 10) rfl ?_
    obtain ⟨c2, h⟩ := xi_if_some h
    refine xr_getI i_X7_findingOfPairs_10 xfe_X7_19 c2 (q := 13) rfl ?_
    refine xr_bipush i_X7_findingOfPairs_13 (q := 15) rfl ?_
    by_cases c6 : ((Int8.ofInt 16).toInt32) < (m.1 v0 1)
    · replace h := (if_pos c6).symm.trans h
      refine xr_if_icmp_gt_p i_X7_findingOfPairs_15 c6 (q := 27) t_X7_findingOfPairs_15 (q2 := 18) rfl ?_
      refine xr_iconst i_X7_findingOfPairs_27 (q := 28) rfl ?_
      exact xr_ireturn i_X7_findingOfPairs_28 rfl h
    · replace h := (if_neg c6).symm.trans h
      refine xr_if_icmp_gt_n i_X7_findingOfPairs_15 c6 (q := 27) t_X7_findingOfPairs_15 (q2 := 18) rfl ?_
      refine xr_aload_n i_X7_findingOfPairs_18 rfl (q := 19) rfl ?_
      obtain ⟨c3, h⟩ := xi_if_some h
      refine xr_getI i_X7_findingOfPairs_19 xfe_X7_19 c3 (q := 22) rfl ?_
      refine xr_iconst i_X7_findingOfPairs_22 (q := 23) rfl ?_
      obtain ⟨c4, h⟩ := xi_ifn_some h
      refine xr_irem i_X7_findingOfPairs_23 c4 (q := 24) rfl ?_
      by_cases c5 : ((m.1 v0 1) - (m.1 v0 1) / (Int32.ofInt 2) * (Int32.ofInt 2)) = 0
      · replace h := (if_pos c5).symm.trans h
        refine xr_ifCond_eq_p i_X7_findingOfPairs_24 c5 (q := 29) t_X7_findingOfPairs_24 (q2 := 27) rfl ?_
        refine xr_iconst i_X7_findingOfPairs_29 (q := 30) rfl ?_
        refine xr_istore_n i_X7_findingOfPairs_30 rfl (L2 := [some (.ref v0), some (.int v1), some (.int v2), some (.int (Int32.ofInt 0))]) rfl (q := 31) rfl ?_
        exact xi_X_le (xi_le_s (xi_le_s (xi_le_s (xi_le_s xi_le_z)))) (xs_X7_findingOfPairs_31 10000 _ _ _ _ _ h)
      · replace h := (if_neg c5).symm.trans h
        refine xr_ifCond_eq_n i_X7_findingOfPairs_24 c5 (q := 29) t_X7_findingOfPairs_24 (q2 := 27) rfl ?_
        refine xr_iconst i_X7_findingOfPairs_27 (q := 28) rfl ?_
        exact xr_ireturn i_X7_findingOfPairs_28 rfl h
set_option maxRecDepth 100000 in
theorem po_X7_findingOfPairs {l : Launch} {E : xi_E} {S : xi_S} {D : va_G} {tys : List (ClassId × FieldType)} (hC : xCx E S tys) : xi_Pok l E S D vwCl tys xNs RX7 xTs cX7_findingOfPairs 4 1 (P_X7_findingOfPairs S) := ⟨xi_dc_ok, by rw [hC.2]; exact xfo_X7, xkio_X7, xklo_X7, xi_calls_ok (ins := .invokestatic) (List.forall_mem_cons.mpr ⟨(xc_X7_29 (sn_X8_within hC) (by decide)), fun _ h => absurd h List.not_mem_nil⟩), xi_calls_ok (ins := .invokevirtual) (fun _ h => absurd h List.not_mem_nil)⟩
theorem sn_X7_findingOfPairs {l : Launch} {E : xi_E} {S : xi_S} {D : va_G} {tys : List (ClassId × FieldType)} (hC : xCx E S tys) : ∀ As m1 r m2, F_X7_findingOfPairs S As m1 = some (r, m2) → xi_Sound l E S D vwCl tys xNs xTs yX7_findingOfPairs cX7_findingOfPairs 4 (some .int) 1 As m1 r m2 := by
  intro As m1 r m2 h
  unfold F_X7_findingOfPairs at h
  split at h
  · exact xi_meth (P := P_X7_findingOfPairs S) (by decide) hC.1 (po_X7_findingOfPairs hC) (Nat.le_of_ble_eq_true rfl) rfl (xe_X7_findingOfPairs _ _ _ _ h)
  · exact xi_no h
theorem i_X7_digestOnto_0 : xi_dc cX7_digestOnto 0 = some (.aload_n 0, 1) := by decide +kernel
theorem i_X7_digestOnto_1 : xi_dc cX7_digestOnto 1 = some (.getfield 15, 3) := by decide +kernel
theorem i_X7_digestOnto_4 : xi_dc cX7_digestOnto 4 = some (.ifCond .ne 11, 3) := by decide +kernel
theorem t_X7_digestOnto_4 : ((4 : Nat) : Int) + 11 = ((15 : Nat) : Int) := by decide +kernel
theorem i_X7_digestOnto_7 : xi_dc cX7_digestOnto 7 = some (.ldc2_w 33, 3) := by decide +kernel
theorem i_X7_digestOnto_10 : xi_dc cX7_digestOnto 10 = some (.lload_n 1, 1) := by decide +kernel
theorem i_X7_digestOnto_11 : xi_dc cX7_digestOnto 11 = some (.lmul, 1) := by decide +kernel
theorem i_X7_digestOnto_12 : xi_dc cX7_digestOnto 12 = some (.lconst 1, 1) := by decide +kernel
theorem i_X7_digestOnto_13 : xi_dc cX7_digestOnto 13 = some (.lsub, 1) := by decide +kernel
theorem i_X7_digestOnto_14 : xi_dc cX7_digestOnto 14 = some (.lreturn, 1) := by decide +kernel
theorem i_X7_digestOnto_15 : xi_dc cX7_digestOnto 15 = some (.ldc2_w 33, 3) := by decide +kernel
theorem i_X7_digestOnto_18 : xi_dc cX7_digestOnto 18 = some (.lload_n 1, 1) := by decide +kernel
theorem i_X7_digestOnto_19 : xi_dc cX7_digestOnto 19 = some (.lmul, 1) := by decide +kernel
theorem i_X7_digestOnto_20 : xi_dc cX7_digestOnto 20 = some (.aload_n 0, 1) := by decide +kernel
theorem i_X7_digestOnto_21 : xi_dc cX7_digestOnto 21 = some (.getfield 19, 3) := by decide +kernel
theorem i_X7_digestOnto_24 : xi_dc cX7_digestOnto 24 = some (.i2l, 1) := by decide +kernel
theorem i_X7_digestOnto_25 : xi_dc cX7_digestOnto 25 = some (.ladd, 1) := by decide +kernel
theorem i_X7_digestOnto_26 : xi_dc cX7_digestOnto 26 = some (.lstore_n 3, 1) := by decide +kernel
theorem i_X7_digestOnto_27 : xi_dc cX7_digestOnto 27 = some (.iconst 0, 1) := by decide +kernel
theorem i_X7_digestOnto_28 : xi_dc cX7_digestOnto 28 = some (.istore 5, 2) := by decide +kernel
theorem i_X7_digestOnto_30 : xi_dc cX7_digestOnto 30 = some (.iload 5, 2) := by decide +kernel
theorem i_X7_digestOnto_32 : xi_dc cX7_digestOnto 32 = some (.aload_n 0, 1) := by decide +kernel
theorem i_X7_digestOnto_33 : xi_dc cX7_digestOnto 33 = some (.getfield 19, 3) := by decide +kernel
theorem i_X7_digestOnto_36 : xi_dc cX7_digestOnto 36 = some (.if_icmp .ge 24, 3) := by decide +kernel
theorem t_X7_digestOnto_36 : ((36 : Nat) : Int) + 24 = ((60 : Nat) : Int) := by decide +kernel
theorem i_X7_digestOnto_39 : xi_dc cX7_digestOnto 39 = some (.ldc2_w 33, 3) := by decide +kernel
theorem i_X7_digestOnto_42 : xi_dc cX7_digestOnto 42 = some (.lload_n 3, 1) := by decide +kernel
theorem i_X7_digestOnto_43 : xi_dc cX7_digestOnto 43 = some (.lmul, 1) := by decide +kernel
theorem i_X7_digestOnto_44 : xi_dc cX7_digestOnto 44 = some (.aload_n 0, 1) := by decide +kernel
theorem i_X7_digestOnto_45 : xi_dc cX7_digestOnto 45 = some (.getfield 9, 3) := by decide +kernel
theorem i_X7_digestOnto_48 : xi_dc cX7_digestOnto 48 = some (.iload 5, 2) := by decide +kernel
theorem i_X7_digestOnto_50 : xi_dc cX7_digestOnto 50 = some (.iaload, 1) := by decide +kernel
theorem i_X7_digestOnto_51 : xi_dc cX7_digestOnto 51 = some (.i2l, 1) := by decide +kernel
theorem i_X7_digestOnto_52 : xi_dc cX7_digestOnto 52 = some (.ladd, 1) := by decide +kernel
theorem i_X7_digestOnto_53 : xi_dc cX7_digestOnto 53 = some (.lstore_n 3, 1) := by decide +kernel
theorem i_X7_digestOnto_54 : xi_dc cX7_digestOnto 54 = some (.iinc 5 1, 3) := by decide +kernel
theorem i_X7_digestOnto_57 : xi_dc cX7_digestOnto 57 = some (.goto (-27), 3) := by decide +kernel
theorem t_X7_digestOnto_57 : ((57 : Nat) : Int) + (-27) = ((30 : Nat) : Int) := by decide +kernel
theorem i_X7_digestOnto_60 : xi_dc cX7_digestOnto 60 = some (.lload_n 3, 1) := by decide +kernel
theorem i_X7_digestOnto_61 : xi_dc cX7_digestOnto 61 = some (.lreturn, 1) := by decide +kernel
def P_X7_digestOnto (S : xi_S) : xi_P := (xi_dc cX7_digestOnto, xi_tab xfl_X7, xi_tab xki_X7, xi_tab xkl_X7, xi_tab xcs_X7, xi_tab xcv_X7, xi_calls [], xi_calls [], 3)
def G_X7_digestOnto_30 (S : xi_S) : Nat → Nat → Int64 → Int32 → xi_M → Option xi_R
  | 0, _, _, _, _ => none
  | n + 1, v0, v3, v5, m =>
    if S.1 v0 = 9 then
      if (m.1 v0 1) ≤ v5 then
        some (some (.long v3), m)
      else
        if S.1 v0 = 9 then (S.2.2 v0 2).bind fun b3 =>
          if S.1 b3 = 0 ∧ ¬ (v5 < 0 ∨ S.2.1 b3 ≤ Int32.toNatClampNeg v5) then
            G_X7_digestOnto_30 S n v0 (((31 : Int64) * v3) + (Int32.toInt64 (m.1 b3 (Int32.toNatClampNeg v5)))) (v5 + Int32.ofInt 1) m
          else none
        else none
    else none
set_option maxRecDepth 100000 in
set_option maxHeartbeats 4000000 in
theorem xs_X7_digestOnto_30 {S : xi_S} {res : xi_R} : ∀ (n : Nat) (v0 : Nat) (v3 : Int64) (v5 : Int32) (m : xi_M), G_X7_digestOnto_30 S n v0 v3 v5 m = some res → xi_X S (P_X7_digestOnto S) (30, [some (.ref v0), none, none, some (.long v3), none, some (.int v5)], [], m) res := by
  intro n
  induction n with
  | zero => intro v0 v3 v5 m h; exact xi_no h
  | succ n ih =>
    intro v0 v3 v5 m h
    unfold G_X7_digestOnto_30 at h
    refine xr_iload i_X7_digestOnto_30 rfl (q := 32) rfl ?_
    refine xr_aload_n i_X7_digestOnto_32 rfl (q := 33) rfl ?_
    obtain ⟨c1, h⟩ := xi_if_some h
    refine xr_getI i_X7_digestOnto_33 xfe_X7_19 c1 (q := 36) rfl ?_
    by_cases c5 : (m.1 v0 1) ≤ v5
    · replace h := (if_pos c5).symm.trans h
      refine xr_if_icmp_ge_p i_X7_digestOnto_36 c5 (q := 60) t_X7_digestOnto_36 (q2 := 39) rfl ?_
      refine xr_lload_n i_X7_digestOnto_60 rfl (q := 61) rfl ?_
      exact xr_lreturn i_X7_digestOnto_61 rfl h
    · replace h := (if_neg c5).symm.trans h
      refine xr_if_icmp_ge_n i_X7_digestOnto_36 c5 (q := 60) t_X7_digestOnto_36 (q2 := 39) rfl ?_
      refine xr_ldc2_w i_X7_digestOnto_39 xkle_X7_33 (q := 42) rfl ?_
      refine xr_lload_n i_X7_digestOnto_42 rfl (q := 43) rfl ?_
      refine xr_lmul i_X7_digestOnto_43 (q := 44) rfl ?_
      refine xr_aload_n i_X7_digestOnto_44 rfl (q := 45) rfl ?_
      obtain ⟨c2, h⟩ := xi_if_some h
      obtain ⟨b3, eb3, h⟩ := xi_bind_some h
      refine xr_getR i_X7_digestOnto_45 xfe_X7_9 c2 eb3 (q := 48) rfl ?_
      refine xr_iload i_X7_digestOnto_48 rfl (q := 50) rfl ?_
      obtain ⟨c4, h⟩ := xi_if_some h
      refine xr_iaload i_X7_digestOnto_50 c4 (q := 51) rfl ?_
      refine xr_i2l i_X7_digestOnto_51 (q := 52) rfl ?_
      refine xr_ladd i_X7_digestOnto_52 (q := 53) rfl ?_
      refine xr_lstore_n i_X7_digestOnto_53 rfl (L2 := [some (.ref v0), none, none, some (.long (((31 : Int64) * v3) + (Int32.toInt64 (m.1 b3 (Int32.toNatClampNeg v5))))), none, some (.int v5)]) rfl (q := 54) rfl ?_
      refine xr_iinc i_X7_digestOnto_54 rfl rfl (L2 := [some (.ref v0), none, none, some (.long (((31 : Int64) * v3) + (Int32.toInt64 (m.1 b3 (Int32.toNatClampNeg v5))))), none, some (.int (v5 + Int32.ofInt 1))]) rfl (q := 57) rfl ?_
      refine xr_goto i_X7_digestOnto_57 (q := 30) t_X7_digestOnto_57 ?_
      exact xi_X_le (xi_le_s (xi_le_n (xi_le_n (xi_le_s (xi_le_n (xi_le_s xi_le_z)))))) (ih _ _ _ _ h)
def E_X7_digestOnto (S : xi_S) (v0 : Nat) (v1 : Int64) (m : xi_M) : Option xi_R :=
  if S.1 v0 = 9 then
    if (m.1 v0 0) = 0 then
      some (some (.long (((31 : Int64) * v1) - (Int64.ofNat ((1 : Fin 2) : Nat)))), m)
    else
      if S.1 v0 = 9 then
        G_X7_digestOnto_30 S 10000 v0 (((31 : Int64) * v1) + (Int32.toInt64 (m.1 v0 1))) (Int32.ofInt 0) m
      else none
  else none
def F_X7_digestOnto (S : xi_S) : xi_F := fun As m => match As with
  | [.ref v0, .long v1] => E_X7_digestOnto S v0 v1 m
  | _ => none
set_option maxRecDepth 100000 in
set_option maxHeartbeats 4000000 in
theorem xe_X7_digestOnto {S : xi_S} {res : xi_R} (v0 : Nat) (v1 : Int64) (m : xi_M) (h : E_X7_digestOnto S v0 v1 m = some res) : xi_X S (P_X7_digestOnto S) (0, [some (.ref v0), some (.long v1), none, none, none, none], [], m) res := by
  unfold E_X7_digestOnto at h
  refine xr_aload_n i_X7_digestOnto_0 rfl (q := 1) rfl ?_
  obtain ⟨c1, h⟩ := xi_if_some h
  refine xr_getZ i_X7_digestOnto_1 xfe_X7_15 c1 (q := 4) rfl ?_
  by_cases c3 : (m.1 v0 0) = 0
  · replace h := (if_pos c3).symm.trans h
    refine xr_ifCond_ne_p i_X7_digestOnto_4 c3 (q := 15) t_X7_digestOnto_4 (q2 := 7) rfl ?_
    refine xr_ldc2_w i_X7_digestOnto_7 xkle_X7_33 (q := 10) rfl ?_
    refine xr_lload_n i_X7_digestOnto_10 rfl (q := 11) rfl ?_
    refine xr_lmul i_X7_digestOnto_11 (q := 12) rfl ?_
    refine xr_lconst i_X7_digestOnto_12 (q := 13) rfl ?_
    refine xr_lsub i_X7_digestOnto_13 (q := 14) rfl ?_
    exact xr_lreturn i_X7_digestOnto_14 rfl h
  · replace h := (if_neg c3).symm.trans h
    refine xr_ifCond_ne_n i_X7_digestOnto_4 c3 (q := 15) t_X7_digestOnto_4 (q2 := 7) rfl ?_
    refine xr_ldc2_w i_X7_digestOnto_15 xkle_X7_33 (q := 18) rfl ?_
    refine xr_lload_n i_X7_digestOnto_18 rfl (q := 19) rfl ?_
    refine xr_lmul i_X7_digestOnto_19 (q := 20) rfl ?_
    refine xr_aload_n i_X7_digestOnto_20 rfl (q := 21) rfl ?_
    obtain ⟨c2, h⟩ := xi_if_some h
    refine xr_getI i_X7_digestOnto_21 xfe_X7_19 c2 (q := 24) rfl ?_
    refine xr_i2l i_X7_digestOnto_24 (q := 25) rfl ?_
    refine xr_ladd i_X7_digestOnto_25 (q := 26) rfl ?_
    refine xr_lstore_n i_X7_digestOnto_26 rfl (L2 := [some (.ref v0), some (.long v1), none, some (.long (((31 : Int64) * v1) + (Int32.toInt64 (m.1 v0 1)))), none, none]) rfl (q := 27) rfl ?_
    refine xr_iconst i_X7_digestOnto_27 (q := 28) rfl ?_
    refine xr_istore i_X7_digestOnto_28 rfl (L2 := [some (.ref v0), some (.long v1), none, some (.long (((31 : Int64) * v1) + (Int32.toInt64 (m.1 v0 1)))), none, some (.int (Int32.ofInt 0))]) rfl (q := 30) rfl ?_
    exact xi_X_le (xi_le_s (xi_le_n (xi_le_n (xi_le_s (xi_le_n (xi_le_s xi_le_z)))))) (xs_X7_digestOnto_30 10000 _ _ _ _ h)
set_option maxRecDepth 100000 in
theorem po_X7_digestOnto {l : Launch} {E : xi_E} {S : xi_S} {D : va_G} {tys : List (ClassId × FieldType)} (hC : xCx E S tys) : xi_Pok l E S D vwCl tys xNs RX7 xTs cX7_digestOnto 6 0 (P_X7_digestOnto S) := ⟨xi_dc_ok, by rw [hC.2]; exact xfo_X7, xkio_X7, xklo_X7, xi_calls_ok (ins := .invokestatic) (fun _ h => absurd h List.not_mem_nil), xi_calls_ok (ins := .invokevirtual) (fun _ h => absurd h List.not_mem_nil)⟩
theorem sn_X7_digestOnto {l : Launch} {E : xi_E} {S : xi_S} {D : va_G} {tys : List (ClassId × FieldType)} (hC : xCx E S tys) : ∀ As m1 r m2, F_X7_digestOnto S As m1 = some (r, m2) → xi_Sound l E S D vwCl tys xNs xTs yX7_digestOnto cX7_digestOnto 6 (some .long) 0 As m1 r m2 := by
  intro As m1 r m2 h
  unfold F_X7_digestOnto at h
  split at h
  · exact xi_meth (P := P_X7_digestOnto S) (by decide) hC.1 (po_X7_digestOnto hC) (Nat.le_of_ble_eq_true rfl) rfl (xe_X7_digestOnto _ _ _ h)
  · exact xi_no h
theorem i_X8_refuse_0 : xi_dc cX8_refuse 0 = some (.aload_n 0, 1) := by decide +kernel
theorem i_X8_refuse_1 : xi_dc cX8_refuse 1 = some (.iload_n 1, 1) := by decide +kernel
theorem i_X8_refuse_2 : xi_dc cX8_refuse 2 = some (.putfield 314, 3) := by decide +kernel
theorem i_X8_refuse_5 : xi_dc cX8_refuse 5 = some (.aload_n 0, 1) := by decide +kernel
theorem i_X8_refuse_6 : xi_dc cX8_refuse 6 = some (.getfield 60, 3) := by decide +kernel
theorem i_X8_refuse_9 : xi_dc cX8_refuse 9 = some (.iload_n 1, 1) := by decide +kernel
theorem i_X8_refuse_10 : xi_dc cX8_refuse 10 = some (.dup2, 1) := by decide +kernel
theorem i_X8_refuse_11 : xi_dc cX8_refuse 11 = some (.iaload, 1) := by decide +kernel
theorem i_X8_refuse_12 : xi_dc cX8_refuse 12 = some (.iconst 1, 1) := by decide +kernel
theorem i_X8_refuse_13 : xi_dc cX8_refuse 13 = some (.iadd, 1) := by decide +kernel
theorem i_X8_refuse_14 : xi_dc cX8_refuse 14 = some (.iastore, 1) := by decide +kernel
theorem i_X8_refuse_15 : xi_dc cX8_refuse 15 = some (.bipush (-3), 2) := by decide +kernel
theorem i_X8_refuse_17 : xi_dc cX8_refuse 17 = some (.ireturn, 1) := by decide +kernel
def P_X8_refuse (S : xi_S) : xi_P := (xi_dc cX8_refuse, xi_tab xfl_X8, xi_tab xki_X8, xi_tab xkl_X8, xi_tab xcs_X8, xi_tab xcv_X8, xi_calls [], xi_calls [], 1)
def E_X8_refuse (S : xi_S) (v0 : Nat) (v1 : Int32) (m : xi_M) : Option xi_R :=
  if S.1 v0 = 10 then
    if S.1 v0 = 10 then (S.2.2 v0 9).bind fun b3 =>
      if S.1 b3 = 0 ∧ ¬ (v1 < 0 ∨ S.2.1 b3 ≤ Int32.toNatClampNeg v1) then
        if S.1 b3 = 0 ∧ ¬ (v1 < 0 ∨ S.2.1 b3 ≤ Int32.toNatClampNeg v1) then
          some (some (.int ((Int8.ofInt (-3)).toInt32)), (xi_wI (xi_wI m v0 10 v1) b3 (Int32.toNatClampNeg v1) (((xi_wI m v0 10 v1).1 b3 (Int32.toNatClampNeg v1)) + (Int32.ofInt 1))))
        else none
      else none
    else none
  else none
def F_X8_refuse (S : xi_S) : xi_F := fun As m => match As with
  | [.ref v0, .int v1] => E_X8_refuse S v0 v1 m
  | _ => none
set_option maxRecDepth 100000 in
set_option maxHeartbeats 4000000 in
theorem xe_X8_refuse {S : xi_S} {res : xi_R} (v0 : Nat) (v1 : Int32) (m : xi_M) (h : E_X8_refuse S v0 v1 m = some res) : xi_X S (P_X8_refuse S) (0, [some (.ref v0), some (.int v1)], [], m) res := by
  unfold E_X8_refuse at h
  refine xr_aload_n i_X8_refuse_0 rfl (q := 1) rfl ?_
  refine xr_iload_n i_X8_refuse_1 rfl (q := 2) rfl ?_
  obtain ⟨c1, h⟩ := xi_if_some h
  refine xr_putI i_X8_refuse_2 xfe_X8_314 c1 (q := 5) rfl ?_
  refine xr_aload_n i_X8_refuse_5 rfl (q := 6) rfl ?_
  obtain ⟨c2, h⟩ := xi_if_some h
  obtain ⟨b3, eb3, h⟩ := xi_bind_some h
  refine xr_getR i_X8_refuse_6 xfe_X8_60 c2 eb3 (q := 9) rfl ?_
  refine xr_iload_n i_X8_refuse_9 rfl (q := 10) rfl ?_
  refine xr_dup2 i_X8_refuse_10 (q := 11) rfl ?_
  obtain ⟨c4, h⟩ := xi_if_some h
  refine xr_iaload i_X8_refuse_11 c4 (q := 12) rfl ?_
  refine xr_iconst i_X8_refuse_12 (q := 13) rfl ?_
  refine xr_iadd i_X8_refuse_13 (q := 14) rfl ?_
  obtain ⟨c5, h⟩ := xi_if_some h
  refine xr_iastore i_X8_refuse_14 c5 (q := 15) rfl ?_
  refine xr_bipush i_X8_refuse_15 (q := 17) rfl ?_
  exact xr_ireturn i_X8_refuse_17 rfl h
set_option maxRecDepth 100000 in
theorem po_X8_refuse {l : Launch} {E : xi_E} {S : xi_S} {D : va_G} {tys : List (ClassId × FieldType)} (hC : xCx E S tys) : xi_Pok l E S D vwCl tys xNs RX8 xTs cX8_refuse 2 0 (P_X8_refuse S) := ⟨xi_dc_ok, by rw [hC.2]; exact xfo_X8, xkio_X8, xklo_X8, xi_calls_ok (ins := .invokestatic) (fun _ h => absurd h List.not_mem_nil), xi_calls_ok (ins := .invokevirtual) (fun _ h => absurd h List.not_mem_nil)⟩
theorem sn_X8_refuse {l : Launch} {E : xi_E} {S : xi_S} {D : va_G} {tys : List (ClassId × FieldType)} (hC : xCx E S tys) : ∀ As m1 r m2, F_X8_refuse S As m1 = some (r, m2) → xi_Sound l E S D vwCl tys xNs xTs yX8_refuse cX8_refuse 2 (some .int) 0 As m1 r m2 := by
  intro As m1 r m2 h
  unfold F_X8_refuse at h
  split at h
  · exact xi_meth (P := P_X8_refuse S) (by decide) hC.1 (po_X8_refuse hC) (Nat.le_of_ble_eq_true rfl) rfl (xe_X8_refuse _ _ _ h)
  · exact xi_no h
theorem i_X8_begun_0 : xi_dc cX8_begun 0 = some (.iload_n 2, 1) := by decide +kernel
theorem i_X8_begun_1 : xi_dc cX8_begun 1 = some (.ifCond .ge 9, 3) := by decide +kernel
theorem t_X8_begun_1 : ((1 : Nat) : Int) + 9 = ((10 : Nat) : Int) := by decide +kernel
theorem i_X8_begun_4 : xi_dc cX8_begun 4 = some (.aload_n 0, 1) := by decide +kernel
theorem i_X8_begun_5 : xi_dc cX8_begun 5 = some (.iconst 5, 1) := by decide +kernel
theorem i_X8_begun_6 : xi_dc cX8_begun 6 = some (.invokevirtual 83, 3) := by decide +kernel
theorem i_X8_begun_9 : xi_dc cX8_begun 9 = some (.ireturn, 1) := by decide +kernel
theorem i_X8_begun_10 : xi_dc cX8_begun 10 = some (.aload_n 1, 1) := by decide +kernel
theorem i_X8_begun_11 : xi_dc cX8_begun 11 = some (.iload_n 2, 1) := by decide +kernel
theorem i_X8_begun_12 : xi_dc cX8_begun 12 = some (.iload_n 3, 1) := by decide +kernel
theorem i_X8_begun_13 : xi_dc cX8_begun 13 = some (.invokevirtual 235, 3) := by decide +kernel
theorem i_X8_begun_16 : xi_dc cX8_begun 16 = some (.iload_n 2, 1) := by decide +kernel
theorem i_X8_begun_17 : xi_dc cX8_begun 17 = some (.ireturn, 1) := by decide +kernel
def P_X8_begun (S : xi_S) : xi_P := (xi_dc cX8_begun, xi_tab xfl_X8, xi_tab xki_X8, xi_tab xkl_X8, xi_tab xcs_X8, xi_tab xcv_X8, xi_calls [], xi_calls [(83, xi_wV S 10 1 (F_X8_refuse S)), (235, xi_wV S 9 2 (F_X7_begin S))], 1)
theorem cc_X8_begun_83 (S : xi_S) (a0 : Nat) (a1 : Int32) (m : xi_M) : (P_X8_begun S).2.2.2.2.2.2.2.1 83 [.ref a0, .int a1] m = (if S.1 a0 = 10 then E_X8_refuse S a0 a1 m else none) := by
  show xi_calls [(83, xi_wV S 10 1 (F_X8_refuse S)), (235, xi_wV S 9 2 (F_X7_begin S))] 83 [.ref a0, .int a1] m = _
  refine Eq.trans (b := xi_wV S 10 1 (F_X8_refuse S) [.ref a0, .int a1] m) (xi_calls_hit rfl) ?_
  exact xi_wV_eq rfl
theorem cc_X8_begun_235 (S : xi_S) (a0 : Nat) (a1 : Int32) (a2 : Int32) (m : xi_M) : (P_X8_begun S).2.2.2.2.2.2.2.1 235 [.ref a0, .int a1, .int a2] m = (if S.1 a0 = 9 then E_X7_begin S a0 a1 a2 m else none) := by
  show xi_calls [(83, xi_wV S 10 1 (F_X8_refuse S)), (235, xi_wV S 9 2 (F_X7_begin S))] 235 [.ref a0, .int a1, .int a2] m = _
  refine Eq.trans (b := xi_calls [(235, xi_wV S 9 2 (F_X7_begin S))] 235 [.ref a0, .int a1, .int a2] m) (xi_calls_miss rfl) ?_
  refine Eq.trans (b := xi_wV S 9 2 (F_X7_begin S) [.ref a0, .int a1, .int a2] m) (xi_calls_hit rfl) ?_
  exact xi_wV_eq rfl
def E_X8_begun (S : xi_S) (v0 : Nat) (v1 : Nat) (v2 : Int32) (v3 : Int32) (m : xi_M) : Option xi_R :=
  if 0 ≤ v2 then
    xi_bV (if S.1 v1 = 9 then E_X7_begin S v1 v2 v3 m else none) fun m1 =>
    some (some (.int v2), m1)
  else
    xi_bI (if S.1 v0 = 10 then E_X8_refuse S v0 (Int32.ofInt 5) m else none) fun x3 m2 =>
    some (some (.int x3), m2)
def F_X8_begun (S : xi_S) : xi_F := fun As m => match As with
  | [.ref v0, .ref v1, .int v2, .int v3] => E_X8_begun S v0 v1 v2 v3 m
  | _ => none
set_option maxRecDepth 100000 in
set_option maxHeartbeats 4000000 in
theorem xe_X8_begun {S : xi_S} {res : xi_R} (v0 : Nat) (v1 : Nat) (v2 : Int32) (v3 : Int32) (m : xi_M) (h : E_X8_begun S v0 v1 v2 v3 m = some res) : xi_X S (P_X8_begun S) (0, [some (.ref v0), some (.ref v1), some (.int v2), some (.int v3)], [], m) res := by
  unfold E_X8_begun at h
  refine xr_iload_n i_X8_begun_0 rfl (q := 1) rfl ?_
  by_cases c4 : 0 ≤ v2
  · replace h := (if_pos c4).symm.trans h
    refine xr_ifCond_ge_p i_X8_begun_1 c4 (q := 10) t_X8_begun_1 (q2 := 4) rfl ?_
    refine xr_aload_n i_X8_begun_10 rfl (q := 11) rfl ?_
    refine xr_iload_n i_X8_begun_11 rfl (q := 12) rfl ?_
    refine xr_iload_n i_X8_begun_12 rfl (q := 13) rfl ?_
    obtain ⟨m1, em1, h⟩ := xi_bV_some h
    refine xr_VV i_X8_begun_13 xcve_X8_235 rfl (As := [.ref v1, .int v2, .int v3]) rfl (rest := []) rfl ((cc_X8_begun_235 S _ _ _ _).trans em1) (q := 16) rfl ?_
    refine xr_iload_n i_X8_begun_16 rfl (q := 17) rfl ?_
    exact xr_ireturn i_X8_begun_17 rfl h
  · replace h := (if_neg c4).symm.trans h
    refine xr_ifCond_ge_n i_X8_begun_1 c4 (q := 10) t_X8_begun_1 (q2 := 4) rfl ?_
    refine xr_aload_n i_X8_begun_4 rfl (q := 5) rfl ?_
    refine xr_iconst i_X8_begun_5 (q := 6) rfl ?_
    obtain ⟨x3, m2, em2, h⟩ := xi_bI_some h
    refine xr_VI i_X8_begun_6 xcve_X8_83 rfl (As := [.ref v0, .int (Int32.ofInt 5)]) rfl (rest := []) rfl ((cc_X8_begun_83 S _ _ _).trans em2) (q := 9) rfl ?_
    exact xr_ireturn i_X8_begun_9 rfl h
set_option maxRecDepth 100000 in
theorem po_X8_begun {l : Launch} {E : xi_E} {S : xi_S} {D : va_G} {tys : List (ClassId × FieldType)} (hC : xCx E S tys) : xi_Pok l E S D vwCl tys xNs RX8 xTs cX8_begun 4 2 (P_X8_begun S) := ⟨xi_dc_ok, by rw [hC.2]; exact xfo_X8, xkio_X8, xklo_X8, xi_calls_ok (ins := .invokestatic) (fun _ h => absurd h List.not_mem_nil), xi_calls_ok (ins := .invokevirtual) (List.forall_mem_cons.mpr ⟨(xc_X8_83 hC.1 (sn_X8_refuse hC) (by decide)), List.forall_mem_cons.mpr ⟨(xc_X8_235 hC.1 (sn_X7_begin hC) (by decide)), fun _ h => absurd h List.not_mem_nil⟩⟩)⟩
theorem sn_X8_begun {l : Launch} {E : xi_E} {S : xi_S} {D : va_G} {tys : List (ClassId × FieldType)} (hC : xCx E S tys) : ∀ As m1 r m2, F_X8_begun S As m1 = some (r, m2) → xi_Sound l E S D vwCl tys xNs xTs yX8_begun cX8_begun 4 (some .int) 2 As m1 r m2 := by
  intro As m1 r m2 h
  unfold F_X8_begun at h
  split at h
  · exact xi_meth (P := P_X8_begun S) (by decide) hC.1 (po_X8_begun hC) (Nat.le_of_ble_eq_true rfl) rfl (xe_X8_begun _ _ _ _ _ h)
  · exact xi_no h
theorem i_X8_row_0 : xi_dc cX8_row 0 = some (.iload_n 1, 1) := by decide +kernel
theorem i_X8_row_1 : xi_dc cX8_row 1 = some (.iconst 5, 1) := by decide +kernel
theorem i_X8_row_2 : xi_dc cX8_row 2 = some (.invokestatic 71, 3) := by decide +kernel
theorem i_X8_row_5 : xi_dc cX8_row 5 = some (.ifCond .eq 9, 3) := by decide +kernel
theorem t_X8_row_5 : ((5 : Nat) : Int) + 9 = ((14 : Nat) : Int) := by decide +kernel
theorem i_X8_row_8 : xi_dc cX8_row 8 = some (.iload_n 2, 1) := by decide +kernel
theorem i_X8_row_9 : xi_dc cX8_row 9 = some (.bipush 40, 2) := by decide +kernel
theorem i_X8_row_11 : xi_dc cX8_row 11 = some (.if_icmp .le 5, 3) := by decide +kernel
theorem t_X8_row_11 : ((11 : Nat) : Int) + 5 = ((16 : Nat) : Int) := by decide +kernel
theorem i_X8_row_14 : xi_dc cX8_row 14 = some (.iconst (-1), 1) := by decide +kernel
theorem i_X8_row_15 : xi_dc cX8_row 15 = some (.ireturn, 1) := by decide +kernel
theorem i_X8_row_16 : xi_dc cX8_row 16 = some (.aload_n 0, 1) := by decide +kernel
theorem i_X8_row_17 : xi_dc cX8_row 17 = some (.aload_n 0, 1) := by decide +kernel
theorem i_X8_row_18 : xi_dc cX8_row 18 = some (.getfield 11, 3) := by decide +kernel
theorem i_X8_row_21 : xi_dc cX8_row 21 = some (.iload_n 1, 1) := by decide +kernel
theorem i_X8_row_22 : xi_dc cX8_row 22 = some (.aaload, 1) := by decide +kernel
theorem i_X8_row_23 : xi_dc cX8_row 23 = some (.iload_n 2, 1) := by decide +kernel
theorem i_X8_row_24 : xi_dc cX8_row 24 = some (.iconst 0, 1) := by decide +kernel
theorem i_X8_row_25 : xi_dc cX8_row 25 = some (.invokevirtual 75, 3) := by decide +kernel
theorem i_X8_row_28 : xi_dc cX8_row 28 = some (.ireturn, 1) := by decide +kernel
def P_X8_row (S : xi_S) : xi_P := (xi_dc cX8_row, xi_tab xfl_X8, xi_tab xki_X8, xi_tab xkl_X8, xi_tab xcs_X8, xi_tab xcv_X8, xi_calls [(71, xi_wS 2 (F_X8_within S))], xi_calls [(75, xi_wV S 10 3 (F_X8_begun S))], 1)
theorem cc_X8_row_71 (S : xi_S) (a0 : Int32) (a1 : Int32) (m : xi_M) : (P_X8_row S).2.2.2.2.2.2.1 71 [.int a0, .int a1] m = (E_X8_within S a0 a1 m) := by
  show xi_calls [(71, xi_wS 2 (F_X8_within S))] 71 [.int a0, .int a1] m = _
  refine Eq.trans (b := xi_wS 2 (F_X8_within S) [.int a0, .int a1] m) (xi_calls_hit rfl) ?_
  exact xi_wS_eq rfl
theorem cc_X8_row_75 (S : xi_S) (a0 : Nat) (a1 : Nat) (a2 : Int32) (a3 : Int32) (m : xi_M) : (P_X8_row S).2.2.2.2.2.2.2.1 75 [.ref a0, .ref a1, .int a2, .int a3] m = (if S.1 a0 = 10 then E_X8_begun S a0 a1 a2 a3 m else none) := by
  show xi_calls [(75, xi_wV S 10 3 (F_X8_begun S))] 75 [.ref a0, .ref a1, .int a2, .int a3] m = _
  refine Eq.trans (b := xi_wV S 10 3 (F_X8_begun S) [.ref a0, .ref a1, .int a2, .int a3] m) (xi_calls_hit rfl) ?_
  exact xi_wV_eq rfl
def E_X8_row (S : xi_S) (v0 : Nat) (v1 : Int32) (v2 : Int32) (m : xi_M) : Option xi_R :=
  xi_bI (E_X8_within S v1 (Int32.ofInt 5) m) fun x2 m1 =>
  if x2 = 0 then
    some (some (.int (Int32.ofInt (-1))), m1)
  else
    if v2 ≤ ((Int8.ofInt 40).toInt32) then
      if S.1 v0 = 10 then (S.2.2 v0 0).bind fun b4 =>
        if (S.1 b4 = 1 ∨ S.1 b4 = 2) ∧ ¬ (v1 < 0 ∨ S.2.1 b4 ≤ Int32.toNatClampNeg v1) then (S.2.2 b4 (Int32.toNatClampNeg v1)).bind fun b6 =>
          xi_bI (if S.1 v0 = 10 then E_X8_begun S v0 b6 v2 (Int32.ofInt 0) m1 else none) fun x8 m7 =>
          some (some (.int x8), m7)
        else none
      else none
    else
      some (some (.int (Int32.ofInt (-1))), m1)
def F_X8_row (S : xi_S) : xi_F := fun As m => match As with
  | [.ref v0, .int v1, .int v2] => E_X8_row S v0 v1 v2 m
  | _ => none
set_option maxRecDepth 100000 in
set_option maxHeartbeats 4000000 in
theorem xe_X8_row {S : xi_S} {res : xi_R} (v0 : Nat) (v1 : Int32) (v2 : Int32) (m : xi_M) (h : E_X8_row S v0 v1 v2 m = some res) : xi_X S (P_X8_row S) (0, [some (.ref v0), some (.int v1), some (.int v2)], [], m) res := by
  unfold E_X8_row at h
  refine xr_iload_n i_X8_row_0 rfl (q := 1) rfl ?_
  refine xr_iconst i_X8_row_1 (q := 2) rfl ?_
  obtain ⟨x2, m1, em1, h⟩ := xi_bI_some h
  refine xr_SI i_X8_row_2 xcse_X8_71 rfl (As := [.int v1, .int (Int32.ofInt 5)]) rfl (rest := []) rfl ((cc_X8_row_71 S _ _ _).trans em1) (q := 5) rfl ?_
  by_cases c10 : x2 = 0
  · replace h := (if_pos c10).symm.trans h
    refine xr_ifCond_eq_p i_X8_row_5 c10 (q := 14) t_X8_row_5 (q2 := 8) rfl ?_
    refine xr_iconst i_X8_row_14 (q := 15) rfl ?_
    exact xr_ireturn i_X8_row_15 rfl h
  · replace h := (if_neg c10).symm.trans h
    refine xr_ifCond_eq_n i_X8_row_5 c10 (q := 14) t_X8_row_5 (q2 := 8) rfl ?_
    refine xr_iload_n i_X8_row_8 rfl (q := 9) rfl ?_
    refine xr_bipush i_X8_row_9 (q := 11) rfl ?_
    by_cases c9 : v2 ≤ ((Int8.ofInt 40).toInt32)
    · replace h := (if_pos c9).symm.trans h
      refine xr_if_icmp_le_p i_X8_row_11 c9 (q := 16) t_X8_row_11 (q2 := 14) rfl ?_
      refine xr_aload_n i_X8_row_16 rfl (q := 17) rfl ?_
      refine xr_aload_n i_X8_row_17 rfl (q := 18) rfl ?_
      obtain ⟨c3, h⟩ := xi_if_some h
      obtain ⟨b4, eb4, h⟩ := xi_bind_some h
      refine xr_getR i_X8_row_18 xfe_X8_11 c3 eb4 (q := 21) rfl ?_
      refine xr_iload_n i_X8_row_21 rfl (q := 22) rfl ?_
      obtain ⟨c5, h⟩ := xi_if_some h
      obtain ⟨b6, eb6, h⟩ := xi_bind_some h
      refine xr_aaload i_X8_row_22 c5 eb6 (q := 23) rfl ?_
      refine xr_iload_n i_X8_row_23 rfl (q := 24) rfl ?_
      refine xr_iconst i_X8_row_24 (q := 25) rfl ?_
      obtain ⟨x8, m7, em7, h⟩ := xi_bI_some h
      refine xr_VI i_X8_row_25 xcve_X8_75 rfl (As := [.ref v0, .ref b6, .int v2, .int (Int32.ofInt 0)]) rfl (rest := []) rfl ((cc_X8_row_75 S _ _ _ _ _).trans em7) (q := 28) rfl ?_
      exact xr_ireturn i_X8_row_28 rfl h
    · replace h := (if_neg c9).symm.trans h
      refine xr_if_icmp_le_n i_X8_row_11 c9 (q := 16) t_X8_row_11 (q2 := 14) rfl ?_
      refine xr_iconst i_X8_row_14 (q := 15) rfl ?_
      exact xr_ireturn i_X8_row_15 rfl h
set_option maxRecDepth 100000 in
theorem po_X8_row {l : Launch} {E : xi_E} {S : xi_S} {D : va_G} {tys : List (ClassId × FieldType)} (hC : xCx E S tys) : xi_Pok l E S D vwCl tys xNs RX8 xTs cX8_row 3 3 (P_X8_row S) := ⟨xi_dc_ok, by rw [hC.2]; exact xfo_X8, xkio_X8, xklo_X8, xi_calls_ok (ins := .invokestatic) (List.forall_mem_cons.mpr ⟨(xc_X8_71 (sn_X8_within hC) (by decide)), fun _ h => absurd h List.not_mem_nil⟩), xi_calls_ok (ins := .invokevirtual) (List.forall_mem_cons.mpr ⟨(xc_X8_75 hC.1 (sn_X8_begun hC) (by decide)), fun _ h => absurd h List.not_mem_nil⟩)⟩
theorem sn_X8_row {l : Launch} {E : xi_E} {S : xi_S} {D : va_G} {tys : List (ClassId × FieldType)} (hC : xCx E S tys) : ∀ As m1 r m2, F_X8_row S As m1 = some (r, m2) → xi_Sound l E S D vwCl tys xNs xTs yX8_row cX8_row 3 (some .int) 3 As m1 r m2 := by
  intro As m1 r m2 h
  unfold F_X8_row at h
  split at h
  · exact xi_meth (P := P_X8_row S) (by decide) hC.1 (po_X8_row hC) (Nat.le_of_ble_eq_true rfl) rfl (xe_X8_row _ _ _ _ h)
  · exact xi_no h
theorem i_X8_answer_0 : xi_dc cX8_answer 0 = some (.aload_n 0, 1) := by decide +kernel
theorem i_X8_answer_1 : xi_dc cX8_answer 1 = some (.iload_n 1, 1) := by decide +kernel
theorem i_X8_answer_2 : xi_dc cX8_answer 2 = some (.putfield 298, 3) := by decide +kernel
theorem i_X8_answer_5 : xi_dc cX8_answer 5 = some (.iconst 1, 1) := by decide +kernel
theorem i_X8_answer_6 : xi_dc cX8_answer 6 = some (.ireturn, 1) := by decide +kernel
def P_X8_answer (S : xi_S) : xi_P := (xi_dc cX8_answer, xi_tab xfl_X8, xi_tab xki_X8, xi_tab xkl_X8, xi_tab xcs_X8, xi_tab xcv_X8, xi_calls [], xi_calls [], 1)
def E_X8_answer (S : xi_S) (v0 : Nat) (v1 : Int32) (m : xi_M) : Option xi_R :=
  if S.1 v0 = 10 then
    some (some (.int (Int32.ofInt 1)), (xi_wI m v0 11 v1))
  else none
def F_X8_answer (S : xi_S) : xi_F := fun As m => match As with
  | [.ref v0, .int v1] => E_X8_answer S v0 v1 m
  | _ => none
set_option maxRecDepth 100000 in
set_option maxHeartbeats 4000000 in
theorem xe_X8_answer {S : xi_S} {res : xi_R} (v0 : Nat) (v1 : Int32) (m : xi_M) (h : E_X8_answer S v0 v1 m = some res) : xi_X S (P_X8_answer S) (0, [some (.ref v0), some (.int v1)], [], m) res := by
  unfold E_X8_answer at h
  refine xr_aload_n i_X8_answer_0 rfl (q := 1) rfl ?_
  refine xr_iload_n i_X8_answer_1 rfl (q := 2) rfl ?_
  obtain ⟨c1, h⟩ := xi_if_some h
  refine xr_putI i_X8_answer_2 xfe_X8_298 c1 (q := 5) rfl ?_
  refine xr_iconst i_X8_answer_5 (q := 6) rfl ?_
  exact xr_ireturn i_X8_answer_6 rfl h
set_option maxRecDepth 100000 in
theorem po_X8_answer {l : Launch} {E : xi_E} {S : xi_S} {D : va_G} {tys : List (ClassId × FieldType)} (hC : xCx E S tys) : xi_Pok l E S D vwCl tys xNs RX8 xTs cX8_answer 2 0 (P_X8_answer S) := ⟨xi_dc_ok, by rw [hC.2]; exact xfo_X8, xkio_X8, xklo_X8, xi_calls_ok (ins := .invokestatic) (fun _ h => absurd h List.not_mem_nil), xi_calls_ok (ins := .invokevirtual) (fun _ h => absurd h List.not_mem_nil)⟩
theorem sn_X8_answer {l : Launch} {E : xi_E} {S : xi_S} {D : va_G} {tys : List (ClassId × FieldType)} (hC : xCx E S tys) : ∀ As m1 r m2, F_X8_answer S As m1 = some (r, m2) → xi_Sound l E S D vwCl tys xNs xTs yX8_answer cX8_answer 2 (some .int) 0 As m1 r m2 := by
  intro As m1 r m2 h
  unfold F_X8_answer at h
  split at h
  · exact xi_meth (P := P_X8_answer S) (by decide) hC.1 (po_X8_answer hC) (Nat.le_of_ble_eq_true rfl) rfl (xe_X8_answer _ _ _ h)
  · exact xi_no h
theorem i_X8_lay_0 : xi_dc cX8_lay 0 = some (.iload_n 1, 1) := by decide +kernel
theorem i_X8_lay_1 : xi_dc cX8_lay 1 = some (.iconst 5, 1) := by decide +kernel
theorem i_X8_lay_2 : xi_dc cX8_lay 2 = some (.invokestatic 71, 3) := by decide +kernel
theorem i_X8_lay_5 : xi_dc cX8_lay 5 = some (.ifCond .ne 5, 3) := by decide +kernel
theorem t_X8_lay_5 : ((5 : Nat) : Int) + 5 = ((10 : Nat) : Int) := by decide +kernel
theorem i_X8_lay_8 : xi_dc cX8_lay 8 = some (.iconst (-1), 1) := by decide +kernel
theorem i_X8_lay_9 : xi_dc cX8_lay 9 = some (.ireturn, 1) := by decide +kernel
theorem i_X8_lay_10 : xi_dc cX8_lay 10 = some (.aload_n 0, 1) := by decide +kernel
theorem i_X8_lay_11 : xi_dc cX8_lay 11 = some (.getfield 11, 3) := by decide +kernel
theorem i_X8_lay_14 : xi_dc cX8_lay 14 = some (.iload_n 1, 1) := by decide +kernel
theorem i_X8_lay_15 : xi_dc cX8_lay 15 = some (.aaload, 1) := by decide +kernel
theorem i_X8_lay_16 : xi_dc cX8_lay 16 = some (.iload_n 2, 1) := by decide +kernel
theorem i_X8_lay_17 : xi_dc cX8_lay 17 = some (.invokevirtual 79, 3) := by decide +kernel
theorem i_X8_lay_20 : xi_dc cX8_lay 20 = some (.istore 4, 2) := by decide +kernel
theorem i_X8_lay_22 : xi_dc cX8_lay 22 = some (.iload 4, 2) := by decide +kernel
theorem i_X8_lay_24 : xi_dc cX8_lay 24 = some (.ifCond .eq 10, 3) := by decide +kernel
theorem t_X8_lay_24 : ((24 : Nat) : Int) + 10 = ((34 : Nat) : Int) := by decide +kernel
theorem i_X8_lay_27 : xi_dc cX8_lay 27 = some (.aload_n 0, 1) := by decide +kernel
theorem i_X8_lay_28 : xi_dc cX8_lay 28 = some (.iload 4, 2) := by decide +kernel
theorem i_X8_lay_30 : xi_dc cX8_lay 30 = some (.invokevirtual 83, 3) := by decide +kernel
theorem i_X8_lay_33 : xi_dc cX8_lay 33 = some (.ireturn, 1) := by decide +kernel
theorem i_X8_lay_34 : xi_dc cX8_lay 34 = some (.aload_n 0, 1) := by decide +kernel
theorem i_X8_lay_35 : xi_dc cX8_lay 35 = some (.getfield 11, 3) := by decide +kernel
theorem i_X8_lay_38 : xi_dc cX8_lay 38 = some (.iload_n 1, 1) := by decide +kernel
theorem i_X8_lay_39 : xi_dc cX8_lay 39 = some (.aaload, 1) := by decide +kernel
theorem i_X8_lay_40 : xi_dc cX8_lay 40 = some (.getfield 86, 3) := by decide +kernel
theorem i_X8_lay_43 : xi_dc cX8_lay 43 = some (.iload_n 2, 1) := by decide +kernel
theorem i_X8_lay_44 : xi_dc cX8_lay 44 = some (.iaload, 1) := by decide +kernel
theorem i_X8_lay_45 : xi_dc cX8_lay 45 = some (.istore 5, 2) := by decide +kernel
theorem i_X8_lay_47 : xi_dc cX8_lay 47 = some (.aload_n 0, 1) := by decide +kernel
theorem i_X8_lay_48 : xi_dc cX8_lay 48 = some (.getfield 11, 3) := by decide +kernel
theorem i_X8_lay_51 : xi_dc cX8_lay 51 = some (.iload_n 1, 1) := by decide +kernel
theorem i_X8_lay_52 : xi_dc cX8_lay 52 = some (.aaload, 1) := by decide +kernel
theorem i_X8_lay_53 : xi_dc cX8_lay 53 = some (.getfield 86, 3) := by decide +kernel
theorem i_X8_lay_56 : xi_dc cX8_lay 56 = some (.iload_n 2, 1) := by decide +kernel
theorem i_X8_lay_57 : xi_dc cX8_lay 57 = some (.iload_n 3, 1) := by decide +kernel
theorem i_X8_lay_58 : xi_dc cX8_lay 58 = some (.iastore, 1) := by decide +kernel
theorem i_X8_lay_59 : xi_dc cX8_lay 59 = some (.aload_n 0, 1) := by decide +kernel
theorem i_X8_lay_60 : xi_dc cX8_lay 60 = some (.iload 5, 2) := by decide +kernel
theorem i_X8_lay_62 : xi_dc cX8_lay 62 = some (.invokevirtual 89, 3) := by decide +kernel
theorem i_X8_lay_65 : xi_dc cX8_lay 65 = some (.ireturn, 1) := by decide +kernel
def P_X8_lay (S : xi_S) : xi_P := (xi_dc cX8_lay, xi_tab xfl_X8, xi_tab xki_X8, xi_tab xkl_X8, xi_tab xcs_X8, xi_tab xcv_X8, xi_calls [(71, xi_wS 2 (F_X8_within S))], xi_calls [(79, xi_wV S 9 1 (F_X7_findingAt S)), (83, xi_wV S 10 1 (F_X8_refuse S)), (89, xi_wV S 10 1 (F_X8_answer S))], 1)
theorem cc_X8_lay_71 (S : xi_S) (a0 : Int32) (a1 : Int32) (m : xi_M) : (P_X8_lay S).2.2.2.2.2.2.1 71 [.int a0, .int a1] m = (E_X8_within S a0 a1 m) := by
  show xi_calls [(71, xi_wS 2 (F_X8_within S))] 71 [.int a0, .int a1] m = _
  refine Eq.trans (b := xi_wS 2 (F_X8_within S) [.int a0, .int a1] m) (xi_calls_hit rfl) ?_
  exact xi_wS_eq rfl
theorem cc_X8_lay_79 (S : xi_S) (a0 : Nat) (a1 : Int32) (m : xi_M) : (P_X8_lay S).2.2.2.2.2.2.2.1 79 [.ref a0, .int a1] m = (if S.1 a0 = 9 then E_X7_findingAt S a0 a1 m else none) := by
  show xi_calls [(79, xi_wV S 9 1 (F_X7_findingAt S)), (83, xi_wV S 10 1 (F_X8_refuse S)), (89, xi_wV S 10 1 (F_X8_answer S))] 79 [.ref a0, .int a1] m = _
  refine Eq.trans (b := xi_wV S 9 1 (F_X7_findingAt S) [.ref a0, .int a1] m) (xi_calls_hit rfl) ?_
  exact xi_wV_eq rfl
theorem cc_X8_lay_83 (S : xi_S) (a0 : Nat) (a1 : Int32) (m : xi_M) : (P_X8_lay S).2.2.2.2.2.2.2.1 83 [.ref a0, .int a1] m = (if S.1 a0 = 10 then E_X8_refuse S a0 a1 m else none) := by
  show xi_calls [(79, xi_wV S 9 1 (F_X7_findingAt S)), (83, xi_wV S 10 1 (F_X8_refuse S)), (89, xi_wV S 10 1 (F_X8_answer S))] 83 [.ref a0, .int a1] m = _
  refine Eq.trans (b := xi_calls [(83, xi_wV S 10 1 (F_X8_refuse S)), (89, xi_wV S 10 1 (F_X8_answer S))] 83 [.ref a0, .int a1] m) (xi_calls_miss rfl) ?_
  refine Eq.trans (b := xi_wV S 10 1 (F_X8_refuse S) [.ref a0, .int a1] m) (xi_calls_hit rfl) ?_
  exact xi_wV_eq rfl
theorem cc_X8_lay_89 (S : xi_S) (a0 : Nat) (a1 : Int32) (m : xi_M) : (P_X8_lay S).2.2.2.2.2.2.2.1 89 [.ref a0, .int a1] m = (if S.1 a0 = 10 then E_X8_answer S a0 a1 m else none) := by
  show xi_calls [(79, xi_wV S 9 1 (F_X7_findingAt S)), (83, xi_wV S 10 1 (F_X8_refuse S)), (89, xi_wV S 10 1 (F_X8_answer S))] 89 [.ref a0, .int a1] m = _
  refine Eq.trans (b := xi_calls [(83, xi_wV S 10 1 (F_X8_refuse S)), (89, xi_wV S 10 1 (F_X8_answer S))] 89 [.ref a0, .int a1] m) (xi_calls_miss rfl) ?_
  refine Eq.trans (b := xi_calls [(89, xi_wV S 10 1 (F_X8_answer S))] 89 [.ref a0, .int a1] m) (xi_calls_miss rfl) ?_
  refine Eq.trans (b := xi_wV S 10 1 (F_X8_answer S) [.ref a0, .int a1] m) (xi_calls_hit rfl) ?_
  exact xi_wV_eq rfl
def E_X8_lay (S : xi_S) (v0 : Nat) (v1 : Int32) (v2 : Int32) (v3 : Int32) (m : xi_M) : Option xi_R :=
  xi_bI (E_X8_within S v1 (Int32.ofInt 5) m) fun x2 m1 =>
  if x2 = 0 then
    some (some (.int (Int32.ofInt (-1))), m1)
  else
    if S.1 v0 = 10 then (S.2.2 v0 0).bind fun b4 =>
      if (S.1 b4 = 1 ∨ S.1 b4 = 2) ∧ ¬ (v1 < 0 ∨ S.2.1 b4 ≤ Int32.toNatClampNeg v1) then (S.2.2 b4 (Int32.toNatClampNeg v1)).bind fun b6 =>
        xi_bI (if S.1 b6 = 9 then E_X7_findingAt S b6 v2 m1 else none) fun x8 m7 =>
        if x8 = 0 then
          if S.1 v0 = 10 then (S.2.2 v0 0).bind fun b10 =>
            if (S.1 b10 = 1 ∨ S.1 b10 = 2) ∧ ¬ (v1 < 0 ∨ S.2.1 b10 ≤ Int32.toNatClampNeg v1) then (S.2.2 b10 (Int32.toNatClampNeg v1)).bind fun b12 =>
              if S.1 b12 = 9 then (S.2.2 b12 2).bind fun b14 =>
                if S.1 b14 = 0 ∧ ¬ (v2 < 0 ∨ S.2.1 b14 ≤ Int32.toNatClampNeg v2) then
                  if S.1 v0 = 10 then (S.2.2 v0 0).bind fun b17 =>
                    if (S.1 b17 = 1 ∨ S.1 b17 = 2) ∧ ¬ (v1 < 0 ∨ S.2.1 b17 ≤ Int32.toNatClampNeg v1) then (S.2.2 b17 (Int32.toNatClampNeg v1)).bind fun b19 =>
                      if S.1 b19 = 9 then (S.2.2 b19 2).bind fun b21 =>
                        if S.1 b21 = 0 ∧ ¬ (v2 < 0 ∨ S.2.1 b21 ≤ Int32.toNatClampNeg v2) then
                          xi_bI (if S.1 v0 = 10 then E_X8_answer S v0 (m7.1 b14 (Int32.toNatClampNeg v2)) (xi_wI m7 b21 (Int32.toNatClampNeg v2) v3) else none) fun x24 m23 =>
                          some (some (.int x24), m23)
                        else none
                      else none
                    else none
                  else none
                else none
              else none
            else none
          else none
        else
          xi_bI (if S.1 v0 = 10 then E_X8_refuse S v0 x8 m7 else none) fun x26 m25 =>
          some (some (.int x26), m25)
      else none
    else none
def F_X8_lay (S : xi_S) : xi_F := fun As m => match As with
  | [.ref v0, .int v1, .int v2, .int v3] => E_X8_lay S v0 v1 v2 v3 m
  | _ => none
set_option maxRecDepth 100000 in
set_option maxHeartbeats 4000000 in
theorem xe_X8_lay {S : xi_S} {res : xi_R} (v0 : Nat) (v1 : Int32) (v2 : Int32) (v3 : Int32) (m : xi_M) (h : E_X8_lay S v0 v1 v2 v3 m = some res) : xi_X S (P_X8_lay S) (0, [some (.ref v0), some (.int v1), some (.int v2), some (.int v3), none, none], [], m) res := by
  unfold E_X8_lay at h
  refine xr_iload_n i_X8_lay_0 rfl (q := 1) rfl ?_
  refine xr_iconst i_X8_lay_1 (q := 2) rfl ?_
  obtain ⟨x2, m1, em1, h⟩ := xi_bI_some h
  refine xr_SI i_X8_lay_2 xcse_X8_71 rfl (As := [.int v1, .int (Int32.ofInt 5)]) rfl (rest := []) rfl ((cc_X8_lay_71 S _ _ _).trans em1) (q := 5) rfl ?_
  by_cases c28 : x2 = 0
  · replace h := (if_pos c28).symm.trans h
    refine xr_ifCond_ne_p i_X8_lay_5 c28 (q := 10) t_X8_lay_5 (q2 := 8) rfl ?_
    refine xr_iconst i_X8_lay_8 (q := 9) rfl ?_
    exact xr_ireturn i_X8_lay_9 rfl h
  · replace h := (if_neg c28).symm.trans h
    refine xr_ifCond_ne_n i_X8_lay_5 c28 (q := 10) t_X8_lay_5 (q2 := 8) rfl ?_
    refine xr_aload_n i_X8_lay_10 rfl (q := 11) rfl ?_
    obtain ⟨c3, h⟩ := xi_if_some h
    obtain ⟨b4, eb4, h⟩ := xi_bind_some h
    refine xr_getR i_X8_lay_11 xfe_X8_11 c3 eb4 (q := 14) rfl ?_
    refine xr_iload_n i_X8_lay_14 rfl (q := 15) rfl ?_
    obtain ⟨c5, h⟩ := xi_if_some h
    obtain ⟨b6, eb6, h⟩ := xi_bind_some h
    refine xr_aaload i_X8_lay_15 c5 eb6 (q := 16) rfl ?_
    refine xr_iload_n i_X8_lay_16 rfl (q := 17) rfl ?_
    obtain ⟨x8, m7, em7, h⟩ := xi_bI_some h
    refine xr_VI i_X8_lay_17 xcve_X8_79 rfl (As := [.ref b6, .int v2]) rfl (rest := []) rfl ((cc_X8_lay_79 S _ _ _).trans em7) (q := 20) rfl ?_
    refine xr_istore i_X8_lay_20 rfl (L2 := [some (.ref v0), some (.int v1), some (.int v2), some (.int v3), some (.int x8), none]) rfl (q := 22) rfl ?_
    refine xr_iload i_X8_lay_22 rfl (q := 24) rfl ?_
    by_cases c27 : x8 = 0
    · replace h := (if_pos c27).symm.trans h
      refine xr_ifCond_eq_p i_X8_lay_24 c27 (q := 34) t_X8_lay_24 (q2 := 27) rfl ?_
      refine xr_aload_n i_X8_lay_34 rfl (q := 35) rfl ?_
      obtain ⟨c9, h⟩ := xi_if_some h
      obtain ⟨b10, eb10, h⟩ := xi_bind_some h
      refine xr_getR i_X8_lay_35 xfe_X8_11 c9 eb10 (q := 38) rfl ?_
      refine xr_iload_n i_X8_lay_38 rfl (q := 39) rfl ?_
      obtain ⟨c11, h⟩ := xi_if_some h
      obtain ⟨b12, eb12, h⟩ := xi_bind_some h
      refine xr_aaload i_X8_lay_39 c11 eb12 (q := 40) rfl ?_
      obtain ⟨c13, h⟩ := xi_if_some h
      obtain ⟨b14, eb14, h⟩ := xi_bind_some h
      refine xr_getR i_X8_lay_40 xfe_X8_86 c13 eb14 (q := 43) rfl ?_
      refine xr_iload_n i_X8_lay_43 rfl (q := 44) rfl ?_
      obtain ⟨c15, h⟩ := xi_if_some h
      refine xr_iaload i_X8_lay_44 c15 (q := 45) rfl ?_
      refine xr_istore i_X8_lay_45 rfl (L2 := [some (.ref v0), some (.int v1), some (.int v2), some (.int v3), some (.int x8), some (.int (m7.1 b14 (Int32.toNatClampNeg v2)))]) rfl (q := 47) rfl ?_
      refine xr_aload_n i_X8_lay_47 rfl (q := 48) rfl ?_
      obtain ⟨c16, h⟩ := xi_if_some h
      obtain ⟨b17, eb17, h⟩ := xi_bind_some h
      refine xr_getR i_X8_lay_48 xfe_X8_11 c16 eb17 (q := 51) rfl ?_
      refine xr_iload_n i_X8_lay_51 rfl (q := 52) rfl ?_
      obtain ⟨c18, h⟩ := xi_if_some h
      obtain ⟨b19, eb19, h⟩ := xi_bind_some h
      refine xr_aaload i_X8_lay_52 c18 eb19 (q := 53) rfl ?_
      obtain ⟨c20, h⟩ := xi_if_some h
      obtain ⟨b21, eb21, h⟩ := xi_bind_some h
      refine xr_getR i_X8_lay_53 xfe_X8_86 c20 eb21 (q := 56) rfl ?_
      refine xr_iload_n i_X8_lay_56 rfl (q := 57) rfl ?_
      refine xr_iload_n i_X8_lay_57 rfl (q := 58) rfl ?_
      obtain ⟨c22, h⟩ := xi_if_some h
      refine xr_iastore i_X8_lay_58 c22 (q := 59) rfl ?_
      refine xr_aload_n i_X8_lay_59 rfl (q := 60) rfl ?_
      refine xr_iload i_X8_lay_60 rfl (q := 62) rfl ?_
      obtain ⟨x24, m23, em23, h⟩ := xi_bI_some h
      refine xr_VI i_X8_lay_62 xcve_X8_89 rfl (As := [.ref v0, .int (m7.1 b14 (Int32.toNatClampNeg v2))]) rfl (rest := []) rfl ((cc_X8_lay_89 S _ _ _).trans em23) (q := 65) rfl ?_
      exact xr_ireturn i_X8_lay_65 rfl h
    · replace h := (if_neg c27).symm.trans h
      refine xr_ifCond_eq_n i_X8_lay_24 c27 (q := 34) t_X8_lay_24 (q2 := 27) rfl ?_
      refine xr_aload_n i_X8_lay_27 rfl (q := 28) rfl ?_
      refine xr_iload i_X8_lay_28 rfl (q := 30) rfl ?_
      obtain ⟨x26, m25, em25, h⟩ := xi_bI_some h
      refine xr_VI i_X8_lay_30 xcve_X8_83 rfl (As := [.ref v0, .int x8]) rfl (rest := []) rfl ((cc_X8_lay_83 S _ _ _).trans em25) (q := 33) rfl ?_
      exact xr_ireturn i_X8_lay_33 rfl h
set_option maxRecDepth 100000 in
theorem po_X8_lay {l : Launch} {E : xi_E} {S : xi_S} {D : va_G} {tys : List (ClassId × FieldType)} (hC : xCx E S tys) : xi_Pok l E S D vwCl tys xNs RX8 xTs cX8_lay 6 1 (P_X8_lay S) := ⟨xi_dc_ok, by rw [hC.2]; exact xfo_X8, xkio_X8, xklo_X8, xi_calls_ok (ins := .invokestatic) (List.forall_mem_cons.mpr ⟨(xc_X8_71 (sn_X8_within hC) (by decide)), fun _ h => absurd h List.not_mem_nil⟩), xi_calls_ok (ins := .invokevirtual) (List.forall_mem_cons.mpr ⟨(xc_X8_79 hC.1 (sn_X7_findingAt hC) (by decide)), List.forall_mem_cons.mpr ⟨(xc_X8_83 hC.1 (sn_X8_refuse hC) (by decide)), List.forall_mem_cons.mpr ⟨(xc_X8_89 hC.1 (sn_X8_answer hC) (by decide)), fun _ h => absurd h List.not_mem_nil⟩⟩⟩)⟩
theorem sn_X8_lay {l : Launch} {E : xi_E} {S : xi_S} {D : va_G} {tys : List (ClassId × FieldType)} (hC : xCx E S tys) : ∀ As m1 r m2, F_X8_lay S As m1 = some (r, m2) → xi_Sound l E S D vwCl tys xNs xTs yX8_lay cX8_lay 6 (some .int) 1 As m1 r m2 := by
  intro As m1 r m2 h
  unfold F_X8_lay at h
  split at h
  · exact xi_meth (P := P_X8_lay S) (by decide) hC.1 (po_X8_lay hC) (Nat.le_of_ble_eq_true rfl) rfl (xe_X8_lay _ _ _ _ _ h)
  · exact xi_no h
theorem i_X8_at_0 : xi_dc cX8_at 0 = some (.iload_n 1, 1) := by decide +kernel
theorem i_X8_at_1 : xi_dc cX8_at 1 = some (.iconst 5, 1) := by decide +kernel
theorem i_X8_at_2 : xi_dc cX8_at 2 = some (.invokestatic 71, 3) := by decide +kernel
theorem i_X8_at_5 : xi_dc cX8_at 5 = some (.ifCond .ne 5, 3) := by decide +kernel
theorem t_X8_at_5 : ((5 : Nat) : Int) + 5 = ((10 : Nat) : Int) := by decide +kernel
theorem i_X8_at_8 : xi_dc cX8_at 8 = some (.iconst (-1), 1) := by decide +kernel
theorem i_X8_at_9 : xi_dc cX8_at 9 = some (.ireturn, 1) := by decide +kernel
theorem i_X8_at_10 : xi_dc cX8_at 10 = some (.aload_n 0, 1) := by decide +kernel
theorem i_X8_at_11 : xi_dc cX8_at 11 = some (.getfield 11, 3) := by decide +kernel
theorem i_X8_at_14 : xi_dc cX8_at 14 = some (.iload_n 1, 1) := by decide +kernel
theorem i_X8_at_15 : xi_dc cX8_at 15 = some (.aaload, 1) := by decide +kernel
theorem i_X8_at_16 : xi_dc cX8_at 16 = some (.iload_n 2, 1) := by decide +kernel
theorem i_X8_at_17 : xi_dc cX8_at 17 = some (.invokevirtual 79, 3) := by decide +kernel
theorem i_X8_at_20 : xi_dc cX8_at 20 = some (.istore_n 3, 1) := by decide +kernel
theorem i_X8_at_21 : xi_dc cX8_at 21 = some (.iload_n 3, 1) := by decide +kernel
theorem i_X8_at_22 : xi_dc cX8_at 22 = some (.ifCond .eq 9, 3) := by decide +kernel
theorem t_X8_at_22 : ((22 : Nat) : Int) + 9 = ((31 : Nat) : Int) := by decide +kernel
theorem i_X8_at_25 : xi_dc cX8_at 25 = some (.aload_n 0, 1) := by decide +kernel
theorem i_X8_at_26 : xi_dc cX8_at 26 = some (.iload_n 3, 1) := by decide +kernel
theorem i_X8_at_27 : xi_dc cX8_at 27 = some (.invokevirtual 83, 3) := by decide +kernel
theorem i_X8_at_30 : xi_dc cX8_at 30 = some (.ireturn, 1) := by decide +kernel
theorem i_X8_at_31 : xi_dc cX8_at 31 = some (.aload_n 0, 1) := by decide +kernel
theorem i_X8_at_32 : xi_dc cX8_at 32 = some (.aload_n 0, 1) := by decide +kernel
theorem i_X8_at_33 : xi_dc cX8_at 33 = some (.getfield 11, 3) := by decide +kernel
theorem i_X8_at_36 : xi_dc cX8_at 36 = some (.iload_n 1, 1) := by decide +kernel
theorem i_X8_at_37 : xi_dc cX8_at 37 = some (.aaload, 1) := by decide +kernel
theorem i_X8_at_38 : xi_dc cX8_at 38 = some (.getfield 86, 3) := by decide +kernel
theorem i_X8_at_41 : xi_dc cX8_at 41 = some (.iload_n 2, 1) := by decide +kernel
theorem i_X8_at_42 : xi_dc cX8_at 42 = some (.iaload, 1) := by decide +kernel
theorem i_X8_at_43 : xi_dc cX8_at 43 = some (.invokevirtual 89, 3) := by decide +kernel
theorem i_X8_at_46 : xi_dc cX8_at 46 = some (.ireturn, 1) := by decide +kernel
def P_X8_at (S : xi_S) : xi_P := (xi_dc cX8_at, xi_tab xfl_X8, xi_tab xki_X8, xi_tab xkl_X8, xi_tab xcs_X8, xi_tab xcv_X8, xi_calls [(71, xi_wS 2 (F_X8_within S))], xi_calls [(79, xi_wV S 9 1 (F_X7_findingAt S)), (83, xi_wV S 10 1 (F_X8_refuse S)), (89, xi_wV S 10 1 (F_X8_answer S))], 1)
theorem cc_X8_at_71 (S : xi_S) (a0 : Int32) (a1 : Int32) (m : xi_M) : (P_X8_at S).2.2.2.2.2.2.1 71 [.int a0, .int a1] m = (E_X8_within S a0 a1 m) := by
  show xi_calls [(71, xi_wS 2 (F_X8_within S))] 71 [.int a0, .int a1] m = _
  refine Eq.trans (b := xi_wS 2 (F_X8_within S) [.int a0, .int a1] m) (xi_calls_hit rfl) ?_
  exact xi_wS_eq rfl
theorem cc_X8_at_79 (S : xi_S) (a0 : Nat) (a1 : Int32) (m : xi_M) : (P_X8_at S).2.2.2.2.2.2.2.1 79 [.ref a0, .int a1] m = (if S.1 a0 = 9 then E_X7_findingAt S a0 a1 m else none) := by
  show xi_calls [(79, xi_wV S 9 1 (F_X7_findingAt S)), (83, xi_wV S 10 1 (F_X8_refuse S)), (89, xi_wV S 10 1 (F_X8_answer S))] 79 [.ref a0, .int a1] m = _
  refine Eq.trans (b := xi_wV S 9 1 (F_X7_findingAt S) [.ref a0, .int a1] m) (xi_calls_hit rfl) ?_
  exact xi_wV_eq rfl
theorem cc_X8_at_83 (S : xi_S) (a0 : Nat) (a1 : Int32) (m : xi_M) : (P_X8_at S).2.2.2.2.2.2.2.1 83 [.ref a0, .int a1] m = (if S.1 a0 = 10 then E_X8_refuse S a0 a1 m else none) := by
  show xi_calls [(79, xi_wV S 9 1 (F_X7_findingAt S)), (83, xi_wV S 10 1 (F_X8_refuse S)), (89, xi_wV S 10 1 (F_X8_answer S))] 83 [.ref a0, .int a1] m = _
  refine Eq.trans (b := xi_calls [(83, xi_wV S 10 1 (F_X8_refuse S)), (89, xi_wV S 10 1 (F_X8_answer S))] 83 [.ref a0, .int a1] m) (xi_calls_miss rfl) ?_
  refine Eq.trans (b := xi_wV S 10 1 (F_X8_refuse S) [.ref a0, .int a1] m) (xi_calls_hit rfl) ?_
  exact xi_wV_eq rfl
theorem cc_X8_at_89 (S : xi_S) (a0 : Nat) (a1 : Int32) (m : xi_M) : (P_X8_at S).2.2.2.2.2.2.2.1 89 [.ref a0, .int a1] m = (if S.1 a0 = 10 then E_X8_answer S a0 a1 m else none) := by
  show xi_calls [(79, xi_wV S 9 1 (F_X7_findingAt S)), (83, xi_wV S 10 1 (F_X8_refuse S)), (89, xi_wV S 10 1 (F_X8_answer S))] 89 [.ref a0, .int a1] m = _
  refine Eq.trans (b := xi_calls [(83, xi_wV S 10 1 (F_X8_refuse S)), (89, xi_wV S 10 1 (F_X8_answer S))] 89 [.ref a0, .int a1] m) (xi_calls_miss rfl) ?_
  refine Eq.trans (b := xi_calls [(89, xi_wV S 10 1 (F_X8_answer S))] 89 [.ref a0, .int a1] m) (xi_calls_miss rfl) ?_
  refine Eq.trans (b := xi_wV S 10 1 (F_X8_answer S) [.ref a0, .int a1] m) (xi_calls_hit rfl) ?_
  exact xi_wV_eq rfl
def E_X8_at (S : xi_S) (v0 : Nat) (v1 : Int32) (v2 : Int32) (m : xi_M) : Option xi_R :=
  xi_bI (E_X8_within S v1 (Int32.ofInt 5) m) fun x2 m1 =>
  if x2 = 0 then
    some (some (.int (Int32.ofInt (-1))), m1)
  else
    if S.1 v0 = 10 then (S.2.2 v0 0).bind fun b4 =>
      if (S.1 b4 = 1 ∨ S.1 b4 = 2) ∧ ¬ (v1 < 0 ∨ S.2.1 b4 ≤ Int32.toNatClampNeg v1) then (S.2.2 b4 (Int32.toNatClampNeg v1)).bind fun b6 =>
        xi_bI (if S.1 b6 = 9 then E_X7_findingAt S b6 v2 m1 else none) fun x8 m7 =>
        if x8 = 0 then
          if S.1 v0 = 10 then (S.2.2 v0 0).bind fun b10 =>
            if (S.1 b10 = 1 ∨ S.1 b10 = 2) ∧ ¬ (v1 < 0 ∨ S.2.1 b10 ≤ Int32.toNatClampNeg v1) then (S.2.2 b10 (Int32.toNatClampNeg v1)).bind fun b12 =>
              if S.1 b12 = 9 then (S.2.2 b12 2).bind fun b14 =>
                if S.1 b14 = 0 ∧ ¬ (v2 < 0 ∨ S.2.1 b14 ≤ Int32.toNatClampNeg v2) then
                  xi_bI (if S.1 v0 = 10 then E_X8_answer S v0 (m7.1 b14 (Int32.toNatClampNeg v2)) m7 else none) fun x17 m16 =>
                  some (some (.int x17), m16)
                else none
              else none
            else none
          else none
        else
          xi_bI (if S.1 v0 = 10 then E_X8_refuse S v0 x8 m7 else none) fun x19 m18 =>
          some (some (.int x19), m18)
      else none
    else none
def F_X8_at (S : xi_S) : xi_F := fun As m => match As with
  | [.ref v0, .int v1, .int v2] => E_X8_at S v0 v1 v2 m
  | _ => none
set_option maxRecDepth 100000 in
set_option maxHeartbeats 4000000 in
theorem xe_X8_at {S : xi_S} {res : xi_R} (v0 : Nat) (v1 : Int32) (v2 : Int32) (m : xi_M) (h : E_X8_at S v0 v1 v2 m = some res) : xi_X S (P_X8_at S) (0, [some (.ref v0), some (.int v1), some (.int v2), none], [], m) res := by
  unfold E_X8_at at h
  refine xr_iload_n i_X8_at_0 rfl (q := 1) rfl ?_
  refine xr_iconst i_X8_at_1 (q := 2) rfl ?_
  obtain ⟨x2, m1, em1, h⟩ := xi_bI_some h
  refine xr_SI i_X8_at_2 xcse_X8_71 rfl (As := [.int v1, .int (Int32.ofInt 5)]) rfl (rest := []) rfl ((cc_X8_at_71 S _ _ _).trans em1) (q := 5) rfl ?_
  by_cases c21 : x2 = 0
  · replace h := (if_pos c21).symm.trans h
    refine xr_ifCond_ne_p i_X8_at_5 c21 (q := 10) t_X8_at_5 (q2 := 8) rfl ?_
    refine xr_iconst i_X8_at_8 (q := 9) rfl ?_
    exact xr_ireturn i_X8_at_9 rfl h
  · replace h := (if_neg c21).symm.trans h
    refine xr_ifCond_ne_n i_X8_at_5 c21 (q := 10) t_X8_at_5 (q2 := 8) rfl ?_
    refine xr_aload_n i_X8_at_10 rfl (q := 11) rfl ?_
    obtain ⟨c3, h⟩ := xi_if_some h
    obtain ⟨b4, eb4, h⟩ := xi_bind_some h
    refine xr_getR i_X8_at_11 xfe_X8_11 c3 eb4 (q := 14) rfl ?_
    refine xr_iload_n i_X8_at_14 rfl (q := 15) rfl ?_
    obtain ⟨c5, h⟩ := xi_if_some h
    obtain ⟨b6, eb6, h⟩ := xi_bind_some h
    refine xr_aaload i_X8_at_15 c5 eb6 (q := 16) rfl ?_
    refine xr_iload_n i_X8_at_16 rfl (q := 17) rfl ?_
    obtain ⟨x8, m7, em7, h⟩ := xi_bI_some h
    refine xr_VI i_X8_at_17 xcve_X8_79 rfl (As := [.ref b6, .int v2]) rfl (rest := []) rfl ((cc_X8_at_79 S _ _ _).trans em7) (q := 20) rfl ?_
    refine xr_istore_n i_X8_at_20 rfl (L2 := [some (.ref v0), some (.int v1), some (.int v2), some (.int x8)]) rfl (q := 21) rfl ?_
    refine xr_iload_n i_X8_at_21 rfl (q := 22) rfl ?_
    by_cases c20 : x8 = 0
    · replace h := (if_pos c20).symm.trans h
      refine xr_ifCond_eq_p i_X8_at_22 c20 (q := 31) t_X8_at_22 (q2 := 25) rfl ?_
      refine xr_aload_n i_X8_at_31 rfl (q := 32) rfl ?_
      refine xr_aload_n i_X8_at_32 rfl (q := 33) rfl ?_
      obtain ⟨c9, h⟩ := xi_if_some h
      obtain ⟨b10, eb10, h⟩ := xi_bind_some h
      refine xr_getR i_X8_at_33 xfe_X8_11 c9 eb10 (q := 36) rfl ?_
      refine xr_iload_n i_X8_at_36 rfl (q := 37) rfl ?_
      obtain ⟨c11, h⟩ := xi_if_some h
      obtain ⟨b12, eb12, h⟩ := xi_bind_some h
      refine xr_aaload i_X8_at_37 c11 eb12 (q := 38) rfl ?_
      obtain ⟨c13, h⟩ := xi_if_some h
      obtain ⟨b14, eb14, h⟩ := xi_bind_some h
      refine xr_getR i_X8_at_38 xfe_X8_86 c13 eb14 (q := 41) rfl ?_
      refine xr_iload_n i_X8_at_41 rfl (q := 42) rfl ?_
      obtain ⟨c15, h⟩ := xi_if_some h
      refine xr_iaload i_X8_at_42 c15 (q := 43) rfl ?_
      obtain ⟨x17, m16, em16, h⟩ := xi_bI_some h
      refine xr_VI i_X8_at_43 xcve_X8_89 rfl (As := [.ref v0, .int (m7.1 b14 (Int32.toNatClampNeg v2))]) rfl (rest := []) rfl ((cc_X8_at_89 S _ _ _).trans em16) (q := 46) rfl ?_
      exact xr_ireturn i_X8_at_46 rfl h
    · replace h := (if_neg c20).symm.trans h
      refine xr_ifCond_eq_n i_X8_at_22 c20 (q := 31) t_X8_at_22 (q2 := 25) rfl ?_
      refine xr_aload_n i_X8_at_25 rfl (q := 26) rfl ?_
      refine xr_iload_n i_X8_at_26 rfl (q := 27) rfl ?_
      obtain ⟨x19, m18, em18, h⟩ := xi_bI_some h
      refine xr_VI i_X8_at_27 xcve_X8_83 rfl (As := [.ref v0, .int x8]) rfl (rest := []) rfl ((cc_X8_at_83 S _ _ _).trans em18) (q := 30) rfl ?_
      exact xr_ireturn i_X8_at_30 rfl h
set_option maxRecDepth 100000 in
theorem po_X8_at {l : Launch} {E : xi_E} {S : xi_S} {D : va_G} {tys : List (ClassId × FieldType)} (hC : xCx E S tys) : xi_Pok l E S D vwCl tys xNs RX8 xTs cX8_at 4 1 (P_X8_at S) := ⟨xi_dc_ok, by rw [hC.2]; exact xfo_X8, xkio_X8, xklo_X8, xi_calls_ok (ins := .invokestatic) (List.forall_mem_cons.mpr ⟨(xc_X8_71 (sn_X8_within hC) (by decide)), fun _ h => absurd h List.not_mem_nil⟩), xi_calls_ok (ins := .invokevirtual) (List.forall_mem_cons.mpr ⟨(xc_X8_79 hC.1 (sn_X7_findingAt hC) (by decide)), List.forall_mem_cons.mpr ⟨(xc_X8_83 hC.1 (sn_X8_refuse hC) (by decide)), List.forall_mem_cons.mpr ⟨(xc_X8_89 hC.1 (sn_X8_answer hC) (by decide)), fun _ h => absurd h List.not_mem_nil⟩⟩⟩)⟩
theorem sn_X8_at {l : Launch} {E : xi_E} {S : xi_S} {D : va_G} {tys : List (ClassId × FieldType)} (hC : xCx E S tys) : ∀ As m1 r m2, F_X8_at S As m1 = some (r, m2) → xi_Sound l E S D vwCl tys xNs xTs yX8_at cX8_at 4 (some .int) 1 As m1 r m2 := by
  intro As m1 r m2 h
  unfold F_X8_at at h
  split at h
  · exact xi_meth (P := P_X8_at S) (by decide) hC.1 (po_X8_at hC) (Nat.le_of_ble_eq_true rfl) rfl (xe_X8_at _ _ _ _ h)
  · exact xi_no h
theorem i_X8_tear_0 : xi_dc cX8_tear 0 = some (.iload_n 1, 1) := by decide +kernel
theorem i_X8_tear_1 : xi_dc cX8_tear 1 = some (.iconst 5, 1) := by decide +kernel
theorem i_X8_tear_2 : xi_dc cX8_tear 2 = some (.invokestatic 71, 3) := by decide +kernel
theorem i_X8_tear_5 : xi_dc cX8_tear 5 = some (.ifCond .ne 5, 3) := by decide +kernel
theorem t_X8_tear_5 : ((5 : Nat) : Int) + 5 = ((10 : Nat) : Int) := by decide +kernel
theorem i_X8_tear_8 : xi_dc cX8_tear 8 = some (.iconst (-1), 1) := by decide +kernel
theorem i_X8_tear_9 : xi_dc cX8_tear 9 = some (.ireturn, 1) := by decide +kernel
theorem i_X8_tear_10 : xi_dc cX8_tear 10 = some (.aload_n 0, 1) := by decide +kernel
theorem i_X8_tear_11 : xi_dc cX8_tear 11 = some (.getfield 11, 3) := by decide +kernel
theorem i_X8_tear_14 : xi_dc cX8_tear 14 = some (.iload_n 1, 1) := by decide +kernel
theorem i_X8_tear_15 : xi_dc cX8_tear 15 = some (.aaload, 1) := by decide +kernel
theorem i_X8_tear_16 : xi_dc cX8_tear 16 = some (.getfield 92, 3) := by decide +kernel
theorem i_X8_tear_19 : xi_dc cX8_tear 19 = some (.ifCond .ne 9, 3) := by decide +kernel
theorem t_X8_tear_19 : ((19 : Nat) : Int) + 9 = ((28 : Nat) : Int) := by decide +kernel
theorem i_X8_tear_22 : xi_dc cX8_tear 22 = some (.aload_n 0, 1) := by decide +kernel
theorem i_X8_tear_23 : xi_dc cX8_tear 23 = some (.iconst 1, 1) := by decide +kernel
theorem i_X8_tear_24 : xi_dc cX8_tear 24 = some (.invokevirtual 83, 3) := by decide +kernel
theorem i_X8_tear_27 : xi_dc cX8_tear 27 = some (.ireturn, 1) := by decide +kernel
theorem i_X8_tear_28 : xi_dc cX8_tear 28 = some (.aload_n 0, 1) := by decide +kernel
theorem i_X8_tear_29 : xi_dc cX8_tear 29 = some (.getfield 11, 3) := by decide +kernel
theorem i_X8_tear_32 : xi_dc cX8_tear 32 = some (.iload_n 1, 1) := by decide +kernel
theorem i_X8_tear_33 : xi_dc cX8_tear 33 = some (.aaload, 1) := by decide +kernel
theorem i_X8_tear_34 : xi_dc cX8_tear 34 = some (.iconst 0, 1) := by decide +kernel
theorem i_X8_tear_35 : xi_dc cX8_tear 35 = some (.putfield 92, 3) := by decide +kernel
theorem i_X8_tear_38 : xi_dc cX8_tear 38 = some (.iconst 1, 1) := by decide +kernel
theorem i_X8_tear_39 : xi_dc cX8_tear 39 = some (.ireturn, 1) := by decide +kernel
def P_X8_tear (S : xi_S) : xi_P := (xi_dc cX8_tear, xi_tab xfl_X8, xi_tab xki_X8, xi_tab xkl_X8, xi_tab xcs_X8, xi_tab xcv_X8, xi_calls [(71, xi_wS 2 (F_X8_within S))], xi_calls [(83, xi_wV S 10 1 (F_X8_refuse S))], 1)
theorem cc_X8_tear_71 (S : xi_S) (a0 : Int32) (a1 : Int32) (m : xi_M) : (P_X8_tear S).2.2.2.2.2.2.1 71 [.int a0, .int a1] m = (E_X8_within S a0 a1 m) := by
  show xi_calls [(71, xi_wS 2 (F_X8_within S))] 71 [.int a0, .int a1] m = _
  refine Eq.trans (b := xi_wS 2 (F_X8_within S) [.int a0, .int a1] m) (xi_calls_hit rfl) ?_
  exact xi_wS_eq rfl
theorem cc_X8_tear_83 (S : xi_S) (a0 : Nat) (a1 : Int32) (m : xi_M) : (P_X8_tear S).2.2.2.2.2.2.2.1 83 [.ref a0, .int a1] m = (if S.1 a0 = 10 then E_X8_refuse S a0 a1 m else none) := by
  show xi_calls [(83, xi_wV S 10 1 (F_X8_refuse S))] 83 [.ref a0, .int a1] m = _
  refine Eq.trans (b := xi_wV S 10 1 (F_X8_refuse S) [.ref a0, .int a1] m) (xi_calls_hit rfl) ?_
  exact xi_wV_eq rfl
def E_X8_tear (S : xi_S) (v0 : Nat) (v1 : Int32) (m : xi_M) : Option xi_R :=
  xi_bI (E_X8_within S v1 (Int32.ofInt 5) m) fun x2 m1 =>
  if x2 = 0 then
    some (some (.int (Int32.ofInt (-1))), m1)
  else
    if S.1 v0 = 10 then (S.2.2 v0 0).bind fun b4 =>
      if (S.1 b4 = 1 ∨ S.1 b4 = 2) ∧ ¬ (v1 < 0 ∨ S.2.1 b4 ≤ Int32.toNatClampNeg v1) then (S.2.2 b4 (Int32.toNatClampNeg v1)).bind fun b6 =>
        if S.1 b6 = 9 then
          if (m1.1 b6 0) = 0 then
            xi_bI (if S.1 v0 = 10 then E_X8_refuse S v0 (Int32.ofInt 1) m1 else none) fun x14 m13 =>
            some (some (.int x14), m13)
          else
            if S.1 v0 = 10 then (S.2.2 v0 0).bind fun b9 =>
              if (S.1 b9 = 1 ∨ S.1 b9 = 2) ∧ ¬ (v1 < 0 ∨ S.2.1 b9 ≤ Int32.toNatClampNeg v1) then (S.2.2 b9 (Int32.toNatClampNeg v1)).bind fun b11 =>
                if S.1 b11 = 9 ∧ ((Int32.ofInt 0) = 0 ∨ (Int32.ofInt 0) = 1) then
                  some (some (.int (Int32.ofInt 1)), (xi_wI m1 b11 0 (Int32.ofInt 0)))
                else none
              else none
            else none
        else none
      else none
    else none
def F_X8_tear (S : xi_S) : xi_F := fun As m => match As with
  | [.ref v0, .int v1] => E_X8_tear S v0 v1 m
  | _ => none
set_option maxRecDepth 100000 in
set_option maxHeartbeats 4000000 in
theorem xe_X8_tear {S : xi_S} {res : xi_R} (v0 : Nat) (v1 : Int32) (m : xi_M) (h : E_X8_tear S v0 v1 m = some res) : xi_X S (P_X8_tear S) (0, [some (.ref v0), some (.int v1)], [], m) res := by
  unfold E_X8_tear at h
  refine xr_iload_n i_X8_tear_0 rfl (q := 1) rfl ?_
  refine xr_iconst i_X8_tear_1 (q := 2) rfl ?_
  obtain ⟨x2, m1, em1, h⟩ := xi_bI_some h
  refine xr_SI i_X8_tear_2 xcse_X8_71 rfl (As := [.int v1, .int (Int32.ofInt 5)]) rfl (rest := []) rfl ((cc_X8_tear_71 S _ _ _).trans em1) (q := 5) rfl ?_
  by_cases c16 : x2 = 0
  · replace h := (if_pos c16).symm.trans h
    refine xr_ifCond_ne_p i_X8_tear_5 c16 (q := 10) t_X8_tear_5 (q2 := 8) rfl ?_
    refine xr_iconst i_X8_tear_8 (q := 9) rfl ?_
    exact xr_ireturn i_X8_tear_9 rfl h
  · replace h := (if_neg c16).symm.trans h
    refine xr_ifCond_ne_n i_X8_tear_5 c16 (q := 10) t_X8_tear_5 (q2 := 8) rfl ?_
    refine xr_aload_n i_X8_tear_10 rfl (q := 11) rfl ?_
    obtain ⟨c3, h⟩ := xi_if_some h
    obtain ⟨b4, eb4, h⟩ := xi_bind_some h
    refine xr_getR i_X8_tear_11 xfe_X8_11 c3 eb4 (q := 14) rfl ?_
    refine xr_iload_n i_X8_tear_14 rfl (q := 15) rfl ?_
    obtain ⟨c5, h⟩ := xi_if_some h
    obtain ⟨b6, eb6, h⟩ := xi_bind_some h
    refine xr_aaload i_X8_tear_15 c5 eb6 (q := 16) rfl ?_
    obtain ⟨c7, h⟩ := xi_if_some h
    refine xr_getZ i_X8_tear_16 xfe_X8_92 c7 (q := 19) rfl ?_
    by_cases c15 : (m1.1 b6 0) = 0
    · replace h := (if_pos c15).symm.trans h
      refine xr_ifCond_ne_p i_X8_tear_19 c15 (q := 28) t_X8_tear_19 (q2 := 22) rfl ?_
      refine xr_aload_n i_X8_tear_22 rfl (q := 23) rfl ?_
      refine xr_iconst i_X8_tear_23 (q := 24) rfl ?_
      obtain ⟨x14, m13, em13, h⟩ := xi_bI_some h
      refine xr_VI i_X8_tear_24 xcve_X8_83 rfl (As := [.ref v0, .int (Int32.ofInt 1)]) rfl (rest := []) rfl ((cc_X8_tear_83 S _ _ _).trans em13) (q := 27) rfl ?_
      exact xr_ireturn i_X8_tear_27 rfl h
    · replace h := (if_neg c15).symm.trans h
      refine xr_ifCond_ne_n i_X8_tear_19 c15 (q := 28) t_X8_tear_19 (q2 := 22) rfl ?_
      refine xr_aload_n i_X8_tear_28 rfl (q := 29) rfl ?_
      obtain ⟨c8, h⟩ := xi_if_some h
      obtain ⟨b9, eb9, h⟩ := xi_bind_some h
      refine xr_getR i_X8_tear_29 xfe_X8_11 c8 eb9 (q := 32) rfl ?_
      refine xr_iload_n i_X8_tear_32 rfl (q := 33) rfl ?_
      obtain ⟨c10, h⟩ := xi_if_some h
      obtain ⟨b11, eb11, h⟩ := xi_bind_some h
      refine xr_aaload i_X8_tear_33 c10 eb11 (q := 34) rfl ?_
      refine xr_iconst i_X8_tear_34 (q := 35) rfl ?_
      obtain ⟨c12, h⟩ := xi_if_some h
      refine xr_putZ i_X8_tear_35 xfe_X8_92 c12 (q := 38) rfl ?_
      refine xr_iconst i_X8_tear_38 (q := 39) rfl ?_
      exact xr_ireturn i_X8_tear_39 rfl h
set_option maxRecDepth 100000 in
theorem po_X8_tear {l : Launch} {E : xi_E} {S : xi_S} {D : va_G} {tys : List (ClassId × FieldType)} (hC : xCx E S tys) : xi_Pok l E S D vwCl tys xNs RX8 xTs cX8_tear 2 1 (P_X8_tear S) := ⟨xi_dc_ok, by rw [hC.2]; exact xfo_X8, xkio_X8, xklo_X8, xi_calls_ok (ins := .invokestatic) (List.forall_mem_cons.mpr ⟨(xc_X8_71 (sn_X8_within hC) (by decide)), fun _ h => absurd h List.not_mem_nil⟩), xi_calls_ok (ins := .invokevirtual) (List.forall_mem_cons.mpr ⟨(xc_X8_83 hC.1 (sn_X8_refuse hC) (by decide)), fun _ h => absurd h List.not_mem_nil⟩)⟩
theorem sn_X8_tear {l : Launch} {E : xi_E} {S : xi_S} {D : va_G} {tys : List (ClassId × FieldType)} (hC : xCx E S tys) : ∀ As m1 r m2, F_X8_tear S As m1 = some (r, m2) → xi_Sound l E S D vwCl tys xNs xTs yX8_tear cX8_tear 2 (some .int) 1 As m1 r m2 := by
  intro As m1 r m2 h
  unfold F_X8_tear at h
  split at h
  · exact xi_meth (P := P_X8_tear S) (by decide) hC.1 (po_X8_tear hC) (Nat.le_of_ble_eq_true rfl) rfl (xe_X8_tear _ _ _ h)
  · exact xi_no h
theorem i_X8_copy_0 : xi_dc cX8_copy 0 = some (.iload_n 1, 1) := by decide +kernel
theorem i_X8_copy_1 : xi_dc cX8_copy 1 = some (.iconst 5, 1) := by decide +kernel
theorem i_X8_copy_2 : xi_dc cX8_copy 2 = some (.invokestatic 71, 3) := by decide +kernel
theorem i_X8_copy_5 : xi_dc cX8_copy 5 = some (.ifCond .eq 11, 3) := by decide +kernel
theorem t_X8_copy_5 : ((5 : Nat) : Int) + 11 = ((16 : Nat) : Int) := by decide +kernel
theorem i_X8_copy_8 : xi_dc cX8_copy 8 = some (.iload_n 3, 1) := by decide +kernel
theorem i_X8_copy_9 : xi_dc cX8_copy 9 = some (.iconst 5, 1) := by decide +kernel
theorem i_X8_copy_10 : xi_dc cX8_copy 10 = some (.invokestatic 71, 3) := by decide +kernel
theorem i_X8_copy_13 : xi_dc cX8_copy 13 = some (.ifCond .ne 5, 3) := by decide +kernel
theorem t_X8_copy_13 : ((13 : Nat) : Int) + 5 = ((18 : Nat) : Int) := by decide +kernel
theorem i_X8_copy_16 : xi_dc cX8_copy 16 = some (.iconst (-1), 1) := by decide +kernel
theorem i_X8_copy_17 : xi_dc cX8_copy 17 = some (.ireturn, 1) := by decide +kernel
theorem i_X8_copy_18 : xi_dc cX8_copy 18 = some (.iload 5, 2) := by decide +kernel
theorem i_X8_copy_20 : xi_dc cX8_copy 20 = some (.ifCond .ge 9, 3) := by decide +kernel
theorem t_X8_copy_20 : ((20 : Nat) : Int) + 9 = ((29 : Nat) : Int) := by decide +kernel
theorem i_X8_copy_23 : xi_dc cX8_copy 23 = some (.aload_n 0, 1) := by decide +kernel
theorem i_X8_copy_24 : xi_dc cX8_copy 24 = some (.iconst 5, 1) := by decide +kernel
theorem i_X8_copy_25 : xi_dc cX8_copy 25 = some (.invokevirtual 83, 3) := by decide +kernel
theorem i_X8_copy_28 : xi_dc cX8_copy 28 = some (.ireturn, 1) := by decide +kernel
theorem i_X8_copy_29 : xi_dc cX8_copy 29 = some (.aload_n 0, 1) := by decide +kernel
theorem i_X8_copy_30 : xi_dc cX8_copy 30 = some (.getfield 11, 3) := by decide +kernel
theorem i_X8_copy_33 : xi_dc cX8_copy 33 = some (.iload_n 1, 1) := by decide +kernel
theorem i_X8_copy_34 : xi_dc cX8_copy 34 = some (.aaload, 1) := by decide +kernel
theorem i_X8_copy_35 : xi_dc cX8_copy 35 = some (.getfield 92, 3) := by decide +kernel
theorem i_X8_copy_38 : xi_dc cX8_copy 38 = some (.ifCond .eq 15, 3) := by decide +kernel
theorem t_X8_copy_38 : ((38 : Nat) : Int) + 15 = ((53 : Nat) : Int) := by decide +kernel
theorem i_X8_copy_41 : xi_dc cX8_copy 41 = some (.aload_n 0, 1) := by decide +kernel
theorem i_X8_copy_42 : xi_dc cX8_copy 42 = some (.getfield 11, 3) := by decide +kernel
theorem i_X8_copy_45 : xi_dc cX8_copy 45 = some (.iload_n 3, 1) := by decide +kernel
theorem i_X8_copy_46 : xi_dc cX8_copy 46 = some (.aaload, 1) := by decide +kernel
theorem i_X8_copy_47 : xi_dc cX8_copy 47 = some (.getfield 92, 3) := by decide +kernel
theorem i_X8_copy_50 : xi_dc cX8_copy 50 = some (.ifCond .ne 9, 3) := by decide +kernel
theorem t_X8_copy_50 : ((50 : Nat) : Int) + 9 = ((59 : Nat) : Int) := by decide +kernel
theorem i_X8_copy_53 : xi_dc cX8_copy 53 = some (.aload_n 0, 1) := by decide +kernel
theorem i_X8_copy_54 : xi_dc cX8_copy 54 = some (.iconst 1, 1) := by decide +kernel
theorem i_X8_copy_55 : xi_dc cX8_copy 55 = some (.invokevirtual 83, 3) := by decide +kernel
theorem i_X8_copy_58 : xi_dc cX8_copy 58 = some (.ireturn, 1) := by decide +kernel
theorem i_X8_copy_59 : xi_dc cX8_copy 59 = some (.aload_n 0, 1) := by decide +kernel
theorem i_X8_copy_60 : xi_dc cX8_copy 60 = some (.getfield 11, 3) := by decide +kernel
theorem i_X8_copy_63 : xi_dc cX8_copy 63 = some (.iload_n 1, 1) := by decide +kernel
theorem i_X8_copy_64 : xi_dc cX8_copy 64 = some (.aaload, 1) := by decide +kernel
theorem i_X8_copy_65 : xi_dc cX8_copy 65 = some (.iload_n 2, 1) := by decide +kernel
theorem i_X8_copy_66 : xi_dc cX8_copy 66 = some (.iload 5, 2) := by decide +kernel
theorem i_X8_copy_68 : xi_dc cX8_copy 68 = some (.invokevirtual 96, 3) := by decide +kernel
theorem i_X8_copy_71 : xi_dc cX8_copy 71 = some (.ifCond .eq 19, 3) := by decide +kernel
theorem t_X8_copy_71 : ((71 : Nat) : Int) + 19 = ((90 : Nat) : Int) := by decide +kernel
theorem i_X8_copy_74 : xi_dc cX8_copy 74 = some (.aload_n 0, 1) := by decide +kernel
theorem i_X8_copy_75 : xi_dc cX8_copy 75 = some (.getfield 11, 3) := by decide +kernel
theorem i_X8_copy_78 : xi_dc cX8_copy 78 = some (.iload_n 3, 1) := by decide +kernel
theorem i_X8_copy_79 : xi_dc cX8_copy 79 = some (.aaload, 1) := by decide +kernel
theorem i_X8_copy_80 : xi_dc cX8_copy 80 = some (.iload 4, 2) := by decide +kernel
theorem i_X8_copy_82 : xi_dc cX8_copy 82 = some (.iload 5, 2) := by decide +kernel
theorem i_X8_copy_84 : xi_dc cX8_copy 84 = some (.invokevirtual 96, 3) := by decide +kernel
theorem i_X8_copy_87 : xi_dc cX8_copy 87 = some (.ifCond .ne 9, 3) := by decide +kernel
theorem t_X8_copy_87 : ((87 : Nat) : Int) + 9 = ((96 : Nat) : Int) := by decide +kernel
theorem i_X8_copy_90 : xi_dc cX8_copy 90 = some (.aload_n 0, 1) := by decide +kernel
theorem i_X8_copy_91 : xi_dc cX8_copy 91 = some (.iconst 2, 1) := by decide +kernel
theorem i_X8_copy_92 : xi_dc cX8_copy 92 = some (.invokevirtual 83, 3) := by decide +kernel
theorem i_X8_copy_95 : xi_dc cX8_copy 95 = some (.ireturn, 1) := by decide +kernel
theorem i_X8_copy_96 : xi_dc cX8_copy 96 = some (.aload_n 0, 1) := by decide +kernel
theorem i_X8_copy_97 : xi_dc cX8_copy 97 = some (.getfield 11, 3) := by decide +kernel
theorem i_X8_copy_100 : xi_dc cX8_copy 100 = some (.iload_n 1, 1) := by decide +kernel
theorem i_X8_copy_101 : xi_dc cX8_copy 101 = some (.aaload, 1) := by decide +kernel
theorem i_X8_copy_102 : xi_dc cX8_copy 102 = some (.getfield 86, 3) := by decide +kernel
theorem i_X8_copy_105 : xi_dc cX8_copy 105 = some (.iload_n 2, 1) := by decide +kernel
theorem i_X8_copy_106 : xi_dc cX8_copy 106 = some (.aload_n 0, 1) := by decide +kernel
theorem i_X8_copy_107 : xi_dc cX8_copy 107 = some (.getfield 11, 3) := by decide +kernel
theorem i_X8_copy_110 : xi_dc cX8_copy 110 = some (.iload_n 3, 1) := by decide +kernel
theorem i_X8_copy_111 : xi_dc cX8_copy 111 = some (.aaload, 1) := by decide +kernel
theorem i_X8_copy_112 : xi_dc cX8_copy 112 = some (.getfield 86, 3) := by decide +kernel
theorem i_X8_copy_115 : xi_dc cX8_copy 115 = some (.iload 4, 2) := by decide +kernel
theorem i_X8_copy_117 : xi_dc cX8_copy 117 = some (.iload 5, 2) := by decide +kernel
theorem i_X8_copy_119 : xi_dc cX8_copy 119 = some (.invokestatic 99, 3) := by decide +kernel
theorem i_X8_copy_122 : xi_dc cX8_copy 122 = some (.iconst 1, 1) := by decide +kernel
theorem i_X8_copy_123 : xi_dc cX8_copy 123 = some (.ireturn, 1) := by decide +kernel
def P_X8_copy (S : xi_S) : xi_P := (xi_dc cX8_copy, xi_tab xfl_X8, xi_tab xki_X8, xi_tab xkl_X8, xi_tab xcs_X8, xi_tab xcv_X8, xi_calls [(71, xi_wS 2 (F_X8_within S)), (99, xi_wS 5 (F_arraycopy S))], xi_calls [(83, xi_wV S 10 1 (F_X8_refuse S)), (96, xi_wV S 9 2 (F_X7_holds S))], 1)
theorem cc_X8_copy_71 (S : xi_S) (a0 : Int32) (a1 : Int32) (m : xi_M) : (P_X8_copy S).2.2.2.2.2.2.1 71 [.int a0, .int a1] m = (E_X8_within S a0 a1 m) := by
  show xi_calls [(71, xi_wS 2 (F_X8_within S)), (99, xi_wS 5 (F_arraycopy S))] 71 [.int a0, .int a1] m = _
  refine Eq.trans (b := xi_wS 2 (F_X8_within S) [.int a0, .int a1] m) (xi_calls_hit rfl) ?_
  exact xi_wS_eq rfl
theorem cc_X8_copy_99 (S : xi_S) (a0 : Nat) (a1 : Int32) (a2 : Nat) (a3 : Int32) (a4 : Int32) (m : xi_M) : (P_X8_copy S).2.2.2.2.2.2.1 99 [.ref a0, .int a1, .ref a2, .int a3, .int a4] m = (F_arraycopy S [.ref a0, .int a1, .ref a2, .int a3, .int a4] m) := by
  show xi_calls [(71, xi_wS 2 (F_X8_within S)), (99, xi_wS 5 (F_arraycopy S))] 99 [.ref a0, .int a1, .ref a2, .int a3, .int a4] m = _
  refine Eq.trans (b := xi_calls [(99, xi_wS 5 (F_arraycopy S))] 99 [.ref a0, .int a1, .ref a2, .int a3, .int a4] m) (xi_calls_miss rfl) ?_
  refine Eq.trans (b := xi_wS 5 (F_arraycopy S) [.ref a0, .int a1, .ref a2, .int a3, .int a4] m) (xi_calls_hit rfl) ?_
  exact xi_wS_eq rfl
theorem cc_X8_copy_83 (S : xi_S) (a0 : Nat) (a1 : Int32) (m : xi_M) : (P_X8_copy S).2.2.2.2.2.2.2.1 83 [.ref a0, .int a1] m = (if S.1 a0 = 10 then E_X8_refuse S a0 a1 m else none) := by
  show xi_calls [(83, xi_wV S 10 1 (F_X8_refuse S)), (96, xi_wV S 9 2 (F_X7_holds S))] 83 [.ref a0, .int a1] m = _
  refine Eq.trans (b := xi_wV S 10 1 (F_X8_refuse S) [.ref a0, .int a1] m) (xi_calls_hit rfl) ?_
  exact xi_wV_eq rfl
theorem cc_X8_copy_96 (S : xi_S) (a0 : Nat) (a1 : Int32) (a2 : Int32) (m : xi_M) : (P_X8_copy S).2.2.2.2.2.2.2.1 96 [.ref a0, .int a1, .int a2] m = (if S.1 a0 = 9 then E_X7_holds S a0 a1 a2 m else none) := by
  show xi_calls [(83, xi_wV S 10 1 (F_X8_refuse S)), (96, xi_wV S 9 2 (F_X7_holds S))] 96 [.ref a0, .int a1, .int a2] m = _
  refine Eq.trans (b := xi_calls [(96, xi_wV S 9 2 (F_X7_holds S))] 96 [.ref a0, .int a1, .int a2] m) (xi_calls_miss rfl) ?_
  refine Eq.trans (b := xi_wV S 9 2 (F_X7_holds S) [.ref a0, .int a1, .int a2] m) (xi_calls_hit rfl) ?_
  exact xi_wV_eq rfl
def E_X8_copy (S : xi_S) (v0 : Nat) (v1 : Int32) (v2 : Int32) (v3 : Int32) (v4 : Int32) (v5 : Int32) (m : xi_M) : Option xi_R :=
  xi_bI (E_X8_within S v1 (Int32.ofInt 5) m) fun x2 m1 =>
  if x2 = 0 then
    some (some (.int (Int32.ofInt (-1))), m1)
  else
    xi_bI (E_X8_within S v3 (Int32.ofInt 5) m1) fun x4 m3 =>
    if x4 = 0 then
      some (some (.int (Int32.ofInt (-1))), m3)
    else
      if 0 ≤ v5 then
        if S.1 v0 = 10 then (S.2.2 v0 0).bind fun b6 =>
          if (S.1 b6 = 1 ∨ S.1 b6 = 2) ∧ ¬ (v1 < 0 ∨ S.2.1 b6 ≤ Int32.toNatClampNeg v1) then (S.2.2 b6 (Int32.toNatClampNeg v1)).bind fun b8 =>
            if S.1 b8 = 9 then
              if (m3.1 b8 0) = 0 then
                xi_bI (if S.1 v0 = 10 then E_X8_refuse S v0 (Int32.ofInt 1) m3 else none) fun x11 m10 =>
                some (some (.int x11), m10)
              else
                if S.1 v0 = 10 then (S.2.2 v0 0).bind fun b13 =>
                  if (S.1 b13 = 1 ∨ S.1 b13 = 2) ∧ ¬ (v3 < 0 ∨ S.2.1 b13 ≤ Int32.toNatClampNeg v3) then (S.2.2 b13 (Int32.toNatClampNeg v3)).bind fun b15 =>
                    if S.1 b15 = 9 then
                      if (m3.1 b15 0) = 0 then
                        xi_bI (if S.1 v0 = 10 then E_X8_refuse S v0 (Int32.ofInt 1) m3 else none) fun x49 m48 =>
                        some (some (.int x49), m48)
                      else
                        if S.1 v0 = 10 then (S.2.2 v0 0).bind fun b18 =>
                          if (S.1 b18 = 1 ∨ S.1 b18 = 2) ∧ ¬ (v1 < 0 ∨ S.2.1 b18 ≤ Int32.toNatClampNeg v1) then (S.2.2 b18 (Int32.toNatClampNeg v1)).bind fun b20 =>
                            xi_bI (if S.1 b20 = 9 then E_X7_holds S b20 v2 v5 m3 else none) fun x22 m21 =>
                            if x22 = 0 then
                              xi_bI (if S.1 v0 = 10 then E_X8_refuse S v0 (Int32.ofInt 2) m21 else none) fun x24 m23 =>
                              some (some (.int x24), m23)
                            else
                              if S.1 v0 = 10 then (S.2.2 v0 0).bind fun b26 =>
                                if (S.1 b26 = 1 ∨ S.1 b26 = 2) ∧ ¬ (v3 < 0 ∨ S.2.1 b26 ≤ Int32.toNatClampNeg v3) then (S.2.2 b26 (Int32.toNatClampNeg v3)).bind fun b28 =>
                                  xi_bI (if S.1 b28 = 9 then E_X7_holds S b28 v4 v5 m21 else none) fun x30 m29 =>
                                  if x30 = 0 then
                                    xi_bI (if S.1 v0 = 10 then E_X8_refuse S v0 (Int32.ofInt 2) m29 else none) fun x45 m44 =>
                                    some (some (.int x45), m44)
                                  else
                                    if S.1 v0 = 10 then (S.2.2 v0 0).bind fun b32 =>
                                      if (S.1 b32 = 1 ∨ S.1 b32 = 2) ∧ ¬ (v1 < 0 ∨ S.2.1 b32 ≤ Int32.toNatClampNeg v1) then (S.2.2 b32 (Int32.toNatClampNeg v1)).bind fun b34 =>
                                        if S.1 b34 = 9 then (S.2.2 b34 2).bind fun b36 =>
                                          if S.1 v0 = 10 then (S.2.2 v0 0).bind fun b38 =>
                                            if (S.1 b38 = 1 ∨ S.1 b38 = 2) ∧ ¬ (v3 < 0 ∨ S.2.1 b38 ≤ Int32.toNatClampNeg v3) then (S.2.2 b38 (Int32.toNatClampNeg v3)).bind fun b40 =>
                                              if S.1 b40 = 9 then (S.2.2 b40 2).bind fun b42 =>
                                                xi_bV (F_arraycopy S [.ref b36, .int v2, .ref b42, .int v4, .int v5] m29) fun m43 =>
                                                some (some (.int (Int32.ofInt 1)), m43)
                                              else none
                                            else none
                                          else none
                                        else none
                                      else none
                                    else none
                                else none
                              else none
                          else none
                        else none
                    else none
                  else none
                else none
            else none
          else none
        else none
      else
        xi_bI (if S.1 v0 = 10 then E_X8_refuse S v0 (Int32.ofInt 5) m3 else none) fun x53 m52 =>
        some (some (.int x53), m52)
def F_X8_copy (S : xi_S) : xi_F := fun As m => match As with
  | [.ref v0, .int v1, .int v2, .int v3, .int v4, .int v5] => E_X8_copy S v0 v1 v2 v3 v4 v5 m
  | _ => none
set_option maxRecDepth 100000 in
set_option maxHeartbeats 4000000 in
theorem xe_X8_copy {S : xi_S} {res : xi_R} (v0 : Nat) (v1 : Int32) (v2 : Int32) (v3 : Int32) (v4 : Int32) (v5 : Int32) (m : xi_M) (h : E_X8_copy S v0 v1 v2 v3 v4 v5 m = some res) : xi_X S (P_X8_copy S) (0, [some (.ref v0), some (.int v1), some (.int v2), some (.int v3), some (.int v4), some (.int v5)], [], m) res := by
  unfold E_X8_copy at h
  refine xr_iload_n i_X8_copy_0 rfl (q := 1) rfl ?_
  refine xr_iconst i_X8_copy_1 (q := 2) rfl ?_
  obtain ⟨x2, m1, em1, h⟩ := xi_bI_some h
  refine xr_SI i_X8_copy_2 xcse_X8_71 rfl (As := [.int v1, .int (Int32.ofInt 5)]) rfl (rest := []) rfl ((cc_X8_copy_71 S _ _ _).trans em1) (q := 5) rfl ?_
  by_cases c56 : x2 = 0
  · replace h := (if_pos c56).symm.trans h
    refine xr_ifCond_eq_p i_X8_copy_5 c56 (q := 16) t_X8_copy_5 (q2 := 8) rfl ?_
    refine xr_iconst i_X8_copy_16 (q := 17) rfl ?_
    exact xr_ireturn i_X8_copy_17 rfl h
  · replace h := (if_neg c56).symm.trans h
    refine xr_ifCond_eq_n i_X8_copy_5 c56 (q := 16) t_X8_copy_5 (q2 := 8) rfl ?_
    refine xr_iload_n i_X8_copy_8 rfl (q := 9) rfl ?_
    refine xr_iconst i_X8_copy_9 (q := 10) rfl ?_
    obtain ⟨x4, m3, em3, h⟩ := xi_bI_some h
    refine xr_SI i_X8_copy_10 xcse_X8_71 rfl (As := [.int v3, .int (Int32.ofInt 5)]) rfl (rest := []) rfl ((cc_X8_copy_71 S _ _ _).trans em3) (q := 13) rfl ?_
    by_cases c55 : x4 = 0
    · replace h := (if_pos c55).symm.trans h
      refine xr_ifCond_ne_p i_X8_copy_13 c55 (q := 18) t_X8_copy_13 (q2 := 16) rfl ?_
      refine xr_iconst i_X8_copy_16 (q := 17) rfl ?_
      exact xr_ireturn i_X8_copy_17 rfl h
    · replace h := (if_neg c55).symm.trans h
      refine xr_ifCond_ne_n i_X8_copy_13 c55 (q := 18) t_X8_copy_13 (q2 := 16) rfl ?_
      refine xr_iload i_X8_copy_18 rfl (q := 20) rfl ?_
      by_cases c54 : 0 ≤ v5
      · replace h := (if_pos c54).symm.trans h
        refine xr_ifCond_ge_p i_X8_copy_20 c54 (q := 29) t_X8_copy_20 (q2 := 23) rfl ?_
        refine xr_aload_n i_X8_copy_29 rfl (q := 30) rfl ?_
        obtain ⟨c5, h⟩ := xi_if_some h
        obtain ⟨b6, eb6, h⟩ := xi_bind_some h
        refine xr_getR i_X8_copy_30 xfe_X8_11 c5 eb6 (q := 33) rfl ?_
        refine xr_iload_n i_X8_copy_33 rfl (q := 34) rfl ?_
        obtain ⟨c7, h⟩ := xi_if_some h
        obtain ⟨b8, eb8, h⟩ := xi_bind_some h
        refine xr_aaload i_X8_copy_34 c7 eb8 (q := 35) rfl ?_
        obtain ⟨c9, h⟩ := xi_if_some h
        refine xr_getZ i_X8_copy_35 xfe_X8_92 c9 (q := 38) rfl ?_
        by_cases c51 : (m3.1 b8 0) = 0
        · replace h := (if_pos c51).symm.trans h
          refine xr_ifCond_eq_p i_X8_copy_38 c51 (q := 53) t_X8_copy_38 (q2 := 41) rfl ?_
          refine xr_aload_n i_X8_copy_53 rfl (q := 54) rfl ?_
          refine xr_iconst i_X8_copy_54 (q := 55) rfl ?_
          obtain ⟨x11, m10, em10, h⟩ := xi_bI_some h
          refine xr_VI i_X8_copy_55 xcve_X8_83 rfl (As := [.ref v0, .int (Int32.ofInt 1)]) rfl (rest := []) rfl ((cc_X8_copy_83 S _ _ _).trans em10) (q := 58) rfl ?_
          exact xr_ireturn i_X8_copy_58 rfl h
        · replace h := (if_neg c51).symm.trans h
          refine xr_ifCond_eq_n i_X8_copy_38 c51 (q := 53) t_X8_copy_38 (q2 := 41) rfl ?_
          refine xr_aload_n i_X8_copy_41 rfl (q := 42) rfl ?_
          obtain ⟨c12, h⟩ := xi_if_some h
          obtain ⟨b13, eb13, h⟩ := xi_bind_some h
          refine xr_getR i_X8_copy_42 xfe_X8_11 c12 eb13 (q := 45) rfl ?_
          refine xr_iload_n i_X8_copy_45 rfl (q := 46) rfl ?_
          obtain ⟨c14, h⟩ := xi_if_some h
          obtain ⟨b15, eb15, h⟩ := xi_bind_some h
          refine xr_aaload i_X8_copy_46 c14 eb15 (q := 47) rfl ?_
          obtain ⟨c16, h⟩ := xi_if_some h
          refine xr_getZ i_X8_copy_47 xfe_X8_92 c16 (q := 50) rfl ?_
          by_cases c50 : (m3.1 b15 0) = 0
          · replace h := (if_pos c50).symm.trans h
            refine xr_ifCond_ne_p i_X8_copy_50 c50 (q := 59) t_X8_copy_50 (q2 := 53) rfl ?_
            refine xr_aload_n i_X8_copy_53 rfl (q := 54) rfl ?_
            refine xr_iconst i_X8_copy_54 (q := 55) rfl ?_
            obtain ⟨x49, m48, em48, h⟩ := xi_bI_some h
            refine xr_VI i_X8_copy_55 xcve_X8_83 rfl (As := [.ref v0, .int (Int32.ofInt 1)]) rfl (rest := []) rfl ((cc_X8_copy_83 S _ _ _).trans em48) (q := 58) rfl ?_
            exact xr_ireturn i_X8_copy_58 rfl h
          · replace h := (if_neg c50).symm.trans h
            refine xr_ifCond_ne_n i_X8_copy_50 c50 (q := 59) t_X8_copy_50 (q2 := 53) rfl ?_
            refine xr_aload_n i_X8_copy_59 rfl (q := 60) rfl ?_
            obtain ⟨c17, h⟩ := xi_if_some h
            obtain ⟨b18, eb18, h⟩ := xi_bind_some h
            refine xr_getR i_X8_copy_60 xfe_X8_11 c17 eb18 (q := 63) rfl ?_
            refine xr_iload_n i_X8_copy_63 rfl (q := 64) rfl ?_
            obtain ⟨c19, h⟩ := xi_if_some h
            obtain ⟨b20, eb20, h⟩ := xi_bind_some h
            refine xr_aaload i_X8_copy_64 c19 eb20 (q := 65) rfl ?_
            refine xr_iload_n i_X8_copy_65 rfl (q := 66) rfl ?_
            refine xr_iload i_X8_copy_66 rfl (q := 68) rfl ?_
            obtain ⟨x22, m21, em21, h⟩ := xi_bI_some h
            refine xr_VI i_X8_copy_68 xcve_X8_96 rfl (As := [.ref b20, .int v2, .int v5]) rfl (rest := []) rfl ((cc_X8_copy_96 S _ _ _ _).trans em21) (q := 71) rfl ?_
            by_cases c47 : x22 = 0
            · replace h := (if_pos c47).symm.trans h
              refine xr_ifCond_eq_p i_X8_copy_71 c47 (q := 90) t_X8_copy_71 (q2 := 74) rfl ?_
              refine xr_aload_n i_X8_copy_90 rfl (q := 91) rfl ?_
              refine xr_iconst i_X8_copy_91 (q := 92) rfl ?_
              obtain ⟨x24, m23, em23, h⟩ := xi_bI_some h
              refine xr_VI i_X8_copy_92 xcve_X8_83 rfl (As := [.ref v0, .int (Int32.ofInt 2)]) rfl (rest := []) rfl ((cc_X8_copy_83 S _ _ _).trans em23) (q := 95) rfl ?_
              exact xr_ireturn i_X8_copy_95 rfl h
            · replace h := (if_neg c47).symm.trans h
              refine xr_ifCond_eq_n i_X8_copy_71 c47 (q := 90) t_X8_copy_71 (q2 := 74) rfl ?_
              refine xr_aload_n i_X8_copy_74 rfl (q := 75) rfl ?_
              obtain ⟨c25, h⟩ := xi_if_some h
              obtain ⟨b26, eb26, h⟩ := xi_bind_some h
              refine xr_getR i_X8_copy_75 xfe_X8_11 c25 eb26 (q := 78) rfl ?_
              refine xr_iload_n i_X8_copy_78 rfl (q := 79) rfl ?_
              obtain ⟨c27, h⟩ := xi_if_some h
              obtain ⟨b28, eb28, h⟩ := xi_bind_some h
              refine xr_aaload i_X8_copy_79 c27 eb28 (q := 80) rfl ?_
              refine xr_iload i_X8_copy_80 rfl (q := 82) rfl ?_
              refine xr_iload i_X8_copy_82 rfl (q := 84) rfl ?_
              obtain ⟨x30, m29, em29, h⟩ := xi_bI_some h
              refine xr_VI i_X8_copy_84 xcve_X8_96 rfl (As := [.ref b28, .int v4, .int v5]) rfl (rest := []) rfl ((cc_X8_copy_96 S _ _ _ _).trans em29) (q := 87) rfl ?_
              by_cases c46 : x30 = 0
              · replace h := (if_pos c46).symm.trans h
                refine xr_ifCond_ne_p i_X8_copy_87 c46 (q := 96) t_X8_copy_87 (q2 := 90) rfl ?_
                refine xr_aload_n i_X8_copy_90 rfl (q := 91) rfl ?_
                refine xr_iconst i_X8_copy_91 (q := 92) rfl ?_
                obtain ⟨x45, m44, em44, h⟩ := xi_bI_some h
                refine xr_VI i_X8_copy_92 xcve_X8_83 rfl (As := [.ref v0, .int (Int32.ofInt 2)]) rfl (rest := []) rfl ((cc_X8_copy_83 S _ _ _).trans em44) (q := 95) rfl ?_
                exact xr_ireturn i_X8_copy_95 rfl h
              · replace h := (if_neg c46).symm.trans h
                refine xr_ifCond_ne_n i_X8_copy_87 c46 (q := 96) t_X8_copy_87 (q2 := 90) rfl ?_
                refine xr_aload_n i_X8_copy_96 rfl (q := 97) rfl ?_
                obtain ⟨c31, h⟩ := xi_if_some h
                obtain ⟨b32, eb32, h⟩ := xi_bind_some h
                refine xr_getR i_X8_copy_97 xfe_X8_11 c31 eb32 (q := 100) rfl ?_
                refine xr_iload_n i_X8_copy_100 rfl (q := 101) rfl ?_
                obtain ⟨c33, h⟩ := xi_if_some h
                obtain ⟨b34, eb34, h⟩ := xi_bind_some h
                refine xr_aaload i_X8_copy_101 c33 eb34 (q := 102) rfl ?_
                obtain ⟨c35, h⟩ := xi_if_some h
                obtain ⟨b36, eb36, h⟩ := xi_bind_some h
                refine xr_getR i_X8_copy_102 xfe_X8_86 c35 eb36 (q := 105) rfl ?_
                refine xr_iload_n i_X8_copy_105 rfl (q := 106) rfl ?_
                refine xr_aload_n i_X8_copy_106 rfl (q := 107) rfl ?_
                obtain ⟨c37, h⟩ := xi_if_some h
                obtain ⟨b38, eb38, h⟩ := xi_bind_some h
                refine xr_getR i_X8_copy_107 xfe_X8_11 c37 eb38 (q := 110) rfl ?_
                refine xr_iload_n i_X8_copy_110 rfl (q := 111) rfl ?_
                obtain ⟨c39, h⟩ := xi_if_some h
                obtain ⟨b40, eb40, h⟩ := xi_bind_some h
                refine xr_aaload i_X8_copy_111 c39 eb40 (q := 112) rfl ?_
                obtain ⟨c41, h⟩ := xi_if_some h
                obtain ⟨b42, eb42, h⟩ := xi_bind_some h
                refine xr_getR i_X8_copy_112 xfe_X8_86 c41 eb42 (q := 115) rfl ?_
                refine xr_iload i_X8_copy_115 rfl (q := 117) rfl ?_
                refine xr_iload i_X8_copy_117 rfl (q := 119) rfl ?_
                obtain ⟨m43, em43, h⟩ := xi_bV_some h
                refine xr_SV i_X8_copy_119 xcse_X8_99 rfl (As := [.ref b36, .int v2, .ref b42, .int v4, .int v5]) rfl (rest := []) rfl ((cc_X8_copy_99 S _ _ _ _ _ _).trans em43) (q := 122) rfl ?_
                refine xr_iconst i_X8_copy_122 (q := 123) rfl ?_
                exact xr_ireturn i_X8_copy_123 rfl h
      · replace h := (if_neg c54).symm.trans h
        refine xr_ifCond_ge_n i_X8_copy_20 c54 (q := 29) t_X8_copy_20 (q2 := 23) rfl ?_
        refine xr_aload_n i_X8_copy_23 rfl (q := 24) rfl ?_
        refine xr_iconst i_X8_copy_24 (q := 25) rfl ?_
        obtain ⟨x53, m52, em52, h⟩ := xi_bI_some h
        refine xr_VI i_X8_copy_25 xcve_X8_83 rfl (As := [.ref v0, .int (Int32.ofInt 5)]) rfl (rest := []) rfl ((cc_X8_copy_83 S _ _ _).trans em52) (q := 28) rfl ?_
        exact xr_ireturn i_X8_copy_28 rfl h
set_option maxRecDepth 100000 in
theorem po_X8_copy {l : Launch} {E : xi_E} {S : xi_S} {D : va_G} {tys : List (ClassId × FieldType)} (hC : xCx E S tys) : xi_Pok l E S D vwCl tys xNs RX8 xTs cX8_copy 6 1 (P_X8_copy S) := ⟨xi_dc_ok, by rw [hC.2]; exact xfo_X8, xkio_X8, xklo_X8, xi_calls_ok (ins := .invokestatic) (List.forall_mem_cons.mpr ⟨(xc_X8_71 (sn_X8_within hC) (by decide)), List.forall_mem_cons.mpr ⟨(xc_X8_99 hC.1 (by decide)), fun _ h => absurd h List.not_mem_nil⟩⟩), xi_calls_ok (ins := .invokevirtual) (List.forall_mem_cons.mpr ⟨(xc_X8_83 hC.1 (sn_X8_refuse hC) (by decide)), List.forall_mem_cons.mpr ⟨(xc_X8_96 hC.1 (sn_X7_holds hC) (by decide)), fun _ h => absurd h List.not_mem_nil⟩⟩)⟩
theorem sn_X8_copy {l : Launch} {E : xi_E} {S : xi_S} {D : va_G} {tys : List (ClassId × FieldType)} (hC : xCx E S tys) : ∀ As m1 r m2, F_X8_copy S As m1 = some (r, m2) → xi_Sound l E S D vwCl tys xNs xTs yX8_copy cX8_copy 6 (some .int) 1 As m1 r m2 := by
  intro As m1 r m2 h
  unfold F_X8_copy at h
  split at h
  · exact xi_meth (P := P_X8_copy S) (by decide) hC.1 (po_X8_copy hC) (Nat.le_of_ble_eq_true rfl) rfl (xe_X8_copy _ _ _ _ _ _ _ h)
  · exact xi_no h
theorem i_X8_mean_0 : xi_dc cX8_mean 0 = some (.iload_n 1, 1) := by decide +kernel
theorem i_X8_mean_1 : xi_dc cX8_mean 1 = some (.iconst 5, 1) := by decide +kernel
theorem i_X8_mean_2 : xi_dc cX8_mean 2 = some (.invokestatic 71, 3) := by decide +kernel
theorem i_X8_mean_5 : xi_dc cX8_mean 5 = some (.ifCond .ne 5, 3) := by decide +kernel
theorem t_X8_mean_5 : ((5 : Nat) : Int) + 5 = ((10 : Nat) : Int) := by decide +kernel
theorem i_X8_mean_8 : xi_dc cX8_mean 8 = some (.iconst (-1), 1) := by decide +kernel
theorem i_X8_mean_9 : xi_dc cX8_mean 9 = some (.ireturn, 1) := by decide +kernel
theorem i_X8_mean_10 : xi_dc cX8_mean 10 = some (.aload_n 0, 1) := by decide +kernel
theorem i_X8_mean_11 : xi_dc cX8_mean 11 = some (.getfield 11, 3) := by decide +kernel
theorem i_X8_mean_14 : xi_dc cX8_mean 14 = some (.iload_n 1, 1) := by decide +kernel
theorem i_X8_mean_15 : xi_dc cX8_mean 15 = some (.aaload, 1) := by decide +kernel
theorem i_X8_mean_16 : xi_dc cX8_mean 16 = some (.getfield 92, 3) := by decide +kernel
theorem i_X8_mean_19 : xi_dc cX8_mean 19 = some (.ifCond .ne 9, 3) := by decide +kernel
theorem t_X8_mean_19 : ((19 : Nat) : Int) + 9 = ((28 : Nat) : Int) := by decide +kernel
theorem i_X8_mean_22 : xi_dc cX8_mean 22 = some (.aload_n 0, 1) := by decide +kernel
theorem i_X8_mean_23 : xi_dc cX8_mean 23 = some (.iconst 1, 1) := by decide +kernel
theorem i_X8_mean_24 : xi_dc cX8_mean 24 = some (.invokevirtual 83, 3) := by decide +kernel
theorem i_X8_mean_27 : xi_dc cX8_mean 27 = some (.ireturn, 1) := by decide +kernel
theorem i_X8_mean_28 : xi_dc cX8_mean 28 = some (.aload_n 0, 1) := by decide +kernel
theorem i_X8_mean_29 : xi_dc cX8_mean 29 = some (.getfield 11, 3) := by decide +kernel
theorem i_X8_mean_32 : xi_dc cX8_mean 32 = some (.iload_n 1, 1) := by decide +kernel
theorem i_X8_mean_33 : xi_dc cX8_mean 33 = some (.aaload, 1) := by decide +kernel
theorem i_X8_mean_34 : xi_dc cX8_mean 34 = some (.getfield 105, 3) := by decide +kernel
theorem i_X8_mean_37 : xi_dc cX8_mean 37 = some (.ifCond .ne 9, 3) := by decide +kernel
theorem t_X8_mean_37 : ((37 : Nat) : Int) + 9 = ((46 : Nat) : Int) := by decide +kernel
theorem i_X8_mean_40 : xi_dc cX8_mean 40 = some (.aload_n 0, 1) := by decide +kernel
theorem i_X8_mean_41 : xi_dc cX8_mean 41 = some (.iconst 4, 1) := by decide +kernel
theorem i_X8_mean_42 : xi_dc cX8_mean 42 = some (.invokevirtual 83, 3) := by decide +kernel
theorem i_X8_mean_45 : xi_dc cX8_mean 45 = some (.ireturn, 1) := by decide +kernel
theorem i_X8_mean_46 : xi_dc cX8_mean 46 = some (.aload_n 0, 1) := by decide +kernel
theorem i_X8_mean_47 : xi_dc cX8_mean 47 = some (.aload_n 0, 1) := by decide +kernel
theorem i_X8_mean_48 : xi_dc cX8_mean 48 = some (.getfield 11, 3) := by decide +kernel
theorem i_X8_mean_51 : xi_dc cX8_mean 51 = some (.iload_n 1, 1) := by decide +kernel
theorem i_X8_mean_52 : xi_dc cX8_mean 52 = some (.aaload, 1) := by decide +kernel
theorem i_X8_mean_53 : xi_dc cX8_mean 53 = some (.invokevirtual 109, 3) := by decide +kernel
theorem i_X8_mean_56 : xi_dc cX8_mean 56 = some (.aload_n 0, 1) := by decide +kernel
theorem i_X8_mean_57 : xi_dc cX8_mean 57 = some (.getfield 11, 3) := by decide +kernel
theorem i_X8_mean_60 : xi_dc cX8_mean 60 = some (.iload_n 1, 1) := by decide +kernel
theorem i_X8_mean_61 : xi_dc cX8_mean 61 = some (.aaload, 1) := by decide +kernel
theorem i_X8_mean_62 : xi_dc cX8_mean 62 = some (.getfield 105, 3) := by decide +kernel
theorem i_X8_mean_65 : xi_dc cX8_mean 65 = some (.i2l, 1) := by decide +kernel
theorem i_X8_mean_66 : xi_dc cX8_mean 66 = some (.ldiv, 1) := by decide +kernel
theorem i_X8_mean_67 : xi_dc cX8_mean 67 = some (.l2i, 1) := by decide +kernel
theorem i_X8_mean_68 : xi_dc cX8_mean 68 = some (.invokevirtual 89, 3) := by decide +kernel
theorem i_X8_mean_71 : xi_dc cX8_mean 71 = some (.ireturn, 1) := by decide +kernel
def P_X8_mean (S : xi_S) : xi_P := (xi_dc cX8_mean, xi_tab xfl_X8, xi_tab xki_X8, xi_tab xkl_X8, xi_tab xcs_X8, xi_tab xcv_X8, xi_calls [(71, xi_wS 2 (F_X8_within S))], xi_calls [(83, xi_wV S 10 1 (F_X8_refuse S)), (89, xi_wV S 10 1 (F_X8_answer S)), (109, xi_wV S 9 0 (F_X7_sum S))], 1)
theorem cc_X8_mean_71 (S : xi_S) (a0 : Int32) (a1 : Int32) (m : xi_M) : (P_X8_mean S).2.2.2.2.2.2.1 71 [.int a0, .int a1] m = (E_X8_within S a0 a1 m) := by
  show xi_calls [(71, xi_wS 2 (F_X8_within S))] 71 [.int a0, .int a1] m = _
  refine Eq.trans (b := xi_wS 2 (F_X8_within S) [.int a0, .int a1] m) (xi_calls_hit rfl) ?_
  exact xi_wS_eq rfl
theorem cc_X8_mean_83 (S : xi_S) (a0 : Nat) (a1 : Int32) (m : xi_M) : (P_X8_mean S).2.2.2.2.2.2.2.1 83 [.ref a0, .int a1] m = (if S.1 a0 = 10 then E_X8_refuse S a0 a1 m else none) := by
  show xi_calls [(83, xi_wV S 10 1 (F_X8_refuse S)), (89, xi_wV S 10 1 (F_X8_answer S)), (109, xi_wV S 9 0 (F_X7_sum S))] 83 [.ref a0, .int a1] m = _
  refine Eq.trans (b := xi_wV S 10 1 (F_X8_refuse S) [.ref a0, .int a1] m) (xi_calls_hit rfl) ?_
  exact xi_wV_eq rfl
theorem cc_X8_mean_89 (S : xi_S) (a0 : Nat) (a1 : Int32) (m : xi_M) : (P_X8_mean S).2.2.2.2.2.2.2.1 89 [.ref a0, .int a1] m = (if S.1 a0 = 10 then E_X8_answer S a0 a1 m else none) := by
  show xi_calls [(83, xi_wV S 10 1 (F_X8_refuse S)), (89, xi_wV S 10 1 (F_X8_answer S)), (109, xi_wV S 9 0 (F_X7_sum S))] 89 [.ref a0, .int a1] m = _
  refine Eq.trans (b := xi_calls [(89, xi_wV S 10 1 (F_X8_answer S)), (109, xi_wV S 9 0 (F_X7_sum S))] 89 [.ref a0, .int a1] m) (xi_calls_miss rfl) ?_
  refine Eq.trans (b := xi_wV S 10 1 (F_X8_answer S) [.ref a0, .int a1] m) (xi_calls_hit rfl) ?_
  exact xi_wV_eq rfl
theorem cc_X8_mean_109 (S : xi_S) (a0 : Nat) (m : xi_M) : (P_X8_mean S).2.2.2.2.2.2.2.1 109 [.ref a0] m = (if S.1 a0 = 9 then E_X7_sum S a0 m else none) := by
  show xi_calls [(83, xi_wV S 10 1 (F_X8_refuse S)), (89, xi_wV S 10 1 (F_X8_answer S)), (109, xi_wV S 9 0 (F_X7_sum S))] 109 [.ref a0] m = _
  refine Eq.trans (b := xi_calls [(89, xi_wV S 10 1 (F_X8_answer S)), (109, xi_wV S 9 0 (F_X7_sum S))] 109 [.ref a0] m) (xi_calls_miss rfl) ?_
  refine Eq.trans (b := xi_calls [(109, xi_wV S 9 0 (F_X7_sum S))] 109 [.ref a0] m) (xi_calls_miss rfl) ?_
  refine Eq.trans (b := xi_wV S 9 0 (F_X7_sum S) [.ref a0] m) (xi_calls_hit rfl) ?_
  exact xi_wV_eq rfl
def E_X8_mean (S : xi_S) (v0 : Nat) (v1 : Int32) (m : xi_M) : Option xi_R :=
  xi_bI (E_X8_within S v1 (Int32.ofInt 5) m) fun x2 m1 =>
  if x2 = 0 then
    some (some (.int (Int32.ofInt (-1))), m1)
  else
    if S.1 v0 = 10 then (S.2.2 v0 0).bind fun b4 =>
      if (S.1 b4 = 1 ∨ S.1 b4 = 2) ∧ ¬ (v1 < 0 ∨ S.2.1 b4 ≤ Int32.toNatClampNeg v1) then (S.2.2 b4 (Int32.toNatClampNeg v1)).bind fun b6 =>
        if S.1 b6 = 9 then
          if (m1.1 b6 0) = 0 then
            xi_bI (if S.1 v0 = 10 then E_X8_refuse S v0 (Int32.ofInt 1) m1 else none) fun x31 m30 =>
            some (some (.int x31), m30)
          else
            if S.1 v0 = 10 then (S.2.2 v0 0).bind fun b9 =>
              if (S.1 b9 = 1 ∨ S.1 b9 = 2) ∧ ¬ (v1 < 0 ∨ S.2.1 b9 ≤ Int32.toNatClampNeg v1) then (S.2.2 b9 (Int32.toNatClampNeg v1)).bind fun b11 =>
                if S.1 b11 = 9 then
                  if (m1.1 b11 1) = 0 then
                    xi_bI (if S.1 v0 = 10 then E_X8_refuse S v0 (Int32.ofInt 4) m1 else none) fun x28 m27 =>
                    some (some (.int x28), m27)
                  else
                    if S.1 v0 = 10 then (S.2.2 v0 0).bind fun b14 =>
                      if (S.1 b14 = 1 ∨ S.1 b14 = 2) ∧ ¬ (v1 < 0 ∨ S.2.1 b14 ≤ Int32.toNatClampNeg v1) then (S.2.2 b14 (Int32.toNatClampNeg v1)).bind fun b16 =>
                        xi_bJ (if S.1 b16 = 9 then E_X7_sum S b16 m1 else none) fun x18 m17 =>
                        if S.1 v0 = 10 then (S.2.2 v0 0).bind fun b20 =>
                          if (S.1 b20 = 1 ∨ S.1 b20 = 2) ∧ ¬ (v1 < 0 ∨ S.2.1 b20 ≤ Int32.toNatClampNeg v1) then (S.2.2 b20 (Int32.toNatClampNeg v1)).bind fun b22 =>
                            if S.1 b22 = 9 then
                              if (Int32.toInt64 (m17.1 b22 1)) = 0 then none else
                              xi_bI (if S.1 v0 = 10 then E_X8_answer S v0 (Int64.toInt32 (x18 / (Int32.toInt64 (m17.1 b22 1)))) m17 else none) fun x26 m25 =>
                              some (some (.int x26), m25)
                            else none
                          else none
                        else none
                      else none
                    else none
                else none
              else none
            else none
        else none
      else none
    else none
def F_X8_mean (S : xi_S) : xi_F := fun As m => match As with
  | [.ref v0, .int v1] => E_X8_mean S v0 v1 m
  | _ => none
set_option maxRecDepth 100000 in
set_option maxHeartbeats 4000000 in
theorem xe_X8_mean {S : xi_S} {res : xi_R} (v0 : Nat) (v1 : Int32) (m : xi_M) (h : E_X8_mean S v0 v1 m = some res) : xi_X S (P_X8_mean S) (0, [some (.ref v0), some (.int v1)], [], m) res := by
  unfold E_X8_mean at h
  refine xr_iload_n i_X8_mean_0 rfl (q := 1) rfl ?_
  refine xr_iconst i_X8_mean_1 (q := 2) rfl ?_
  obtain ⟨x2, m1, em1, h⟩ := xi_bI_some h
  refine xr_SI i_X8_mean_2 xcse_X8_71 rfl (As := [.int v1, .int (Int32.ofInt 5)]) rfl (rest := []) rfl ((cc_X8_mean_71 S _ _ _).trans em1) (q := 5) rfl ?_
  by_cases c33 : x2 = 0
  · replace h := (if_pos c33).symm.trans h
    refine xr_ifCond_ne_p i_X8_mean_5 c33 (q := 10) t_X8_mean_5 (q2 := 8) rfl ?_
    refine xr_iconst i_X8_mean_8 (q := 9) rfl ?_
    exact xr_ireturn i_X8_mean_9 rfl h
  · replace h := (if_neg c33).symm.trans h
    refine xr_ifCond_ne_n i_X8_mean_5 c33 (q := 10) t_X8_mean_5 (q2 := 8) rfl ?_
    refine xr_aload_n i_X8_mean_10 rfl (q := 11) rfl ?_
    obtain ⟨c3, h⟩ := xi_if_some h
    obtain ⟨b4, eb4, h⟩ := xi_bind_some h
    refine xr_getR i_X8_mean_11 xfe_X8_11 c3 eb4 (q := 14) rfl ?_
    refine xr_iload_n i_X8_mean_14 rfl (q := 15) rfl ?_
    obtain ⟨c5, h⟩ := xi_if_some h
    obtain ⟨b6, eb6, h⟩ := xi_bind_some h
    refine xr_aaload i_X8_mean_15 c5 eb6 (q := 16) rfl ?_
    obtain ⟨c7, h⟩ := xi_if_some h
    refine xr_getZ i_X8_mean_16 xfe_X8_92 c7 (q := 19) rfl ?_
    by_cases c32 : (m1.1 b6 0) = 0
    · replace h := (if_pos c32).symm.trans h
      refine xr_ifCond_ne_p i_X8_mean_19 c32 (q := 28) t_X8_mean_19 (q2 := 22) rfl ?_
      refine xr_aload_n i_X8_mean_22 rfl (q := 23) rfl ?_
      refine xr_iconst i_X8_mean_23 (q := 24) rfl ?_
      obtain ⟨x31, m30, em30, h⟩ := xi_bI_some h
      refine xr_VI i_X8_mean_24 xcve_X8_83 rfl (As := [.ref v0, .int (Int32.ofInt 1)]) rfl (rest := []) rfl ((cc_X8_mean_83 S _ _ _).trans em30) (q := 27) rfl ?_
      exact xr_ireturn i_X8_mean_27 rfl h
    · replace h := (if_neg c32).symm.trans h
      refine xr_ifCond_ne_n i_X8_mean_19 c32 (q := 28) t_X8_mean_19 (q2 := 22) rfl ?_
      refine xr_aload_n i_X8_mean_28 rfl (q := 29) rfl ?_
      obtain ⟨c8, h⟩ := xi_if_some h
      obtain ⟨b9, eb9, h⟩ := xi_bind_some h
      refine xr_getR i_X8_mean_29 xfe_X8_11 c8 eb9 (q := 32) rfl ?_
      refine xr_iload_n i_X8_mean_32 rfl (q := 33) rfl ?_
      obtain ⟨c10, h⟩ := xi_if_some h
      obtain ⟨b11, eb11, h⟩ := xi_bind_some h
      refine xr_aaload i_X8_mean_33 c10 eb11 (q := 34) rfl ?_
      obtain ⟨c12, h⟩ := xi_if_some h
      refine xr_getI i_X8_mean_34 xfe_X8_105 c12 (q := 37) rfl ?_
      by_cases c29 : (m1.1 b11 1) = 0
      · replace h := (if_pos c29).symm.trans h
        refine xr_ifCond_ne_p i_X8_mean_37 c29 (q := 46) t_X8_mean_37 (q2 := 40) rfl ?_
        refine xr_aload_n i_X8_mean_40 rfl (q := 41) rfl ?_
        refine xr_iconst i_X8_mean_41 (q := 42) rfl ?_
        obtain ⟨x28, m27, em27, h⟩ := xi_bI_some h
        refine xr_VI i_X8_mean_42 xcve_X8_83 rfl (As := [.ref v0, .int (Int32.ofInt 4)]) rfl (rest := []) rfl ((cc_X8_mean_83 S _ _ _).trans em27) (q := 45) rfl ?_
        exact xr_ireturn i_X8_mean_45 rfl h
      · replace h := (if_neg c29).symm.trans h
        refine xr_ifCond_ne_n i_X8_mean_37 c29 (q := 46) t_X8_mean_37 (q2 := 40) rfl ?_
        refine xr_aload_n i_X8_mean_46 rfl (q := 47) rfl ?_
        refine xr_aload_n i_X8_mean_47 rfl (q := 48) rfl ?_
        obtain ⟨c13, h⟩ := xi_if_some h
        obtain ⟨b14, eb14, h⟩ := xi_bind_some h
        refine xr_getR i_X8_mean_48 xfe_X8_11 c13 eb14 (q := 51) rfl ?_
        refine xr_iload_n i_X8_mean_51 rfl (q := 52) rfl ?_
        obtain ⟨c15, h⟩ := xi_if_some h
        obtain ⟨b16, eb16, h⟩ := xi_bind_some h
        refine xr_aaload i_X8_mean_52 c15 eb16 (q := 53) rfl ?_
        obtain ⟨x18, m17, em17, h⟩ := xi_bJ_some h
        refine xr_VJ i_X8_mean_53 xcve_X8_109 rfl (As := [.ref b16]) rfl (rest := [.ref v0]) rfl ((cc_X8_mean_109 S _ _).trans em17) (q := 56) rfl ?_
        refine xr_aload_n i_X8_mean_56 rfl (q := 57) rfl ?_
        obtain ⟨c19, h⟩ := xi_if_some h
        obtain ⟨b20, eb20, h⟩ := xi_bind_some h
        refine xr_getR i_X8_mean_57 xfe_X8_11 c19 eb20 (q := 60) rfl ?_
        refine xr_iload_n i_X8_mean_60 rfl (q := 61) rfl ?_
        obtain ⟨c21, h⟩ := xi_if_some h
        obtain ⟨b22, eb22, h⟩ := xi_bind_some h
        refine xr_aaload i_X8_mean_61 c21 eb22 (q := 62) rfl ?_
        obtain ⟨c23, h⟩ := xi_if_some h
        refine xr_getI i_X8_mean_62 xfe_X8_105 c23 (q := 65) rfl ?_
        refine xr_i2l i_X8_mean_65 (q := 66) rfl ?_
        obtain ⟨c24, h⟩ := xi_ifn_some h
        refine xr_ldiv i_X8_mean_66 c24 (q := 67) rfl ?_
        refine xr_l2i i_X8_mean_67 (q := 68) rfl ?_
        obtain ⟨x26, m25, em25, h⟩ := xi_bI_some h
        refine xr_VI i_X8_mean_68 xcve_X8_89 rfl (As := [.ref v0, .int (Int64.toInt32 (x18 / (Int32.toInt64 (m17.1 b22 1))))]) rfl (rest := []) rfl ((cc_X8_mean_89 S _ _ _).trans em25) (q := 71) rfl ?_
        exact xr_ireturn i_X8_mean_71 rfl h
set_option maxRecDepth 100000 in
theorem po_X8_mean {l : Launch} {E : xi_E} {S : xi_S} {D : va_G} {tys : List (ClassId × FieldType)} (hC : xCx E S tys) : xi_Pok l E S D vwCl tys xNs RX8 xTs cX8_mean 2 1 (P_X8_mean S) := ⟨xi_dc_ok, by rw [hC.2]; exact xfo_X8, xkio_X8, xklo_X8, xi_calls_ok (ins := .invokestatic) (List.forall_mem_cons.mpr ⟨(xc_X8_71 (sn_X8_within hC) (by decide)), fun _ h => absurd h List.not_mem_nil⟩), xi_calls_ok (ins := .invokevirtual) (List.forall_mem_cons.mpr ⟨(xc_X8_83 hC.1 (sn_X8_refuse hC) (by decide)), List.forall_mem_cons.mpr ⟨(xc_X8_89 hC.1 (sn_X8_answer hC) (by decide)), List.forall_mem_cons.mpr ⟨(xc_X8_109 hC.1 (sn_X7_sum hC) (by decide)), fun _ h => absurd h List.not_mem_nil⟩⟩⟩)⟩
theorem sn_X8_mean {l : Launch} {E : xi_E} {S : xi_S} {D : va_G} {tys : List (ClassId × FieldType)} (hC : xCx E S tys) : ∀ As m1 r m2, F_X8_mean S As m1 = some (r, m2) → xi_Sound l E S D vwCl tys xNs xTs yX8_mean cX8_mean 2 (some .int) 1 As m1 r m2 := by
  intro As m1 r m2 h
  unfold F_X8_mean at h
  split at h
  · exact xi_meth (P := P_X8_mean S) (by decide) hC.1 (po_X8_mean hC) (Nat.le_of_ble_eq_true rfl) rfl (xe_X8_mean _ _ _ h)
  · exact xi_no h
theorem i_X8_text_0 : xi_dc cX8_text 0 = some (.iload_n 1, 1) := by decide +kernel
theorem i_X8_text_1 : xi_dc cX8_text 1 = some (.iconst 3, 1) := by decide +kernel
theorem i_X8_text_2 : xi_dc cX8_text 2 = some (.invokestatic 71, 3) := by decide +kernel
theorem i_X8_text_5 : xi_dc cX8_text 5 = some (.ifCond .eq 9, 3) := by decide +kernel
theorem t_X8_text_5 : ((5 : Nat) : Int) + 9 = ((14 : Nat) : Int) := by decide +kernel
theorem i_X8_text_8 : xi_dc cX8_text 8 = some (.iload_n 2, 1) := by decide +kernel
theorem i_X8_text_9 : xi_dc cX8_text 9 = some (.bipush 60, 2) := by decide +kernel
theorem i_X8_text_11 : xi_dc cX8_text 11 = some (.if_icmp .le 5, 3) := by decide +kernel
theorem t_X8_text_11 : ((11 : Nat) : Int) + 5 = ((16 : Nat) : Int) := by decide +kernel
theorem i_X8_text_14 : xi_dc cX8_text 14 = some (.iconst (-1), 1) := by decide +kernel
theorem i_X8_text_15 : xi_dc cX8_text 15 = some (.ireturn, 1) := by decide +kernel
theorem i_X8_text_16 : xi_dc cX8_text 16 = some (.aload_n 0, 1) := by decide +kernel
theorem i_X8_text_17 : xi_dc cX8_text 17 = some (.aload_n 0, 1) := by decide +kernel
theorem i_X8_text_18 : xi_dc cX8_text 18 = some (.getfield 15, 3) := by decide +kernel
theorem i_X8_text_21 : xi_dc cX8_text 21 = some (.iload_n 1, 1) := by decide +kernel
theorem i_X8_text_22 : xi_dc cX8_text 22 = some (.aaload, 1) := by decide +kernel
theorem i_X8_text_23 : xi_dc cX8_text 23 = some (.iload_n 2, 1) := by decide +kernel
theorem i_X8_text_24 : xi_dc cX8_text 24 = some (.bipush 32, 2) := by decide +kernel
theorem i_X8_text_26 : xi_dc cX8_text 26 = some (.invokevirtual 75, 3) := by decide +kernel
theorem i_X8_text_29 : xi_dc cX8_text 29 = some (.ireturn, 1) := by decide +kernel
def P_X8_text (S : xi_S) : xi_P := (xi_dc cX8_text, xi_tab xfl_X8, xi_tab xki_X8, xi_tab xkl_X8, xi_tab xcs_X8, xi_tab xcv_X8, xi_calls [(71, xi_wS 2 (F_X8_within S))], xi_calls [(75, xi_wV S 10 3 (F_X8_begun S))], 1)
theorem cc_X8_text_71 (S : xi_S) (a0 : Int32) (a1 : Int32) (m : xi_M) : (P_X8_text S).2.2.2.2.2.2.1 71 [.int a0, .int a1] m = (E_X8_within S a0 a1 m) := by
  show xi_calls [(71, xi_wS 2 (F_X8_within S))] 71 [.int a0, .int a1] m = _
  refine Eq.trans (b := xi_wS 2 (F_X8_within S) [.int a0, .int a1] m) (xi_calls_hit rfl) ?_
  exact xi_wS_eq rfl
theorem cc_X8_text_75 (S : xi_S) (a0 : Nat) (a1 : Nat) (a2 : Int32) (a3 : Int32) (m : xi_M) : (P_X8_text S).2.2.2.2.2.2.2.1 75 [.ref a0, .ref a1, .int a2, .int a3] m = (if S.1 a0 = 10 then E_X8_begun S a0 a1 a2 a3 m else none) := by
  show xi_calls [(75, xi_wV S 10 3 (F_X8_begun S))] 75 [.ref a0, .ref a1, .int a2, .int a3] m = _
  refine Eq.trans (b := xi_wV S 10 3 (F_X8_begun S) [.ref a0, .ref a1, .int a2, .int a3] m) (xi_calls_hit rfl) ?_
  exact xi_wV_eq rfl
def E_X8_text (S : xi_S) (v0 : Nat) (v1 : Int32) (v2 : Int32) (m : xi_M) : Option xi_R :=
  xi_bI (E_X8_within S v1 (Int32.ofInt 3) m) fun x2 m1 =>
  if x2 = 0 then
    some (some (.int (Int32.ofInt (-1))), m1)
  else
    if v2 ≤ ((Int8.ofInt 60).toInt32) then
      if S.1 v0 = 10 then (S.2.2 v0 1).bind fun b4 =>
        if (S.1 b4 = 1 ∨ S.1 b4 = 2) ∧ ¬ (v1 < 0 ∨ S.2.1 b4 ≤ Int32.toNatClampNeg v1) then (S.2.2 b4 (Int32.toNatClampNeg v1)).bind fun b6 =>
          xi_bI (if S.1 v0 = 10 then E_X8_begun S v0 b6 v2 ((Int8.ofInt 32).toInt32) m1 else none) fun x8 m7 =>
          some (some (.int x8), m7)
        else none
      else none
    else
      some (some (.int (Int32.ofInt (-1))), m1)
def F_X8_text (S : xi_S) : xi_F := fun As m => match As with
  | [.ref v0, .int v1, .int v2] => E_X8_text S v0 v1 v2 m
  | _ => none
set_option maxRecDepth 100000 in
set_option maxHeartbeats 4000000 in
theorem xe_X8_text {S : xi_S} {res : xi_R} (v0 : Nat) (v1 : Int32) (v2 : Int32) (m : xi_M) (h : E_X8_text S v0 v1 v2 m = some res) : xi_X S (P_X8_text S) (0, [some (.ref v0), some (.int v1), some (.int v2)], [], m) res := by
  unfold E_X8_text at h
  refine xr_iload_n i_X8_text_0 rfl (q := 1) rfl ?_
  refine xr_iconst i_X8_text_1 (q := 2) rfl ?_
  obtain ⟨x2, m1, em1, h⟩ := xi_bI_some h
  refine xr_SI i_X8_text_2 xcse_X8_71 rfl (As := [.int v1, .int (Int32.ofInt 3)]) rfl (rest := []) rfl ((cc_X8_text_71 S _ _ _).trans em1) (q := 5) rfl ?_
  by_cases c10 : x2 = 0
  · replace h := (if_pos c10).symm.trans h
    refine xr_ifCond_eq_p i_X8_text_5 c10 (q := 14) t_X8_text_5 (q2 := 8) rfl ?_
    refine xr_iconst i_X8_text_14 (q := 15) rfl ?_
    exact xr_ireturn i_X8_text_15 rfl h
  · replace h := (if_neg c10).symm.trans h
    refine xr_ifCond_eq_n i_X8_text_5 c10 (q := 14) t_X8_text_5 (q2 := 8) rfl ?_
    refine xr_iload_n i_X8_text_8 rfl (q := 9) rfl ?_
    refine xr_bipush i_X8_text_9 (q := 11) rfl ?_
    by_cases c9 : v2 ≤ ((Int8.ofInt 60).toInt32)
    · replace h := (if_pos c9).symm.trans h
      refine xr_if_icmp_le_p i_X8_text_11 c9 (q := 16) t_X8_text_11 (q2 := 14) rfl ?_
      refine xr_aload_n i_X8_text_16 rfl (q := 17) rfl ?_
      refine xr_aload_n i_X8_text_17 rfl (q := 18) rfl ?_
      obtain ⟨c3, h⟩ := xi_if_some h
      obtain ⟨b4, eb4, h⟩ := xi_bind_some h
      refine xr_getR i_X8_text_18 xfe_X8_15 c3 eb4 (q := 21) rfl ?_
      refine xr_iload_n i_X8_text_21 rfl (q := 22) rfl ?_
      obtain ⟨c5, h⟩ := xi_if_some h
      obtain ⟨b6, eb6, h⟩ := xi_bind_some h
      refine xr_aaload i_X8_text_22 c5 eb6 (q := 23) rfl ?_
      refine xr_iload_n i_X8_text_23 rfl (q := 24) rfl ?_
      refine xr_bipush i_X8_text_24 (q := 26) rfl ?_
      obtain ⟨x8, m7, em7, h⟩ := xi_bI_some h
      refine xr_VI i_X8_text_26 xcve_X8_75 rfl (As := [.ref v0, .ref b6, .int v2, .int ((Int8.ofInt 32).toInt32)]) rfl (rest := []) rfl ((cc_X8_text_75 S _ _ _ _ _).trans em7) (q := 29) rfl ?_
      exact xr_ireturn i_X8_text_29 rfl h
    · replace h := (if_neg c9).symm.trans h
      refine xr_if_icmp_le_n i_X8_text_11 c9 (q := 16) t_X8_text_11 (q2 := 14) rfl ?_
      refine xr_iconst i_X8_text_14 (q := 15) rfl ?_
      exact xr_ireturn i_X8_text_15 rfl h
set_option maxRecDepth 100000 in
theorem po_X8_text {l : Launch} {E : xi_E} {S : xi_S} {D : va_G} {tys : List (ClassId × FieldType)} (hC : xCx E S tys) : xi_Pok l E S D vwCl tys xNs RX8 xTs cX8_text 3 3 (P_X8_text S) := ⟨xi_dc_ok, by rw [hC.2]; exact xfo_X8, xkio_X8, xklo_X8, xi_calls_ok (ins := .invokestatic) (List.forall_mem_cons.mpr ⟨(xc_X8_71 (sn_X8_within hC) (by decide)), fun _ h => absurd h List.not_mem_nil⟩), xi_calls_ok (ins := .invokevirtual) (List.forall_mem_cons.mpr ⟨(xc_X8_75 hC.1 (sn_X8_begun hC) (by decide)), fun _ h => absurd h List.not_mem_nil⟩)⟩
theorem sn_X8_text {l : Launch} {E : xi_E} {S : xi_S} {D : va_G} {tys : List (ClassId × FieldType)} (hC : xCx E S tys) : ∀ As m1 r m2, F_X8_text S As m1 = some (r, m2) → xi_Sound l E S D vwCl tys xNs xTs yX8_text cX8_text 3 (some .int) 3 As m1 r m2 := by
  intro As m1 r m2 h
  unfold F_X8_text at h
  split at h
  · exact xi_meth (P := P_X8_text S) (by decide) hC.1 (po_X8_text hC) (Nat.le_of_ble_eq_true rfl) rfl (xe_X8_text _ _ _ _ h)
  · exact xi_no h
theorem i_X8_put_0 : xi_dc cX8_put 0 = some (.iload_n 1, 1) := by decide +kernel
theorem i_X8_put_1 : xi_dc cX8_put 1 = some (.iconst 3, 1) := by decide +kernel
theorem i_X8_put_2 : xi_dc cX8_put 2 = some (.invokestatic 71, 3) := by decide +kernel
theorem i_X8_put_5 : xi_dc cX8_put 5 = some (.ifCond .ne 5, 3) := by decide +kernel
theorem t_X8_put_5 : ((5 : Nat) : Int) + 5 = ((10 : Nat) : Int) := by decide +kernel
theorem i_X8_put_8 : xi_dc cX8_put 8 = some (.iconst (-1), 1) := by decide +kernel
theorem i_X8_put_9 : xi_dc cX8_put 9 = some (.ireturn, 1) := by decide +kernel
theorem i_X8_put_10 : xi_dc cX8_put 10 = some (.aload_n 0, 1) := by decide +kernel
theorem i_X8_put_11 : xi_dc cX8_put 11 = some (.getfield 15, 3) := by decide +kernel
theorem i_X8_put_14 : xi_dc cX8_put 14 = some (.iload_n 1, 1) := by decide +kernel
theorem i_X8_put_15 : xi_dc cX8_put 15 = some (.aaload, 1) := by decide +kernel
theorem i_X8_put_16 : xi_dc cX8_put 16 = some (.iload_n 2, 1) := by decide +kernel
theorem i_X8_put_17 : xi_dc cX8_put 17 = some (.invokevirtual 79, 3) := by decide +kernel
theorem i_X8_put_20 : xi_dc cX8_put 20 = some (.istore 4, 2) := by decide +kernel
theorem i_X8_put_22 : xi_dc cX8_put 22 = some (.iload 4, 2) := by decide +kernel
theorem i_X8_put_24 : xi_dc cX8_put 24 = some (.ifCond .eq 10, 3) := by decide +kernel
theorem t_X8_put_24 : ((24 : Nat) : Int) + 10 = ((34 : Nat) : Int) := by decide +kernel
theorem i_X8_put_27 : xi_dc cX8_put 27 = some (.aload_n 0, 1) := by decide +kernel
theorem i_X8_put_28 : xi_dc cX8_put 28 = some (.iload 4, 2) := by decide +kernel
theorem i_X8_put_30 : xi_dc cX8_put 30 = some (.invokevirtual 83, 3) := by decide +kernel
theorem i_X8_put_33 : xi_dc cX8_put 33 = some (.ireturn, 1) := by decide +kernel
theorem i_X8_put_34 : xi_dc cX8_put 34 = some (.aload_n 0, 1) := by decide +kernel
theorem i_X8_put_35 : xi_dc cX8_put 35 = some (.getfield 15, 3) := by decide +kernel
theorem i_X8_put_38 : xi_dc cX8_put 38 = some (.iload_n 1, 1) := by decide +kernel
theorem i_X8_put_39 : xi_dc cX8_put 39 = some (.aaload, 1) := by decide +kernel
theorem i_X8_put_40 : xi_dc cX8_put 40 = some (.getfield 86, 3) := by decide +kernel
theorem i_X8_put_43 : xi_dc cX8_put 43 = some (.iload_n 2, 1) := by decide +kernel
theorem i_X8_put_44 : xi_dc cX8_put 44 = some (.iaload, 1) := by decide +kernel
theorem i_X8_put_45 : xi_dc cX8_put 45 = some (.istore 5, 2) := by decide +kernel
theorem i_X8_put_47 : xi_dc cX8_put 47 = some (.aload_n 0, 1) := by decide +kernel
theorem i_X8_put_48 : xi_dc cX8_put 48 = some (.getfield 15, 3) := by decide +kernel
theorem i_X8_put_51 : xi_dc cX8_put 51 = some (.iload_n 1, 1) := by decide +kernel
theorem i_X8_put_52 : xi_dc cX8_put 52 = some (.aaload, 1) := by decide +kernel
theorem i_X8_put_53 : xi_dc cX8_put 53 = some (.getfield 86, 3) := by decide +kernel
theorem i_X8_put_56 : xi_dc cX8_put 56 = some (.iload_n 2, 1) := by decide +kernel
theorem i_X8_put_57 : xi_dc cX8_put 57 = some (.iload_n 3, 1) := by decide +kernel
theorem i_X8_put_58 : xi_dc cX8_put 58 = some (.i2b, 1) := by decide +kernel
theorem i_X8_put_59 : xi_dc cX8_put 59 = some (.iastore, 1) := by decide +kernel
theorem i_X8_put_60 : xi_dc cX8_put 60 = some (.iload 5, 2) := by decide +kernel
theorem i_X8_put_62 : xi_dc cX8_put 62 = some (.sipush 1000, 3) := by decide +kernel
theorem i_X8_put_65 : xi_dc cX8_put 65 = some (.iadd, 1) := by decide +kernel
theorem i_X8_put_66 : xi_dc cX8_put 66 = some (.ireturn, 1) := by decide +kernel
def P_X8_put (S : xi_S) : xi_P := (xi_dc cX8_put, xi_tab xfl_X8, xi_tab xki_X8, xi_tab xkl_X8, xi_tab xcs_X8, xi_tab xcv_X8, xi_calls [(71, xi_wS 2 (F_X8_within S))], xi_calls [(79, xi_wV S 9 1 (F_X7_findingAt S)), (83, xi_wV S 10 1 (F_X8_refuse S))], 1)
theorem cc_X8_put_71 (S : xi_S) (a0 : Int32) (a1 : Int32) (m : xi_M) : (P_X8_put S).2.2.2.2.2.2.1 71 [.int a0, .int a1] m = (E_X8_within S a0 a1 m) := by
  show xi_calls [(71, xi_wS 2 (F_X8_within S))] 71 [.int a0, .int a1] m = _
  refine Eq.trans (b := xi_wS 2 (F_X8_within S) [.int a0, .int a1] m) (xi_calls_hit rfl) ?_
  exact xi_wS_eq rfl
theorem cc_X8_put_79 (S : xi_S) (a0 : Nat) (a1 : Int32) (m : xi_M) : (P_X8_put S).2.2.2.2.2.2.2.1 79 [.ref a0, .int a1] m = (if S.1 a0 = 9 then E_X7_findingAt S a0 a1 m else none) := by
  show xi_calls [(79, xi_wV S 9 1 (F_X7_findingAt S)), (83, xi_wV S 10 1 (F_X8_refuse S))] 79 [.ref a0, .int a1] m = _
  refine Eq.trans (b := xi_wV S 9 1 (F_X7_findingAt S) [.ref a0, .int a1] m) (xi_calls_hit rfl) ?_
  exact xi_wV_eq rfl
theorem cc_X8_put_83 (S : xi_S) (a0 : Nat) (a1 : Int32) (m : xi_M) : (P_X8_put S).2.2.2.2.2.2.2.1 83 [.ref a0, .int a1] m = (if S.1 a0 = 10 then E_X8_refuse S a0 a1 m else none) := by
  show xi_calls [(79, xi_wV S 9 1 (F_X7_findingAt S)), (83, xi_wV S 10 1 (F_X8_refuse S))] 83 [.ref a0, .int a1] m = _
  refine Eq.trans (b := xi_calls [(83, xi_wV S 10 1 (F_X8_refuse S))] 83 [.ref a0, .int a1] m) (xi_calls_miss rfl) ?_
  refine Eq.trans (b := xi_wV S 10 1 (F_X8_refuse S) [.ref a0, .int a1] m) (xi_calls_hit rfl) ?_
  exact xi_wV_eq rfl
def E_X8_put (S : xi_S) (v0 : Nat) (v1 : Int32) (v2 : Int32) (v3 : Int32) (m : xi_M) : Option xi_R :=
  xi_bI (E_X8_within S v1 (Int32.ofInt 3) m) fun x2 m1 =>
  if x2 = 0 then
    some (some (.int (Int32.ofInt (-1))), m1)
  else
    if S.1 v0 = 10 then (S.2.2 v0 1).bind fun b4 =>
      if (S.1 b4 = 1 ∨ S.1 b4 = 2) ∧ ¬ (v1 < 0 ∨ S.2.1 b4 ≤ Int32.toNatClampNeg v1) then (S.2.2 b4 (Int32.toNatClampNeg v1)).bind fun b6 =>
        xi_bI (if S.1 b6 = 9 then E_X7_findingAt S b6 v2 m1 else none) fun x8 m7 =>
        if x8 = 0 then
          if S.1 v0 = 10 then (S.2.2 v0 1).bind fun b10 =>
            if (S.1 b10 = 1 ∨ S.1 b10 = 2) ∧ ¬ (v1 < 0 ∨ S.2.1 b10 ≤ Int32.toNatClampNeg v1) then (S.2.2 b10 (Int32.toNatClampNeg v1)).bind fun b12 =>
              if S.1 b12 = 9 then (S.2.2 b12 2).bind fun b14 =>
                if S.1 b14 = 0 ∧ ¬ (v2 < 0 ∨ S.2.1 b14 ≤ Int32.toNatClampNeg v2) then
                  if S.1 v0 = 10 then (S.2.2 v0 1).bind fun b17 =>
                    if (S.1 b17 = 1 ∨ S.1 b17 = 2) ∧ ¬ (v1 < 0 ∨ S.2.1 b17 ≤ Int32.toNatClampNeg v1) then (S.2.2 b17 (Int32.toNatClampNeg v1)).bind fun b19 =>
                      if S.1 b19 = 9 then (S.2.2 b19 2).bind fun b21 =>
                        if S.1 b21 = 0 ∧ ¬ (v2 < 0 ∨ S.2.1 b21 ≤ Int32.toNatClampNeg v2) then
                          some (some (.int ((m7.1 b14 (Int32.toNatClampNeg v2)) + ((Int16.ofInt 1000).toInt32))), (xi_wI m7 b21 (Int32.toNatClampNeg v2) (Int8.toInt32 (Int32.toInt8 v3))))
                        else none
                      else none
                    else none
                  else none
                else none
              else none
            else none
          else none
        else
          xi_bI (if S.1 v0 = 10 then E_X8_refuse S v0 x8 m7 else none) fun x24 m23 =>
          some (some (.int x24), m23)
      else none
    else none
def F_X8_put (S : xi_S) : xi_F := fun As m => match As with
  | [.ref v0, .int v1, .int v2, .int v3] => E_X8_put S v0 v1 v2 v3 m
  | _ => none
set_option maxRecDepth 100000 in
set_option maxHeartbeats 4000000 in
theorem xe_X8_put {S : xi_S} {res : xi_R} (v0 : Nat) (v1 : Int32) (v2 : Int32) (v3 : Int32) (m : xi_M) (h : E_X8_put S v0 v1 v2 v3 m = some res) : xi_X S (P_X8_put S) (0, [some (.ref v0), some (.int v1), some (.int v2), some (.int v3), none, none], [], m) res := by
  unfold E_X8_put at h
  refine xr_iload_n i_X8_put_0 rfl (q := 1) rfl ?_
  refine xr_iconst i_X8_put_1 (q := 2) rfl ?_
  obtain ⟨x2, m1, em1, h⟩ := xi_bI_some h
  refine xr_SI i_X8_put_2 xcse_X8_71 rfl (As := [.int v1, .int (Int32.ofInt 3)]) rfl (rest := []) rfl ((cc_X8_put_71 S _ _ _).trans em1) (q := 5) rfl ?_
  by_cases c26 : x2 = 0
  · replace h := (if_pos c26).symm.trans h
    refine xr_ifCond_ne_p i_X8_put_5 c26 (q := 10) t_X8_put_5 (q2 := 8) rfl ?_
    refine xr_iconst i_X8_put_8 (q := 9) rfl ?_
    exact xr_ireturn i_X8_put_9 rfl h
  · replace h := (if_neg c26).symm.trans h
    refine xr_ifCond_ne_n i_X8_put_5 c26 (q := 10) t_X8_put_5 (q2 := 8) rfl ?_
    refine xr_aload_n i_X8_put_10 rfl (q := 11) rfl ?_
    obtain ⟨c3, h⟩ := xi_if_some h
    obtain ⟨b4, eb4, h⟩ := xi_bind_some h
    refine xr_getR i_X8_put_11 xfe_X8_15 c3 eb4 (q := 14) rfl ?_
    refine xr_iload_n i_X8_put_14 rfl (q := 15) rfl ?_
    obtain ⟨c5, h⟩ := xi_if_some h
    obtain ⟨b6, eb6, h⟩ := xi_bind_some h
    refine xr_aaload i_X8_put_15 c5 eb6 (q := 16) rfl ?_
    refine xr_iload_n i_X8_put_16 rfl (q := 17) rfl ?_
    obtain ⟨x8, m7, em7, h⟩ := xi_bI_some h
    refine xr_VI i_X8_put_17 xcve_X8_79 rfl (As := [.ref b6, .int v2]) rfl (rest := []) rfl ((cc_X8_put_79 S _ _ _).trans em7) (q := 20) rfl ?_
    refine xr_istore i_X8_put_20 rfl (L2 := [some (.ref v0), some (.int v1), some (.int v2), some (.int v3), some (.int x8), none]) rfl (q := 22) rfl ?_
    refine xr_iload i_X8_put_22 rfl (q := 24) rfl ?_
    by_cases c25 : x8 = 0
    · replace h := (if_pos c25).symm.trans h
      refine xr_ifCond_eq_p i_X8_put_24 c25 (q := 34) t_X8_put_24 (q2 := 27) rfl ?_
      refine xr_aload_n i_X8_put_34 rfl (q := 35) rfl ?_
      obtain ⟨c9, h⟩ := xi_if_some h
      obtain ⟨b10, eb10, h⟩ := xi_bind_some h
      refine xr_getR i_X8_put_35 xfe_X8_15 c9 eb10 (q := 38) rfl ?_
      refine xr_iload_n i_X8_put_38 rfl (q := 39) rfl ?_
      obtain ⟨c11, h⟩ := xi_if_some h
      obtain ⟨b12, eb12, h⟩ := xi_bind_some h
      refine xr_aaload i_X8_put_39 c11 eb12 (q := 40) rfl ?_
      obtain ⟨c13, h⟩ := xi_if_some h
      obtain ⟨b14, eb14, h⟩ := xi_bind_some h
      refine xr_getR i_X8_put_40 xfe_X8_86 c13 eb14 (q := 43) rfl ?_
      refine xr_iload_n i_X8_put_43 rfl (q := 44) rfl ?_
      obtain ⟨c15, h⟩ := xi_if_some h
      refine xr_iaload i_X8_put_44 c15 (q := 45) rfl ?_
      refine xr_istore i_X8_put_45 rfl (L2 := [some (.ref v0), some (.int v1), some (.int v2), some (.int v3), some (.int x8), some (.int (m7.1 b14 (Int32.toNatClampNeg v2)))]) rfl (q := 47) rfl ?_
      refine xr_aload_n i_X8_put_47 rfl (q := 48) rfl ?_
      obtain ⟨c16, h⟩ := xi_if_some h
      obtain ⟨b17, eb17, h⟩ := xi_bind_some h
      refine xr_getR i_X8_put_48 xfe_X8_15 c16 eb17 (q := 51) rfl ?_
      refine xr_iload_n i_X8_put_51 rfl (q := 52) rfl ?_
      obtain ⟨c18, h⟩ := xi_if_some h
      obtain ⟨b19, eb19, h⟩ := xi_bind_some h
      refine xr_aaload i_X8_put_52 c18 eb19 (q := 53) rfl ?_
      obtain ⟨c20, h⟩ := xi_if_some h
      obtain ⟨b21, eb21, h⟩ := xi_bind_some h
      refine xr_getR i_X8_put_53 xfe_X8_86 c20 eb21 (q := 56) rfl ?_
      refine xr_iload_n i_X8_put_56 rfl (q := 57) rfl ?_
      refine xr_iload_n i_X8_put_57 rfl (q := 58) rfl ?_
      refine xr_i2b i_X8_put_58 (q := 59) rfl ?_
      obtain ⟨c22, h⟩ := xi_if_some h
      refine xr_iastore i_X8_put_59 c22 (q := 60) rfl ?_
      refine xr_iload i_X8_put_60 rfl (q := 62) rfl ?_
      refine xr_sipush i_X8_put_62 (q := 65) rfl ?_
      refine xr_iadd i_X8_put_65 (q := 66) rfl ?_
      exact xr_ireturn i_X8_put_66 rfl h
    · replace h := (if_neg c25).symm.trans h
      refine xr_ifCond_eq_n i_X8_put_24 c25 (q := 34) t_X8_put_24 (q2 := 27) rfl ?_
      refine xr_aload_n i_X8_put_27 rfl (q := 28) rfl ?_
      refine xr_iload i_X8_put_28 rfl (q := 30) rfl ?_
      obtain ⟨x24, m23, em23, h⟩ := xi_bI_some h
      refine xr_VI i_X8_put_30 xcve_X8_83 rfl (As := [.ref v0, .int x8]) rfl (rest := []) rfl ((cc_X8_put_83 S _ _ _).trans em23) (q := 33) rfl ?_
      exact xr_ireturn i_X8_put_33 rfl h
set_option maxRecDepth 100000 in
theorem po_X8_put {l : Launch} {E : xi_E} {S : xi_S} {D : va_G} {tys : List (ClassId × FieldType)} (hC : xCx E S tys) : xi_Pok l E S D vwCl tys xNs RX8 xTs cX8_put 6 1 (P_X8_put S) := ⟨xi_dc_ok, by rw [hC.2]; exact xfo_X8, xkio_X8, xklo_X8, xi_calls_ok (ins := .invokestatic) (List.forall_mem_cons.mpr ⟨(xc_X8_71 (sn_X8_within hC) (by decide)), fun _ h => absurd h List.not_mem_nil⟩), xi_calls_ok (ins := .invokevirtual) (List.forall_mem_cons.mpr ⟨(xc_X8_79 hC.1 (sn_X7_findingAt hC) (by decide)), List.forall_mem_cons.mpr ⟨(xc_X8_83 hC.1 (sn_X8_refuse hC) (by decide)), fun _ h => absurd h List.not_mem_nil⟩⟩)⟩
theorem sn_X8_put {l : Launch} {E : xi_E} {S : xi_S} {D : va_G} {tys : List (ClassId × FieldType)} (hC : xCx E S tys) : ∀ As m1 r m2, F_X8_put S As m1 = some (r, m2) → xi_Sound l E S D vwCl tys xNs xTs yX8_put cX8_put 6 (some .int) 1 As m1 r m2 := by
  intro As m1 r m2 h
  unfold F_X8_put at h
  split at h
  · exact xi_meth (P := P_X8_put S) (by decide) hC.1 (po_X8_put hC) (Nat.le_of_ble_eq_true rfl) rfl (xe_X8_put _ _ _ _ _ h)
  · exact xi_no h
